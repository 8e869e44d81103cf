theorem dr_cX14_breaks_0 : decode cX14_breaks 0 = .ok (.aload_n 0, 1) := by decide +kernel
theorem dr_cX14_breaks_1 : decode cX14_breaks 1 = .ok (.getfield 17, 3) := by decide +kernel
theorem wr_9_44 : (Jvm.Cond.fieldLink "SpillForgeModel$Reader" (17 : Nat) "SpillForgeModel$Reader" "rulePlace" "I") ∈ gw := gw_9 44 rfl rfl
theorem dr_cX14_breaks_4 : decode cX14_breaks 4 = .ok (.ifCond .lt 27, 3) := by decide +kernel
theorem dr_cX14_breaks_31 : decode cX14_breaks 31 = .ok (.aload_n 0, 1) := by decide +kernel
theorem dr_cX14_breaks_32 : decode cX14_breaks 32 = .ok (.iload_n 2, 1) := by decide +kernel
theorem dr_cX14_breaks_33 : decode cX14_breaks 33 = .ok (.putfield 17, 3) := by decide +kernel
theorem dr_cX14_breaks_36 : decode cX14_breaks 36 = .ok (.aload_n 0, 1) := by decide +kernel
theorem dr_cX14_breaks_37 : decode cX14_breaks 37 = .ok (.iload_n 1, 1) := by decide +kernel
theorem dr_cX14_breaks_38 : decode cX14_breaks 38 = .ok (.putfield 140, 3) := by decide +kernel
theorem wr_9_46 : (Jvm.Cond.fieldLink "SpillForgeModel$Reader" (140 : Nat) "SpillForgeModel$Reader" "rule" "I") ∈ gw := gw_9 46 rfl rfl
theorem dr_cX14_breaks_41 : decode cX14_breaks 41 = .ok (.return_, 1) := by decide +kernel
theorem dr_cX14_breaks_7 : decode cX14_breaks 7 = .ok (.iload_n 2, 1) := by decide +kernel
theorem dr_cX14_breaks_8 : decode cX14_breaks 8 = .ok (.aload_n 0, 1) := by decide +kernel
theorem dr_cX14_breaks_9 : decode cX14_breaks 9 = .ok (.getfield 17, 3) := by decide +kernel
theorem dr_cX14_breaks_12 : decode cX14_breaks 12 = .ok (.if_icmp .lt 19, 3) := by decide +kernel
theorem dr_cX14_breaks_15 : decode cX14_breaks 15 = .ok (.iload_n 2, 1) := by decide +kernel
theorem dr_cX14_breaks_16 : decode cX14_breaks 16 = .ok (.aload_n 0, 1) := by decide +kernel
theorem dr_cX14_breaks_17 : decode cX14_breaks 17 = .ok (.getfield 17, 3) := by decide +kernel
theorem dr_cX14_breaks_20 : decode cX14_breaks 20 = .ok (.if_icmp .ne 21, 3) := by decide +kernel
theorem dr_cX14_breaks_23 : decode cX14_breaks 23 = .ok (.iload_n 1, 1) := by decide +kernel
theorem dr_cX14_breaks_24 : decode cX14_breaks 24 = .ok (.aload_n 0, 1) := by decide +kernel
theorem dr_cX14_breaks_25 : decode cX14_breaks 25 = .ok (.getfield 140, 3) := by decide +kernel
theorem dr_cX14_breaks_28 : decode cX14_breaks 28 = .ok (.if_icmp .ge 13, 3) := by decide +kernel
theorem dr_cX14_operand_0 : decode cX14_operand 0 = .ok (.aload_n 0, 1) := by decide +kernel
theorem dr_cX14_operand_1 : decode cX14_operand 1 = .ok (.getfield 38, 3) := by decide +kernel
theorem dr_cX14_operand_4 : decode cX14_operand 4 = .ok (.iconst 2, 1) := by decide +kernel
theorem dr_cX14_operand_5 : decode cX14_operand 5 = .ok (.if_icmp .ne 7, 3) := by decide +kernel
theorem dr_cX14_operand_12 : decode cX14_operand 12 = .ok (.iconst 0, 1) := by decide +kernel
theorem dr_cX14_operand_13 : decode cX14_operand 13 = .ok (.istore_n 3, 1) := by decide +kernel
theorem dr_cX14_operand_14 : decode cX14_operand 14 = .ok (.iload_n 3, 1) := by decide +kernel
theorem dr_cX14_operand_15 : decode cX14_operand 15 = .ok (.ifCond .ne 16, 3) := by decide +kernel
theorem dr_cX14_operand_18 : decode cX14_operand 18 = .ok (.aload_n 0, 1) := by decide +kernel
theorem dr_cX14_operand_19 : decode cX14_operand 19 = .ok (.getfield 38, 3) := by decide +kernel
theorem dr_cX14_operand_22 : decode cX14_operand 22 = .ok (.iconst 4, 1) := by decide +kernel
theorem dr_cX14_operand_23 : decode cX14_operand 23 = .ok (.if_icmp .eq 8, 3) := by decide +kernel
theorem dr_cX14_operand_31 : decode cX14_operand 31 = .ok (.iload_n 2, 1) := by decide +kernel
theorem dr_cX14_operand_32 : decode cX14_operand 32 = .ok (.ifCond .eq 19, 3) := by decide +kernel
theorem dr_cX14_operand_51 : decode cX14_operand 51 = .ok (.aload_n 1, 1) := by decide +kernel
theorem dr_cX14_operand_52 : decode cX14_operand 52 = .ok (.aload_n 0, 1) := by decide +kernel
theorem dr_cX14_operand_53 : decode cX14_operand 53 = .ok (.getfield 80, 3) := by decide +kernel
theorem dr_cX14_operand_56 : decode cX14_operand 56 = .ok (.putfield 214, 3) := by decide +kernel
theorem wr_9_187 : (Jvm.Cond.fieldLink "SpillForgeModel$Reader" (214 : Nat) "SpillForgeModel$Row" "a" "I") ∈ gw := gw_9 187 rfl rfl
theorem dr_cX14_operand_59 : decode cX14_operand 59 = .ok (.aload_n 1, 1) := by decide +kernel
theorem dr_cX14_operand_60 : decode cX14_operand 60 = .ok (.iload_n 3, 1) := by decide +kernel
theorem dr_cX14_operand_61 : decode cX14_operand 61 = .ok (.putfield 217, 3) := by decide +kernel
theorem wr_9_198 : (Jvm.Cond.fieldLink "SpillForgeModel$Reader" (217 : Nat) "SpillForgeModel$Row" "regA" "Z") ∈ gw := gw_9 198 rfl rfl
theorem dr_cX14_operand_64 : decode cX14_operand 64 = .ok (.aload_n 0, 1) := by decide +kernel
theorem dr_cX14_operand_65 : decode cX14_operand 65 = .ok (.invokevirtual 35, 3) := by decide +kernel
theorem dr_cX14_operand_68 : decode cX14_operand 68 = .ok (.return_, 1) := by decide +kernel
theorem dr_cX14_operand_35 : decode cX14_operand 35 = .ok (.aload_n 1, 1) := by decide +kernel
theorem dr_cX14_operand_36 : decode cX14_operand 36 = .ok (.aload_n 0, 1) := by decide +kernel
theorem dr_cX14_operand_37 : decode cX14_operand 37 = .ok (.getfield 80, 3) := by decide +kernel
theorem dr_cX14_operand_40 : decode cX14_operand 40 = .ok (.putfield 205, 3) := by decide +kernel
theorem wr_9_191 : (Jvm.Cond.fieldLink "SpillForgeModel$Reader" (205 : Nat) "SpillForgeModel$Row" "b" "I") ∈ gw := gw_9 191 rfl rfl
theorem dr_cX14_operand_43 : decode cX14_operand 43 = .ok (.aload_n 1, 1) := by decide +kernel
theorem dr_cX14_operand_44 : decode cX14_operand 44 = .ok (.iload_n 3, 1) := by decide +kernel
theorem dr_cX14_operand_45 : decode cX14_operand 45 = .ok (.putfield 210, 3) := by decide +kernel
theorem wr_9_201 : (Jvm.Cond.fieldLink "SpillForgeModel$Reader" (210 : Nat) "SpillForgeModel$Row" "regB" "Z") ∈ gw := gw_9 201 rfl rfl
theorem dr_cX14_operand_48 : decode cX14_operand 48 = .ok (.goto 16, 3) := by decide +kernel
theorem dr_cX14_operand_26 : decode cX14_operand 26 = .ok (.aload_n 0, 1) := by decide +kernel
theorem dr_cX14_operand_27 : decode cX14_operand 27 = .ok (.invokevirtual 136, 3) := by decide +kernel
theorem dr_cX14_operand_30 : decode cX14_operand 30 = .ok (.athrow, 1) := by decide +kernel
theorem dr_cX14_operand_8 : decode cX14_operand 8 = .ok (.iconst 1, 1) := by decide +kernel
theorem dr_cX14_operand_9 : decode cX14_operand 9 = .ok (.goto 4, 3) := by decide +kernel
theorem dr_cX17_operation_0 : decode cX17_operation 0 = .ok (.ldc 3, 2) := by decide +kernel
theorem dr_cX17_operation_2 : decode cX17_operation 2 = .ok (.new 5, 3) := by decide +kernel
theorem wr_7_43 : (Jvm.Cond.classLink "SpillForgeModel" (5 : Nat) "java/lang/StringBuilder") ∈ gw := gw_7 43 rfl rfl
theorem dr_cX17_operation_5 : decode cX17_operation 5 = .ok (.dup, 1) := by decide +kernel
theorem dr_cX17_operation_6 : decode cX17_operation 6 = .ok (.invokespecial 7, 3) := by decide +kernel
theorem wr_7_45 : (Jvm.Cond.methodLink "SpillForgeModel" (7 : Nat) ({ cls := "java/lang/StringBuilder", name := "<init>", desc := "()V" } : Jvm.MethodName)) ∈ gw := gw_7 45 rfl rfl
theorem dr_cX17_operation_9 : decode cX17_operation 9 = .ok (.ldc 11, 2) := by decide +kernel
theorem dr_cX17_operation_11 : decode cX17_operation 11 = .ok (.invokevirtual 13, 3) := by decide +kernel
theorem wr_10_100 : (Jvm.Cond.methodLink "SpillForgeModel" (13 : Nat) ({ cls := "java/lang/StringBuilder", name := "append", desc := "(Ljava/lang/String;)Ljava/lang/StringBuilder;" } : Jvm.MethodName)) ∈ gw := gw_10 100 rfl rfl
theorem dr_cX17_operation_14 : decode cX17_operation 14 = .ok (.aload_n 0, 1) := by decide +kernel
theorem dr_cX17_operation_15 : decode cX17_operation 15 = .ok (.invokevirtual 13, 3) := by decide +kernel
theorem dr_cX17_operation_18 : decode cX17_operation 18 = .ok (.ldc 11, 2) := by decide +kernel
theorem dr_cX17_operation_20 : decode cX17_operation 20 = .ok (.invokevirtual 13, 3) := by decide +kernel
theorem dr_cX17_operation_23 : decode cX17_operation 23 = .ok (.invokevirtual 17, 3) := by decide +kernel
theorem wr_10_101 : (Jvm.Cond.methodLink "SpillForgeModel" (17 : Nat) ({ cls := "java/lang/StringBuilder", name := "toString", desc := "()Ljava/lang/String;" } : Jvm.MethodName)) ∈ gw := gw_10 101 rfl rfl
theorem dr_cX17_operation_26 : decode cX17_operation 26 = .ok (.invokevirtual 21, 3) := by decide +kernel
theorem wr_10_102 : (Jvm.Cond.methodLink "SpillForgeModel" (21 : Nat) ({ cls := "java/lang/String", name := "indexOf", desc := "(Ljava/lang/String;)I" } : Jvm.MethodName)) ∈ gw := gw_10 102 rfl rfl
theorem dr_cX17_operation_29 : decode cX17_operation 29 = .ok (.istore_n 1, 1) := by decide +kernel
theorem dr_cX17_operation_30 : decode cX17_operation 30 = .ok (.iload_n 1, 1) := by decide +kernel
theorem dr_cX17_operation_31 : decode cX17_operation 31 = .ok (.ifCond .ge 5, 3) := by decide +kernel
theorem dr_cX17_operation_36 : decode cX17_operation 36 = .ok (.iconst 1, 1) := by decide +kernel
theorem dr_cX17_operation_37 : decode cX17_operation 37 = .ok (.istore_n 2, 1) := by decide +kernel
theorem dr_cX17_operation_38 : decode cX17_operation 38 = .ok (.iconst 0, 1) := by decide +kernel
theorem dr_cX17_operation_39 : decode cX17_operation 39 = .ok (.istore_n 3, 1) := by decide +kernel
theorem dr_cX17_operation_40 : decode cX17_operation 40 = .ok (.iload_n 3, 1) := by decide +kernel
theorem dr_cX17_operation_41 : decode cX17_operation 41 = .ok (.iload_n 1, 1) := by decide +kernel
theorem dr_cX17_operation_42 : decode cX17_operation 42 = .ok (.if_icmp .ge 28, 3) := by decide +kernel
theorem dr_cX17_operation_70 : decode cX17_operation 70 = .ok (.iload_n 2, 1) := by decide +kernel
theorem dr_cX17_operation_71 : decode cX17_operation 71 = .ok (.ireturn, 1) := by decide +kernel
theorem dr_cX17_operation_45 : decode cX17_operation 45 = .ok (.iload_n 2, 1) := by decide +kernel
theorem dr_cX17_operation_46 : decode cX17_operation 46 = .ok (.ldc 3, 2) := by decide +kernel
theorem dr_cX17_operation_48 : decode cX17_operation 48 = .ok (.iload_n 3, 1) := by decide +kernel
theorem dr_cX17_operation_49 : decode cX17_operation 49 = .ok (.invokevirtual 27, 3) := by decide +kernel
theorem wr_10_103 : (Jvm.Cond.methodLink "SpillForgeModel" (27 : Nat) ({ cls := "java/lang/String", name := "charAt", desc := "(I)C" } : Jvm.MethodName)) ∈ gw := gw_10 103 rfl rfl
theorem wr_3_70 : (Jvm.Cond.code ({ cls := "java/lang/String", name := "charAt", desc := "(I)C" } : Jvm.MethodName) prog_34_method_56_code (2 : Nat) (Option.some Jvm.ClassFile.FieldType.char)) ∈ gw := gw_3 70 rfl rfl
theorem wr_3_68 : (Jvm.Cond.instanceMethod ({ cls := "java/lang/String", name := "charAt", desc := "(I)C" } : Jvm.MethodName)) ∈ gw := gw_3 68 rfl rfl
theorem wr_3_69 : (Jvm.Cond.selects "java/lang/String" ({ cls := "java/lang/String", name := "charAt", desc := "(I)C" } : Jvm.MethodName) ({ cls := "java/lang/String", name := "charAt", desc := "(I)C" } : Jvm.MethodName)) ∈ gw := gw_3 69 rfl rfl
theorem dr_cX17_operation_52 : decode cX17_operation 52 = .ok (.bipush 32, 2) := by decide +kernel
theorem dr_cX17_operation_54 : decode cX17_operation 54 = .ok (.if_icmp .ne 7, 3) := by decide +kernel
theorem dr_cX17_operation_61 : decode cX17_operation 61 = .ok (.iconst 0, 1) := by decide +kernel
theorem dr_cX17_operation_62 : decode cX17_operation 62 = .ok (.iadd, 1) := by decide +kernel
theorem dr_cX17_operation_63 : decode cX17_operation 63 = .ok (.istore_n 2, 1) := by decide +kernel
theorem dr_cX17_operation_64 : decode cX17_operation 64 = .ok (.iinc 3 1, 3) := by decide +kernel
theorem dr_cX17_operation_67 : decode cX17_operation 67 = .ok (.goto (-27), 3) := by decide +kernel
theorem dr_cX17_operation_57 : decode cX17_operation 57 = .ok (.iconst 1, 1) := by decide +kernel
theorem dr_cX17_operation_58 : decode cX17_operation 58 = .ok (.goto 4, 3) := by decide +kernel
theorem dr_cX17_operation_34 : decode cX17_operation 34 = .ok (.iconst 0, 1) := by decide +kernel
theorem dr_cX17_operation_35 : decode cX17_operation 35 = .ok (.ireturn, 1) := by decide +kernel
abbrev ky_655891_Reader_breaks : gKey := (cX14_breaks, 3, "SpillForgeModel$Reader", none, [], "breaks", fun _ _ => True)
def pp_655891_Reader_breaks (D : va_G) (I : FieldType → ClassId) (P655871 : List Nat) (F655872 : Nat → va_E) (q655873 : Nat) (q655874 : Nat) (p655875 : Int32) (p655876 : Int32) (p655877 : Int32) (p655878 : Int32) (p655879 : Int32) (p655880 : Int32) (p655881 : Int32) (p655882 : Int32) (qo655883 : Nat) (p655884 : Int32) (p655885 : Int32) (p655886 : Int32) (qo655887 : Nat) (qo655888 : Nat) (p655889 : Int32) (f655890 : Nat → Int32) : Option Value → va_W → Nat → Nat → Prop := fun r w dc ds => ∃ (F655943 : Nat → va_E) (o655940 : Int32) (o655941 : Int32), r = none ∧ w = va_pl P655871 F655943 ∧ rFr [q655873] P655871 F655872 F655943 ∧ F655943 q655873 = .inr (19, [.ref q655874, .int p655877, .int p655878, .int p655879, .int p655880, .int p655881, .int p655882, .ref qo655883, .int o655940, .int o655941, .int p655886, .ref qo655887, .ref qo655888, .int p655889]) ∧ F655943 q655874 = .inl (I .byte, 8192, .inl f655890) ∧ dc ≤ 0 ∧ ds ≤ 0 ∧ gB o655940 0 8192 ∧ gB o655941 0 4
set_option maxRecDepth 100000 in
set_option maxHeartbeats 4000000 in
theorem cp_655891_Reader_breaks (l : Launch) (hl0 : l.stackTraces = false) (D : va_G) (I : FieldType → ClassId) (P655871 : List Nat) (F655872 : Nat → va_E) (q655873 : Nat) (q655874 : Nat) (p655875 : Int32) (p655876 : Int32) (p655877 : Int32) (p655878 : Int32) (p655879 : Int32) (p655880 : Int32) (p655881 : Int32) (p655882 : Int32) (qo655883 : Nat) (p655884 : Int32) (p655885 : Int32) (p655886 : Int32) (qo655887 : Nat) (qo655888 : Nat) (p655889 : Int32) (f655890 : Nat → Int32) (hmq655873 : q655873 ∈ P655871) (hmq655874 : q655874 ∈ P655871) (heq655873 : F655872 q655873 = .inr (19, [.ref q655874, .int p655877, .int p655878, .int p655879, .int p655880, .int p655881, .int p655882, .ref qo655883, .int p655884, .int p655885, .int p655886, .ref qo655887, .ref qo655888, .int p655889])) (heq655874 : F655872 q655874 = .inl (I .byte, 8192, .inl f655890)) (bp655875 : gB p655875 0 4) (bp655876 : gB p655876 0 8192) (bp655877 : gB p655877 0 8192) (bp655878 : gB p655878 0 8192) (bp655879 : gB p655879 0 6) (bp655880 : gB p655880 0 8192) (bp655882 : gB p655882 0 6) (bp655884 : gB p655884 (-1) 8192) (bp655885 : gB p655885 0 4) (bp655886 : gB p655886 0 1000000) (bp655889 : gB p655889 0 1000000) (bf655890 : gF f655890 (-128) 127) : CtA (gV D I) l yX14_breaks cX14_breaks 3 none 0 0 0 0 [.ref q655873, .int p655875, .int p655876] (va_pl P655871 F655872) (pp_655891_Reader_breaks D I P655871 F655872 q655873 q655874 p655875 p655876 p655877 p655878 p655879 p655880 p655881 p655882 qo655883 p655884 p655885 p655886 qo655887 qo655888 p655889 f655890) gNA := by
  refine CtA_of hl0 (by decide) (Nat.le_of_ble_eq_true rfl) ?_
  have bp655881 := gB_any p655881
  refine G_aload_n 0 dr_cX14_breaks_0 rfl ?_
  refine Gp_get 8 hmq655873 heq655873 dr_cX14_breaks_1 (gk_X14 D I) (Nat.le_of_ble_eq_true rfl) wr_9_44 rfl ?_
  refine G_if_lt 31 dr_cX14_breaks_4 (by decide +kernel) (fun hc655892 => ?_) (fun hc655892 => ?_)
  · have r655893 : p655884.toInt < 0 := gj_lt hc655892 (show Int32.toInt 0 = 0 by decide)
    have bp655884' : gB p655884 (-1) (-1) := ⟨by omega, by omega⟩
    refine G_aload_n 0 dr_cX14_breaks_31 rfl ?_
    refine G_iload_n 2 dr_cX14_breaks_32 rfl ?_
    refine Gp_put 8 hmq655873 heq655873 dr_cX14_breaks_33 (gk_X14 D I) (Nat.le_of_ble_eq_true rfl) wr_9_44 rfl rfl rfl (Nat.le_of_ble_eq_true rfl) (fun F655894 e655895 n655896 => ?_)
    have he655897 : F655894 q655874 = .inl (I .byte, 8192, .inl f655890) := (n655896 q655874 (rn_ao heq655874 heq655873)).trans heq655874
    have he655898 : F655894 q655873 = .inr (19, [.ref q655874, .int p655877, .int p655878, .int p655879, .int p655880, .int p655881, .int p655882, .ref qo655883, .int p655876, .int p655885, .int p655886, .ref qo655887, .ref qo655888, .int p655889]) := e655895
    have hfr655899 : rFr [q655873] P655871 F655872 F655894 := rFr_put (rFr_rf (W := []) (P := P655871) (F := F655872)) n655896
    refine G_aload_n 0 dr_cX14_breaks_36 rfl ?_
    refine G_iload_n 1 dr_cX14_breaks_37 rfl ?_
    refine Gp_put 9 hmq655873 he655898 dr_cX14_breaks_38 (gk_X14 D I) (Nat.le_of_ble_eq_true rfl) wr_9_46 rfl rfl rfl (Nat.le_of_ble_eq_true rfl) (fun F655900 e655901 n655902 => ?_)
    have he655903 : F655900 q655874 = .inl (I .byte, 8192, .inl f655890) := (n655902 q655874 (rn_ao he655897 he655898)).trans he655897
    have he655904 : F655900 q655873 = .inr (19, [.ref q655874, .int p655877, .int p655878, .int p655879, .int p655880, .int p655881, .int p655882, .ref qo655883, .int p655876, .int p655875, .int p655886, .ref qo655887, .ref qo655888, .int p655889]) := e655901
    have hfr655905 : rFr [q655873] P655871 F655872 F655900 := rFr_put' List.mem_cons_self hfr655899 n655902
    exact G_vretA dr_cX14_breaks_41 rfl (Nat.le_of_ble_eq_true rfl) (Nat.le_of_ble_eq_true rfl) ⟨F655900, p655876, p655875, rfl, rfl, hfr655905, he655904, he655903, (Nat.le_of_ble_eq_true rfl), (Nat.le_of_ble_eq_true rfl), bp655876, bp655875⟩
  · have r655906 : 0 ≤ p655884.toInt := gj_nlt hc655892 (show Int32.toInt 0 = 0 by decide)
    have bp655884' : gB p655884 0 8192 := ⟨by omega, by omega⟩
    refine G_iload_n 2 dr_cX14_breaks_7 rfl ?_
    refine G_aload_n 0 dr_cX14_breaks_8 rfl ?_
    refine Gp_get 8 hmq655873 heq655873 dr_cX14_breaks_9 (gk_X14 D I) (Nat.le_of_ble_eq_true rfl) wr_9_44 rfl ?_
    refine G_icmp_lt 31 dr_cX14_breaks_12 (by decide +kernel) (fun hc655907 => ?_) (fun hc655907 => ?_)
    · have r655908 : p655876.toInt < p655884.toInt := gC_lt hc655907
      have bp655876' : gB p655876 0 8191 := ⟨by omega, by omega⟩
      have bp655884'' : gB p655884 1 8192 := ⟨by omega, by omega⟩
      refine G_aload_n 0 dr_cX14_breaks_31 rfl ?_
      refine G_iload_n 2 dr_cX14_breaks_32 rfl ?_
      refine Gp_put 8 hmq655873 heq655873 dr_cX14_breaks_33 (gk_X14 D I) (Nat.le_of_ble_eq_true rfl) wr_9_44 rfl rfl rfl (Nat.le_of_ble_eq_true rfl) (fun F655909 e655910 n655911 => ?_)
      have he655912 : F655909 q655874 = .inl (I .byte, 8192, .inl f655890) := (n655911 q655874 (rn_ao heq655874 heq655873)).trans heq655874
      have he655913 : F655909 q655873 = .inr (19, [.ref q655874, .int p655877, .int p655878, .int p655879, .int p655880, .int p655881, .int p655882, .ref qo655883, .int p655876, .int p655885, .int p655886, .ref qo655887, .ref qo655888, .int p655889]) := e655910
      have hfr655914 : rFr [q655873] P655871 F655872 F655909 := rFr_put (rFr_rf (W := []) (P := P655871) (F := F655872)) n655911
      refine G_aload_n 0 dr_cX14_breaks_36 rfl ?_
      refine G_iload_n 1 dr_cX14_breaks_37 rfl ?_
      refine Gp_put 9 hmq655873 he655913 dr_cX14_breaks_38 (gk_X14 D I) (Nat.le_of_ble_eq_true rfl) wr_9_46 rfl rfl rfl (Nat.le_of_ble_eq_true rfl) (fun F655915 e655916 n655917 => ?_)
      have he655918 : F655915 q655874 = .inl (I .byte, 8192, .inl f655890) := (n655917 q655874 (rn_ao he655912 he655913)).trans he655912
      have he655919 : F655915 q655873 = .inr (19, [.ref q655874, .int p655877, .int p655878, .int p655879, .int p655880, .int p655881, .int p655882, .ref qo655883, .int p655876, .int p655875, .int p655886, .ref qo655887, .ref qo655888, .int p655889]) := e655916
      have hfr655920 : rFr [q655873] P655871 F655872 F655915 := rFr_put' List.mem_cons_self hfr655914 n655917
      exact G_vretA dr_cX14_breaks_41 rfl (Nat.le_of_ble_eq_true rfl) (Nat.le_of_ble_eq_true rfl) ⟨F655915, p655876, p655875, rfl, rfl, hfr655920, he655919, he655918, (Nat.le_of_ble_eq_true rfl), (Nat.le_of_ble_eq_true rfl), (gB_w bp655876' (by decide) (by decide)), bp655875⟩
    · have r655921 : p655884.toInt ≤ p655876.toInt := gC_nlt hc655907
      refine G_iload_n 2 dr_cX14_breaks_15 rfl ?_
      refine G_aload_n 0 dr_cX14_breaks_16 rfl ?_
      refine Gp_get 8 hmq655873 heq655873 dr_cX14_breaks_17 (gk_X14 D I) (Nat.le_of_ble_eq_true rfl) wr_9_44 rfl ?_
      refine G_icmp_ne 41 dr_cX14_breaks_20 (by decide +kernel) (fun hc655922 => ?_) (fun hc655922 => ?_)
      · have r655923 : p655876.toInt ≠ p655884.toInt := gC_ne hc655922
        exact G_vretA dr_cX14_breaks_41 rfl (Nat.le_of_ble_eq_true rfl) (Nat.le_of_ble_eq_true rfl) ⟨F655872, p655884, p655885, rfl, rfl, (rFr_v (rFr_rf (W := []) (P := P655871) (F := F655872)) (fun b hn => nm_n)), heq655873, heq655874, (Nat.le_of_ble_eq_true rfl), (Nat.le_of_ble_eq_true rfl), bp655884', bp655885⟩
      · have r655924 : p655876.toInt = p655884.toInt := gC_eq hc655922
        refine G_iload_n 1 dr_cX14_breaks_23 rfl ?_
        refine G_aload_n 0 dr_cX14_breaks_24 rfl ?_
        refine Gp_get 9 hmq655873 heq655873 dr_cX14_breaks_25 (gk_X14 D I) (Nat.le_of_ble_eq_true rfl) wr_9_46 rfl ?_
        refine G_icmp_ge 41 dr_cX14_breaks_28 (by decide +kernel) (fun hc655925 => ?_) (fun hc655925 => ?_)
        · have r655926 : p655885.toInt ≤ p655875.toInt := gC_le hc655925
          exact G_vretA dr_cX14_breaks_41 rfl (Nat.le_of_ble_eq_true rfl) (Nat.le_of_ble_eq_true rfl) ⟨F655872, p655884, p655885, rfl, rfl, (rFr_v (rFr_rf (W := []) (P := P655871) (F := F655872)) (fun b hn => nm_n)), heq655873, heq655874, (Nat.le_of_ble_eq_true rfl), (Nat.le_of_ble_eq_true rfl), bp655884', bp655885⟩
        · have r655927 : p655875.toInt < p655885.toInt := gC_nle hc655925
          have bp655875' : gB p655875 0 3 := ⟨by omega, by omega⟩
          have bp655885' : gB p655885 1 4 := ⟨by omega, by omega⟩
          refine G_aload_n 0 dr_cX14_breaks_31 rfl ?_
          refine G_iload_n 2 dr_cX14_breaks_32 rfl ?_
          refine Gp_put 8 hmq655873 heq655873 dr_cX14_breaks_33 (gk_X14 D I) (Nat.le_of_ble_eq_true rfl) wr_9_44 rfl rfl rfl (Nat.le_of_ble_eq_true rfl) (fun F655928 e655929 n655930 => ?_)
          have he655931 : F655928 q655874 = .inl (I .byte, 8192, .inl f655890) := (n655930 q655874 (rn_ao heq655874 heq655873)).trans heq655874
          have he655932 : F655928 q655873 = .inr (19, [.ref q655874, .int p655877, .int p655878, .int p655879, .int p655880, .int p655881, .int p655882, .ref qo655883, .int p655876, .int p655885, .int p655886, .ref qo655887, .ref qo655888, .int p655889]) := e655929
          have hfr655933 : rFr [q655873] P655871 F655872 F655928 := rFr_put (rFr_rf (W := []) (P := P655871) (F := F655872)) n655930
          refine G_aload_n 0 dr_cX14_breaks_36 rfl ?_
          refine G_iload_n 1 dr_cX14_breaks_37 rfl ?_
          refine Gp_put 9 hmq655873 he655932 dr_cX14_breaks_38 (gk_X14 D I) (Nat.le_of_ble_eq_true rfl) wr_9_46 rfl rfl rfl (Nat.le_of_ble_eq_true rfl) (fun F655934 e655935 n655936 => ?_)
          have he655937 : F655934 q655874 = .inl (I .byte, 8192, .inl f655890) := (n655936 q655874 (rn_ao he655931 he655932)).trans he655931
          have he655938 : F655934 q655873 = .inr (19, [.ref q655874, .int p655877, .int p655878, .int p655879, .int p655880, .int p655881, .int p655882, .ref qo655883, .int p655876, .int p655875, .int p655886, .ref qo655887, .ref qo655888, .int p655889]) := e655935
          have hfr655939 : rFr [q655873] P655871 F655872 F655934 := rFr_put' List.mem_cons_self hfr655933 n655936
          exact G_vretA dr_cX14_breaks_41 rfl (Nat.le_of_ble_eq_true rfl) (Nat.le_of_ble_eq_true rfl) ⟨F655934, p655876, p655875, rfl, rfl, hfr655939, he655938, he655937, (Nat.le_of_ble_eq_true rfl), (Nat.le_of_ble_eq_true rfl), bp655876, (gB_w bp655875' (by decide) (by decide))⟩
abbrev ky_655979_Reader_operand : gKey := (cX14_operand, 4, "SpillForgeModel$Reader", none, [], "operand", fun _ _ => True)
def pp_655979_Reader_operand (D : va_G) (I : FieldType → ClassId) (P655944 : List Nat) (F655945 : Nat → va_E) (q655946 : Nat) (q655947 : Nat) (q655948 : Nat) (p655949 : Int32) (p655950 : Int32) (p655951 : Int32) (p655952 : Int32) (p655953 : Int32) (p655954 : Int32) (p655955 : Int32) (qo655956 : Nat) (p655957 : Int32) (p655958 : Int32) (p655959 : Int32) (qo655960 : Nat) (qo655961 : Nat) (p655962 : Int32) (p655963 : Int32) (p655964 : Int32) (p655965 : Int32) (p655966 : Int32) (p655967 : Int32) (p655968 : Int32) (p655969 : Int32) (f655970 : Nat → Int32) : Option Value → va_W → Nat → Nat → Prop := fun r w dc ds => ∃ (P656196 : List Nat) (F656197 : Nat → va_E) (o656187 : Int32) (o656188 : Int32) (o656189 : Int32) (o656190 : Int32) (q656191 : Nat) (o656192 : Int32) (o656193 : Int32) (o656194 : Int32) (o656195 : Int32), r = none ∧ w = va_pl P656196 F656197 ∧ rSub P655944 P656196 ∧ rFr [q655947, q655946] P655944 F655945 F656197 ∧ F656197 q655947 = .inr (20, [.int p655963, .int p655964, .int o656192, .int o656193, .int p655967, .int o656194, .int o656195]) ∧ F656197 q655946 = .inr (19, [.ref q655948, .int p655950, .int o656187, .int o656188, .int o656189, .int o656190, .int p655952, .ref q656191, .int p655957, .int p655958, .int p655959, .ref qo655960, .ref qo655961, .int p655962]) ∧ F656197 q655948 = .inl (I .byte, 8192, .inl f655970) ∧ dc ≤ (16 * (o656187.toInt - p655951.toInt)).toNat ∧ ds ≤ (160 * (o656187.toInt - p655951.toInt)).toNat ∧ gB o656187 0 8192 ∧ gB o656188 0 6 ∧ gB o656189 0 8192 ∧ gB o656194 0 1 ∧ gB o656195 0 1 ∧ p655951.toInt ≤ o656187.toInt ∧ prP o656188 p655951 o656187 ∧ o656187.toInt ≤ p655950.toInt ∧ tP I P656196 F656197 o656188 q656191 qo655961 qo655960 ∧ vP o656188 o656190 ∧ rwP o656194 o656192 ∧ rwP o656195 o656193 ∧ nzK p655952
def xp_655979_Reader_operand (D : va_G) (I : FieldType → ClassId) (P655944 : List Nat) (F655945 : Nat → va_E) (q655946 : Nat) (q655947 : Nat) (q655948 : Nat) (p655949 : Int32) (p655950 : Int32) (p655951 : Int32) (p655952 : Int32) (p655953 : Int32) (p655954 : Int32) (p655955 : Int32) (qo655956 : Nat) (p655957 : Int32) (p655958 : Int32) (p655959 : Int32) (qo655960 : Nat) (qo655961 : Nat) (p655962 : Int32) (p655963 : Int32) (p655964 : Int32) (p655965 : Int32) (p655966 : Int32) (p655967 : Int32) (p655968 : Int32) (p655969 : Int32) (f655970 : Nat → Int32) : String → Nat → va_W → Nat → Nat → Prop := fun E q w dc ds => ∃ (P656199 : List Nat) (F656198 : Nat → va_E), E = "SpillForgeModel$Wrong" ∧ w = va_pl P656199 F656198 ∧ rSub P655944 P656199 ∧ rFr [] P655944 F655945 F656198 ∧ q ∈ P656199 ∧ q ∉ P655944 ∧ wrF F656198 q ∧ dc ≤ (16 * (p655950.toInt - p655951.toInt)).toNat + 1 ∧ ds ≤ (160 * (p655950.toInt - p655951.toInt)).toNat + 7 ∧ rkR (F656198 q655947)
set_option maxRecDepth 100000 in
set_option maxHeartbeats 4000000 in
theorem cp_655979_Reader_operand (l : Launch) (hl0 : l.stackTraces = false) (D : va_G) (I : FieldType → ClassId) (P655944 : List Nat) (F655945 : Nat → va_E) (q655946 : Nat) (q655947 : Nat) (q655948 : Nat) (p655949 : Int32) (p655950 : Int32) (p655951 : Int32) (p655952 : Int32) (p655953 : Int32) (p655954 : Int32) (p655955 : Int32) (qo655956 : Nat) (p655957 : Int32) (p655958 : Int32) (p655959 : Int32) (qo655960 : Nat) (qo655961 : Nat) (p655962 : Int32) (p655963 : Int32) (p655964 : Int32) (p655965 : Int32) (p655966 : Int32) (p655967 : Int32) (p655968 : Int32) (p655969 : Int32) (f655970 : Nat → Int32) (hmq655946 : q655946 ∈ P655944) (hmq655947 : q655947 ∈ P655944) (hmq655948 : q655948 ∈ P655944) (heq655946 : F655945 q655946 = .inr (19, [.ref q655948, .int p655950, .int p655951, .int p655952, .int p655953, .int p655954, .int p655955, .ref qo655956, .int p655957, .int p655958, .int p655959, .ref qo655960, .ref qo655961, .int p655962])) (heq655947 : F655945 q655947 = .inr (20, [.int p655963, .int p655964, .int p655965, .int p655966, .int p655967, .int p655968, .int p655969])) (heq655948 : F655945 q655948 = .inl (I .byte, 8192, .inl f655970)) (bp655949 : gB p655949 0 1) (bp655950 : gB p655950 0 8192) (bp655951 : gB p655951 0 8192) (bp655952 : gB p655952 0 6) (bp655953 : gB p655953 0 8192) (bp655955 : gB p655955 0 6) (bp655957 : gB p655957 (-1) 8192) (bp655958 : gB p655958 0 4) (bp655959 : gB p655959 0 1000000) (bp655962 : gB p655962 0 1000000) (bp655963 : gB p655963 0 32) (bp655964 : gB p655964 0 1999) (bp655967 : gB p655967 0 1999) (bp655968 : gB p655968 0 1) (bp655969 : gB p655969 0 1) (bf655970 : gF f655970 (-128) 127) (x655971 : p655951.toInt ≤ p655950.toInt) (x655972 : qo655961 ∈ P655944) (x655973 : qo655960 ∈ P655944) (x655974 : tP I P655944 F655945 p655952 qo655956 qo655961 qo655960) (x655975 : vP p655952 p655954) (x655976 : rwP p655968 p655965) (x655977 : rwP p655969 p655966) (x655978 : opP p655963) : CtA (gV D I) l yX14_operand cX14_operand 4 none 8 177 ((16 * (p655950.toInt - p655951.toInt)).toNat + 1) ((160 * (p655950.toInt - p655951.toInt)).toNat + 7) [.ref q655946, .ref q655947, .int p655949] (va_pl P655944 F655945) (pp_655979_Reader_operand D I P655944 F655945 q655946 q655947 q655948 p655949 p655950 p655951 p655952 p655953 p655954 p655955 qo655956 p655957 p655958 p655959 qo655960 qo655961 p655962 p655963 p655964 p655965 p655966 p655967 p655968 p655969 f655970) (xp_655979_Reader_operand D I P655944 F655945 q655946 q655947 q655948 p655949 p655950 p655951 p655952 p655953 p655954 p655955 qo655956 p655957 p655958 p655959 qo655960 qo655961 p655962 p655963 p655964 p655965 p655966 p655967 p655968 p655969 f655970) := by
  refine CtA_of hl0 (by decide) (Nat.le_of_ble_eq_true rfl) ?_
  have bp655954 := gB_any p655954
  have bp655965 := gB_any p655965
  have bp655966 := gB_any p655966
  refine G_aload_n 0 dr_cX14_operand_0 rfl ?_
  refine Gp_get 3 hmq655946 heq655946 dr_cX14_operand_1 (gk_X14 D I) (Nat.le_of_ble_eq_true rfl) wr_9_39 rfl ?_
  refine G_iconst 2 dr_cX14_operand_4 (by decide +kernel) ?_
  refine G_icmp_ne 12 dr_cX14_operand_5 (by decide +kernel) (fun hc655980 => ?_) (fun hc655980 => ?_)
  · have r655981 : p655952.toInt ≠ 2 := gj_neq hc655980 (show Int32.toInt 2 = 2 by decide)
    refine G_iconst 0 dr_cX14_operand_12 (by decide +kernel) ?_
    refine G_istore_n (L' := [(3, .int 0), (0, .ref q655946), (1, .ref q655947), (2, .int p655949)]) dr_cX14_operand_13 (Nat.le_of_ble_eq_true rfl) rfl ?_
    refine G_iload_n 0 dr_cX14_operand_14 rfl ?_
    refine G_if_ne 31 dr_cX14_operand_15 (by decide +kernel) (fun hc => absurd hc (by decide)) (fun _ => ?_)
    refine G_aload_n 1 dr_cX14_operand_18 rfl ?_
    refine Gp_get 3 hmq655946 heq655946 dr_cX14_operand_19 (gk_X14 D I) (Nat.le_of_ble_eq_true rfl) wr_9_39 rfl ?_
    refine G_iconst 4 dr_cX14_operand_22 (by decide +kernel) ?_
    refine G_icmp_eq 31 dr_cX14_operand_23 (by decide +kernel) (fun hc655982 => ?_) (fun hc655982 => ?_)
    · have r655983 : p655952.toInt = 4 := gj_eq hc655982 (show Int32.toInt 4 = 4 by decide)
      have bp655952' : gB p655952 4 4 := ⟨by omega, by omega⟩
      refine G_iload_n 3 dr_cX14_operand_31 rfl ?_
      refine G_if_eq 51 dr_cX14_operand_32 (by decide +kernel) (fun hc655984 => ?_) (fun hc655984 => ?_)
      · have r655985 : p655949.toInt = 0 := gj_eq hc655984 (show Int32.toInt 0 = 0 by decide)
        have bp655949' : gB p655949 0 0 := ⟨by omega, by omega⟩
        refine G_aload_n 2 dr_cX14_operand_51 rfl ?_
        refine G_aload_n 1 dr_cX14_operand_52 rfl ?_
        refine Gp_get 5 hmq655946 heq655946 dr_cX14_operand_53 (gk_X14 D I) (Nat.le_of_ble_eq_true rfl) wr_9_41 rfl ?_
        refine Gp_put 2 hmq655947 heq655947 dr_cX14_operand_56 (gk_X15 D I) (Nat.le_of_ble_eq_true rfl) wr_9_187 rfl rfl rfl (Nat.le_of_ble_eq_true rfl) (fun F655986 e655987 n655988 => ?_)
        have he655989 : F655986 q655946 = .inr (19, [.ref q655948, .int p655950, .int p655951, .int p655952, .int p655953, .int p655954, .int p655955, .ref qo655956, .int p655957, .int p655958, .int p655959, .ref qo655960, .ref qo655961, .int p655962]) := (n655988 q655946 (rn_oo heq655946 heq655947 (by decide))).trans heq655946
        have he655990 : F655986 q655948 = .inl (I .byte, 8192, .inl f655970) := (n655988 q655948 (rn_ao heq655948 heq655947)).trans heq655948
        have he655991 : F655986 q655947 = .inr (20, [.int p655963, .int p655964, .int p655954, .int p655966, .int p655967, .int p655968, .int p655969]) := e655987
        have hfr655992 : rFr [q655947] P655944 F655945 F655986 := rFr_put (rFr_rf (W := []) (P := P655944) (F := F655945)) n655988
        have tp655993 : tP I P655944 F655986 p655952 qo655956 qo655961 qo655960 := tP_put x655974 heq655947 (by decide) n655988
        refine G_aload_n 2 dr_cX14_operand_59 rfl ?_
        refine G_iload_n 0 dr_cX14_operand_60 rfl ?_
        refine Gp_put 5 hmq655947 he655991 dr_cX14_operand_61 (gk_X15 D I) (Nat.le_of_ble_eq_true rfl) wr_9_198 rfl rfl rfl (Nat.le_of_ble_eq_true rfl) (fun F655994 e655995 n655996 => ?_)
        have he655997 : F655994 q655946 = .inr (19, [.ref q655948, .int p655950, .int p655951, .int p655952, .int p655953, .int p655954, .int p655955, .ref qo655956, .int p655957, .int p655958, .int p655959, .ref qo655960, .ref qo655961, .int p655962]) := (n655996 q655946 (rn_oo he655989 he655991 (by decide))).trans he655989
        have he655998 : F655994 q655948 = .inl (I .byte, 8192, .inl f655970) := (n655996 q655948 (rn_ao he655990 he655991)).trans he655990
        have he655999 : F655994 q655947 = .inr (20, [.int p655963, .int p655964, .int p655954, .int p655966, .int p655967, .int 0, .int p655969]) := e655995
        have hfr656000 : rFr [q655947] P655944 F655945 F655994 := rFr_put' List.mem_cons_self hfr655992 n655996
        have tp656001 : tP I P655944 F655994 p655952 qo655956 qo655961 qo655960 := tP_put tp655993 he655991 (by decide) n655996
        refine G_aload_n 1 dr_cX14_operand_64 rfl ?_
        refine Gw_callV (As := []) (gV_ok D I) (cp_653764_Reader_next l hl0 D I P655944 F655994 q655946 q655948 p655950 p655951 p655952 p655953 p655954 p655955 qo655956 p655957 p655958 p655959 qo655960 qo655961 p655962 f655970 hmq655946 hmq655948 he655997 he655998 bp655950 bp655951 (gB_w bp655952' (by decide) (by decide)) bp655953 bp655955 bp655957 bp655958 bp655959 bp655962 bf655970 (by have qa0 : Int32.toInt 0 = 0 := (by decide); omega) x655972 x655973) dr_cX14_operand_65 ⟨wr_7_215, wr_1_32, wr_7_218, by decide, rfl, (Nat.le_of_ble_eq_true rfl), (Nat.le_of_ble_eq_true rfl)⟩ wr_7_217 wr_p_75 hmq655946 he655997 rfl (show 0 + ((16 * (p655950.toInt - p655951.toInt)).toNat) ≤ ((16 * (p655950.toInt - p655951.toInt)).toNat + 1) by first | omega | decide) (show 0 + ((160 * (p655950.toInt - p655951.toInt)).toNat) ≤ ((160 * (p655950.toInt - p655951.toInt)).toNat + 7) by first | omega | decide) (Nat.le_of_ble_eq_true rfl) (fun r656005 w656006 dc656002 ds656003 hp656004 => ?_) (fun _ _ _ _ _ z => z.elim)
        obtain ⟨P656017, F656018, o656007, o656008, o656009, o656010, q656011, rfl, rfl, hsb656019, hfr656020, he656021, he656022, hdc, hds, bo656007, bo656008, bo656009, x656012, x656013, x656014, x656015, x656016⟩ := hp656004
        have hm656023 : q655946 ∈ P656017 := hsb656019 q655946 hmq655946
        have hm656024 : q655947 ∈ P656017 := hsb656019 q655947 hmq655947
        have hm656025 : q655948 ∈ P656017 := hsb656019 q655948 hmq655948
        have hsb656026 : rSub P655944 P656017 := rSub_tr (rSub_rf (P := P655944)) hsb656019
        have he656027 : F656018 q655947 = .inr (20, [.int p655963, .int p655964, .int p655954, .int p655966, .int p655967, .int 0, .int p655969]) := (hfr656020 q655947 hmq655947 (nm_c (rn_oo he655999 he655997 (by decide)) nm_n)).trans he655999
        have hfr656028 : rFr [q655947, q655946] P655944 F655945 F656018 := rFr_call (rSub_rf (P := P655944)) hfr656000 hfr656020 (fun b hb hn => ⟨(nm_c (fun e => hn (e ▸ List.mem_cons_self)) nm_n), (nm_c (fun e => hn (e ▸ (List.mem_cons_of_mem _ List.mem_cons_self))) nm_n)⟩)
        have bo656010 := gB_any o656010
        change G _ _ _ _ _ _ _ _ _ _ _
        refine G_widen (cs' := (16 * (o656007.toInt - p655951.toInt)).toNat) (sl' := (160 * (o656007.toInt - p655951.toInt)).toNat) (by omega) (by omega) ?_
        exact G_vretA dr_cX14_operand_68 rfl (show (16 * (o656007.toInt - p655951.toInt)).toNat ≤ ((16 * (p655950.toInt - p655951.toInt)).toNat + 1) by omega) (show (160 * (o656007.toInt - p655951.toInt)).toNat ≤ ((160 * (p655950.toInt - p655951.toInt)).toNat + 7) by omega) ⟨P656017, F656018, o656007, o656008, o656009, o656010, q656011, p655954, p655966, 0, p655969, rfl, rfl, hsb656026, hfr656028, he656027, he656021, he656022, (by omega), (by omega), bo656007, bo656008, bo656009, (gB_w (gBl (show Int32.toInt 0 = 0 by decide)) (by decide) (by decide)), bp655969, (by have qa0 : Int32.toInt 0 = 0 := (by decide); omega), x656013, (by have qa0 : Int32.toInt 0 = 0 := (by decide); omega), x656015, x656016, rwP_0, x655977, (show nzK p655952 by unfold nzK; omega)⟩
      · have r656029 : p655949.toInt ≠ 0 := gj_neq hc655984 (show Int32.toInt 0 = 0 by decide)
        have bp655949' : gB p655949 1 1 := ⟨by omega, by omega⟩
        refine G_aload_n 2 dr_cX14_operand_35 rfl ?_
        refine G_aload_n 1 dr_cX14_operand_36 rfl ?_
        refine Gp_get 5 hmq655946 heq655946 dr_cX14_operand_37 (gk_X14 D I) (Nat.le_of_ble_eq_true rfl) wr_9_41 rfl ?_
        refine Gp_put 3 hmq655947 heq655947 dr_cX14_operand_40 (gk_X15 D I) (Nat.le_of_ble_eq_true rfl) wr_9_191 rfl rfl rfl (Nat.le_of_ble_eq_true rfl) (fun F656030 e656031 n656032 => ?_)
        have he656033 : F656030 q655946 = .inr (19, [.ref q655948, .int p655950, .int p655951, .int p655952, .int p655953, .int p655954, .int p655955, .ref qo655956, .int p655957, .int p655958, .int p655959, .ref qo655960, .ref qo655961, .int p655962]) := (n656032 q655946 (rn_oo heq655946 heq655947 (by decide))).trans heq655946
        have he656034 : F656030 q655948 = .inl (I .byte, 8192, .inl f655970) := (n656032 q655948 (rn_ao heq655948 heq655947)).trans heq655948
        have he656035 : F656030 q655947 = .inr (20, [.int p655963, .int p655964, .int p655965, .int p655954, .int p655967, .int p655968, .int p655969]) := e656031
        have hfr656036 : rFr [q655947] P655944 F655945 F656030 := rFr_put (rFr_rf (W := []) (P := P655944) (F := F655945)) n656032
        have tp656037 : tP I P655944 F656030 p655952 qo655956 qo655961 qo655960 := tP_put x655974 heq655947 (by decide) n656032
        refine G_aload_n 2 dr_cX14_operand_43 rfl ?_
        refine G_iload_n 0 dr_cX14_operand_44 rfl ?_
        refine Gp_put 6 hmq655947 he656035 dr_cX14_operand_45 (gk_X15 D I) (Nat.le_of_ble_eq_true rfl) wr_9_201 rfl rfl rfl (Nat.le_of_ble_eq_true rfl) (fun F656038 e656039 n656040 => ?_)
        have he656041 : F656038 q655946 = .inr (19, [.ref q655948, .int p655950, .int p655951, .int p655952, .int p655953, .int p655954, .int p655955, .ref qo655956, .int p655957, .int p655958, .int p655959, .ref qo655960, .ref qo655961, .int p655962]) := (n656040 q655946 (rn_oo he656033 he656035 (by decide))).trans he656033
        have he656042 : F656038 q655948 = .inl (I .byte, 8192, .inl f655970) := (n656040 q655948 (rn_ao he656034 he656035)).trans he656034
        have he656043 : F656038 q655947 = .inr (20, [.int p655963, .int p655964, .int p655965, .int p655954, .int p655967, .int p655968, .int 0]) := e656039
        have hfr656044 : rFr [q655947] P655944 F655945 F656038 := rFr_put' List.mem_cons_self hfr656036 n656040
        have tp656045 : tP I P655944 F656038 p655952 qo655956 qo655961 qo655960 := tP_put tp656037 he656035 (by decide) n656040
        refine G_goto 64 dr_cX14_operand_48 (by decide +kernel) ?_
        refine G_aload_n 1 dr_cX14_operand_64 rfl ?_
        refine Gw_callV (As := []) (gV_ok D I) (cp_653764_Reader_next l hl0 D I P655944 F656038 q655946 q655948 p655950 p655951 p655952 p655953 p655954 p655955 qo655956 p655957 p655958 p655959 qo655960 qo655961 p655962 f655970 hmq655946 hmq655948 he656041 he656042 bp655950 bp655951 (gB_w bp655952' (by decide) (by decide)) bp655953 bp655955 bp655957 bp655958 bp655959 bp655962 bf655970 (by have qa0 : Int32.toInt 0 = 0 := (by decide); omega) x655972 x655973) dr_cX14_operand_65 ⟨wr_7_215, wr_1_32, wr_7_218, by decide, rfl, (Nat.le_of_ble_eq_true rfl), (Nat.le_of_ble_eq_true rfl)⟩ wr_7_217 wr_p_75 hmq655946 he656041 rfl (show 0 + ((16 * (p655950.toInt - p655951.toInt)).toNat) ≤ ((16 * (p655950.toInt - p655951.toInt)).toNat + 1) by first | omega | decide) (show 0 + ((160 * (p655950.toInt - p655951.toInt)).toNat) ≤ ((160 * (p655950.toInt - p655951.toInt)).toNat + 7) by first | omega | decide) (Nat.le_of_ble_eq_true rfl) (fun r656049 w656050 dc656046 ds656047 hp656048 => ?_) (fun _ _ _ _ _ z => z.elim)
        obtain ⟨P656061, F656062, o656051, o656052, o656053, o656054, q656055, rfl, rfl, hsb656063, hfr656064, he656065, he656066, hdc, hds, bo656051, bo656052, bo656053, x656056, x656057, x656058, x656059, x656060⟩ := hp656048
        have hm656067 : q655946 ∈ P656061 := hsb656063 q655946 hmq655946
        have hm656068 : q655947 ∈ P656061 := hsb656063 q655947 hmq655947
        have hm656069 : q655948 ∈ P656061 := hsb656063 q655948 hmq655948
        have hsb656070 : rSub P655944 P656061 := rSub_tr (rSub_rf (P := P655944)) hsb656063
        have he656071 : F656062 q655947 = .inr (20, [.int p655963, .int p655964, .int p655965, .int p655954, .int p655967, .int p655968, .int 0]) := (hfr656064 q655947 hmq655947 (nm_c (rn_oo he656043 he656041 (by decide)) nm_n)).trans he656043
        have hfr656072 : rFr [q655947, q655946] P655944 F655945 F656062 := rFr_call (rSub_rf (P := P655944)) hfr656044 hfr656064 (fun b hb hn => ⟨(nm_c (fun e => hn (e ▸ List.mem_cons_self)) nm_n), (nm_c (fun e => hn (e ▸ (List.mem_cons_of_mem _ List.mem_cons_self))) nm_n)⟩)
        have bo656054 := gB_any o656054
        change G _ _ _ _ _ _ _ _ _ _ _
        refine G_widen (cs' := (16 * (o656051.toInt - p655951.toInt)).toNat) (sl' := (160 * (o656051.toInt - p655951.toInt)).toNat) (by omega) (by omega) ?_
        exact G_vretA dr_cX14_operand_68 rfl (show (16 * (o656051.toInt - p655951.toInt)).toNat ≤ ((16 * (p655950.toInt - p655951.toInt)).toNat + 1) by omega) (show (160 * (o656051.toInt - p655951.toInt)).toNat ≤ ((160 * (p655950.toInt - p655951.toInt)).toNat + 7) by omega) ⟨P656061, F656062, o656051, o656052, o656053, o656054, q656055, p655965, p655954, p655968, 0, rfl, rfl, hsb656070, hfr656072, he656071, he656065, he656066, (by omega), (by omega), bo656051, bo656052, bo656053, bp655968, (gB_w (gBl (show Int32.toInt 0 = 0 by decide)) (by decide) (by decide)), (by have qa0 : Int32.toInt 0 = 0 := (by decide); omega), x656057, (by have qa0 : Int32.toInt 0 = 0 := (by decide); omega), x656059, x656060, x655976, rwP_0, (show nzK p655952 by unfold nzK; omega)⟩
    · have r656073 : p655952.toInt ≠ 4 := gj_neq hc655982 (show Int32.toInt 4 = 4 by decide)
      refine G_aload_n 1 dr_cX14_operand_26 rfl ?_
      refine Gw_callV (As := []) (gV_ok D I) (cp_655395_Reader_no l hl0 D I P655944 F655945 q655946 q655948 p655950 p655951 p655952 p655953 p655954 p655955 qo655956 p655957 p655958 p655959 qo655960 qo655961 p655962 f655970 hmq655946 hmq655948 heq655946 heq655948 bp655950 bp655951 bp655952 bp655953 bp655955 bp655957 bp655958 bp655959 bp655962 bf655970) dr_cX14_operand_27 ⟨wr_9_97, wr_1_32, wr_9_100, by decide, rfl, (Nat.le_of_ble_eq_true rfl), (Nat.le_of_ble_eq_true rfl)⟩ wr_9_99 wr_p_81 hmq655946 heq655946 rfl (show 0 + 1 ≤ ((16 * (p655950.toInt - p655951.toInt)).toNat + 1) by first | omega | decide) (show 0 + 7 ≤ ((160 * (p655950.toInt - p655951.toInt)).toNat + 7) by first | omega | decide) (Nat.le_of_ble_eq_true rfl) (fun r656077 w656078 dc656074 ds656075 hp656076 => ?_) (fun _ _ _ _ _ z => z.elim)
      obtain ⟨P656080, F656081, q656079, rfl, rfl, hsb656082, hfr656083, he656084, he656085, he656086, hm656087, hq656088, hdc, hds⟩ := hp656076
      have hm656089 : q655946 ∈ P656080 := hsb656082 q655946 hmq655946
      have hm656090 : q655947 ∈ P656080 := hsb656082 q655947 hmq655947
      have hm656091 : q655948 ∈ P656080 := hsb656082 q655948 hmq655948
      have hq656092 : q656079 ∉ P655944 := fun z => hq656088 ((rSub_rf (P := P655944)) q656079 z)
      have hsb656093 : rSub P655944 P656080 := rSub_tr (rSub_rf (P := P655944)) hsb656082
      have he656094 : F656081 q655947 = .inr (20, [.int p655963, .int p655964, .int p655965, .int p655966, .int p655967, .int p655968, .int p655969]) := (hfr656083 q655947 hmq655947 nm_n).trans heq655947
      have hfr656095 : rFr [] P655944 F655945 F656081 := rFr_call (rSub_rf (P := P655944)) (rFr_rf (W := []) (P := P655944) (F := F655945)) hfr656083 (fun b hb hn => ⟨nm_n, nm_n⟩)
      have tp656096 : tP I P656080 F656081 p655952 qo655956 qo655961 qo655960 := tP_new x655974 hsb656082 (fun b hb => hfr656083 b hb (fun z => by cases z)) (Or.inl rfl) (Or.inl rfl)
      change G _ _ _ _ _ _ _ (.ref q656079 :: _) _ _ _
      refine G_widen (cs' := 1) (sl' := 7) (by omega) (by omega) ?_
      exact Gp_athrow hm656087 he656086 rfl dr_cX14_operand_30 (GT_outA rfl (show 1 ≤ ((16 * (p655950.toInt - p655951.toInt)).toNat + 1) by omega) (show 7 ≤ ((160 * (p655950.toInt - p655951.toInt)).toNat + 7) by omega) ⟨P656080, F656081, rfl, rfl, hsb656093, hfr656095, hm656087, hq656092, ⟨_, _, _, _, _, _, _, he656086, by omega⟩, (by omega), (by omega), ⟨p655963, p655964, p655965, p655966, p655967, p655968, p655969, he656094, bp655963, bp655964, bp655967, bp655968, bp655969, x655978, x655976, x655977⟩⟩)
  · have r656097 : p655952.toInt = 2 := gj_eq hc655980 (show Int32.toInt 2 = 2 by decide)
    have bp655952' : gB p655952 2 2 := ⟨by omega, by omega⟩
    refine G_iconst 1 dr_cX14_operand_8 (by decide +kernel) ?_
    refine G_goto 13 dr_cX14_operand_9 (by decide +kernel) ?_
    refine G_istore_n (L' := [(3, .int 1), (0, .ref q655946), (1, .ref q655947), (2, .int p655949)]) dr_cX14_operand_13 (Nat.le_of_ble_eq_true rfl) rfl ?_
    refine G_iload_n 0 dr_cX14_operand_14 rfl ?_
    refine G_if_ne 31 dr_cX14_operand_15 (by decide +kernel) (fun _ => ?_) (fun hc => absurd hc (by decide))
    refine G_iload_n 3 dr_cX14_operand_31 rfl ?_
    refine G_if_eq 51 dr_cX14_operand_32 (by decide +kernel) (fun hc656098 => ?_) (fun hc656098 => ?_)
    · have r656099 : p655949.toInt = 0 := gj_eq hc656098 (show Int32.toInt 0 = 0 by decide)
      have bp655949' : gB p655949 0 0 := ⟨by omega, by omega⟩
      refine G_aload_n 2 dr_cX14_operand_51 rfl ?_
      refine G_aload_n 1 dr_cX14_operand_52 rfl ?_
      refine Gp_get 5 hmq655946 heq655946 dr_cX14_operand_53 (gk_X14 D I) (Nat.le_of_ble_eq_true rfl) wr_9_41 rfl ?_
      refine Gp_put 2 hmq655947 heq655947 dr_cX14_operand_56 (gk_X15 D I) (Nat.le_of_ble_eq_true rfl) wr_9_187 rfl rfl rfl (Nat.le_of_ble_eq_true rfl) (fun F656100 e656101 n656102 => ?_)
      have he656103 : F656100 q655946 = .inr (19, [.ref q655948, .int p655950, .int p655951, .int p655952, .int p655953, .int p655954, .int p655955, .ref qo655956, .int p655957, .int p655958, .int p655959, .ref qo655960, .ref qo655961, .int p655962]) := (n656102 q655946 (rn_oo heq655946 heq655947 (by decide))).trans heq655946
      have he656104 : F656100 q655948 = .inl (I .byte, 8192, .inl f655970) := (n656102 q655948 (rn_ao heq655948 heq655947)).trans heq655948
      have he656105 : F656100 q655947 = .inr (20, [.int p655963, .int p655964, .int p655954, .int p655966, .int p655967, .int p655968, .int p655969]) := e656101
      have hfr656106 : rFr [q655947] P655944 F655945 F656100 := rFr_put (rFr_rf (W := []) (P := P655944) (F := F655945)) n656102
      have tp656107 : tP I P655944 F656100 p655952 qo655956 qo655961 qo655960 := tP_put x655974 heq655947 (by decide) n656102
      refine G_aload_n 2 dr_cX14_operand_59 rfl ?_
      refine G_iload_n 0 dr_cX14_operand_60 rfl ?_
      refine Gp_put 5 hmq655947 he656105 dr_cX14_operand_61 (gk_X15 D I) (Nat.le_of_ble_eq_true rfl) wr_9_198 rfl rfl rfl (Nat.le_of_ble_eq_true rfl) (fun F656108 e656109 n656110 => ?_)
      have he656111 : F656108 q655946 = .inr (19, [.ref q655948, .int p655950, .int p655951, .int p655952, .int p655953, .int p655954, .int p655955, .ref qo655956, .int p655957, .int p655958, .int p655959, .ref qo655960, .ref qo655961, .int p655962]) := (n656110 q655946 (rn_oo he656103 he656105 (by decide))).trans he656103
      have he656112 : F656108 q655948 = .inl (I .byte, 8192, .inl f655970) := (n656110 q655948 (rn_ao he656104 he656105)).trans he656104
      have he656113 : F656108 q655947 = .inr (20, [.int p655963, .int p655964, .int p655954, .int p655966, .int p655967, .int 1, .int p655969]) := e656109
      have hfr656114 : rFr [q655947] P655944 F655945 F656108 := rFr_put' List.mem_cons_self hfr656106 n656110
      have tp656115 : tP I P655944 F656108 p655952 qo655956 qo655961 qo655960 := tP_put tp656107 he656105 (by decide) n656110
      refine G_aload_n 1 dr_cX14_operand_64 rfl ?_
      refine Gw_callV (As := []) (gV_ok D I) (cp_653764_Reader_next l hl0 D I P655944 F656108 q655946 q655948 p655950 p655951 p655952 p655953 p655954 p655955 qo655956 p655957 p655958 p655959 qo655960 qo655961 p655962 f655970 hmq655946 hmq655948 he656111 he656112 bp655950 bp655951 (gB_w bp655952' (by decide) (by decide)) bp655953 bp655955 bp655957 bp655958 bp655959 bp655962 bf655970 (by have qa0 : Int32.toInt 1 = 1 := (by decide); omega) x655972 x655973) dr_cX14_operand_65 ⟨wr_7_215, wr_1_32, wr_7_218, by decide, rfl, (Nat.le_of_ble_eq_true rfl), (Nat.le_of_ble_eq_true rfl)⟩ wr_7_217 wr_p_75 hmq655946 he656111 rfl (show 0 + ((16 * (p655950.toInt - p655951.toInt)).toNat) ≤ ((16 * (p655950.toInt - p655951.toInt)).toNat + 1) by first | omega | decide) (show 0 + ((160 * (p655950.toInt - p655951.toInt)).toNat) ≤ ((160 * (p655950.toInt - p655951.toInt)).toNat + 7) by first | omega | decide) (Nat.le_of_ble_eq_true rfl) (fun r656119 w656120 dc656116 ds656117 hp656118 => ?_) (fun _ _ _ _ _ z => z.elim)
      obtain ⟨P656131, F656132, o656121, o656122, o656123, o656124, q656125, rfl, rfl, hsb656133, hfr656134, he656135, he656136, hdc, hds, bo656121, bo656122, bo656123, x656126, x656127, x656128, x656129, x656130⟩ := hp656118
      have hm656137 : q655946 ∈ P656131 := hsb656133 q655946 hmq655946
      have hm656138 : q655947 ∈ P656131 := hsb656133 q655947 hmq655947
      have hm656139 : q655948 ∈ P656131 := hsb656133 q655948 hmq655948
      have hsb656140 : rSub P655944 P656131 := rSub_tr (rSub_rf (P := P655944)) hsb656133
      have he656141 : F656132 q655947 = .inr (20, [.int p655963, .int p655964, .int p655954, .int p655966, .int p655967, .int 1, .int p655969]) := (hfr656134 q655947 hmq655947 (nm_c (rn_oo he656113 he656111 (by decide)) nm_n)).trans he656113
      have hfr656142 : rFr [q655947, q655946] P655944 F655945 F656132 := rFr_call (rSub_rf (P := P655944)) hfr656114 hfr656134 (fun b hb hn => ⟨(nm_c (fun e => hn (e ▸ List.mem_cons_self)) nm_n), (nm_c (fun e => hn (e ▸ (List.mem_cons_of_mem _ List.mem_cons_self))) nm_n)⟩)
      have bo656124 := gB_any o656124
      change G _ _ _ _ _ _ _ _ _ _ _
      refine G_widen (cs' := (16 * (o656121.toInt - p655951.toInt)).toNat) (sl' := (160 * (o656121.toInt - p655951.toInt)).toNat) (by omega) (by omega) ?_
      exact G_vretA dr_cX14_operand_68 rfl (show (16 * (o656121.toInt - p655951.toInt)).toNat ≤ ((16 * (p655950.toInt - p655951.toInt)).toNat + 1) by omega) (show (160 * (o656121.toInt - p655951.toInt)).toNat ≤ ((160 * (p655950.toInt - p655951.toInt)).toNat + 7) by omega) ⟨P656131, F656132, o656121, o656122, o656123, o656124, q656125, p655954, p655966, 1, p655969, rfl, rfl, hsb656140, hfr656142, he656141, he656135, he656136, (by omega), (by omega), bo656121, bo656122, bo656123, (gB_w (gBl (show Int32.toInt 1 = 1 by decide)) (by decide) (by decide)), bp655969, (by have qa0 : Int32.toInt 1 = 1 := (by decide); omega), x656127, (by have qa0 : Int32.toInt 1 = 1 := (by decide); omega), x656129, x656130, (rwP_1 x655975 (by omega)), x655977, (show nzK p655952 by unfold nzK; omega)⟩
    · have r656143 : p655949.toInt ≠ 0 := gj_neq hc656098 (show Int32.toInt 0 = 0 by decide)
      have bp655949' : gB p655949 1 1 := ⟨by omega, by omega⟩
      refine G_aload_n 2 dr_cX14_operand_35 rfl ?_
      refine G_aload_n 1 dr_cX14_operand_36 rfl ?_
      refine Gp_get 5 hmq655946 heq655946 dr_cX14_operand_37 (gk_X14 D I) (Nat.le_of_ble_eq_true rfl) wr_9_41 rfl ?_
      refine Gp_put 3 hmq655947 heq655947 dr_cX14_operand_40 (gk_X15 D I) (Nat.le_of_ble_eq_true rfl) wr_9_191 rfl rfl rfl (Nat.le_of_ble_eq_true rfl) (fun F656144 e656145 n656146 => ?_)
      have he656147 : F656144 q655946 = .inr (19, [.ref q655948, .int p655950, .int p655951, .int p655952, .int p655953, .int p655954, .int p655955, .ref qo655956, .int p655957, .int p655958, .int p655959, .ref qo655960, .ref qo655961, .int p655962]) := (n656146 q655946 (rn_oo heq655946 heq655947 (by decide))).trans heq655946
      have he656148 : F656144 q655948 = .inl (I .byte, 8192, .inl f655970) := (n656146 q655948 (rn_ao heq655948 heq655947)).trans heq655948
      have he656149 : F656144 q655947 = .inr (20, [.int p655963, .int p655964, .int p655965, .int p655954, .int p655967, .int p655968, .int p655969]) := e656145
      have hfr656150 : rFr [q655947] P655944 F655945 F656144 := rFr_put (rFr_rf (W := []) (P := P655944) (F := F655945)) n656146
      have tp656151 : tP I P655944 F656144 p655952 qo655956 qo655961 qo655960 := tP_put x655974 heq655947 (by decide) n656146
      refine G_aload_n 2 dr_cX14_operand_43 rfl ?_
      refine G_iload_n 0 dr_cX14_operand_44 rfl ?_
      refine Gp_put 6 hmq655947 he656149 dr_cX14_operand_45 (gk_X15 D I) (Nat.le_of_ble_eq_true rfl) wr_9_201 rfl rfl rfl (Nat.le_of_ble_eq_true rfl) (fun F656152 e656153 n656154 => ?_)
      have he656155 : F656152 q655946 = .inr (19, [.ref q655948, .int p655950, .int p655951, .int p655952, .int p655953, .int p655954, .int p655955, .ref qo655956, .int p655957, .int p655958, .int p655959, .ref qo655960, .ref qo655961, .int p655962]) := (n656154 q655946 (rn_oo he656147 he656149 (by decide))).trans he656147
      have he656156 : F656152 q655948 = .inl (I .byte, 8192, .inl f655970) := (n656154 q655948 (rn_ao he656148 he656149)).trans he656148
      have he656157 : F656152 q655947 = .inr (20, [.int p655963, .int p655964, .int p655965, .int p655954, .int p655967, .int p655968, .int 1]) := e656153
      have hfr656158 : rFr [q655947] P655944 F655945 F656152 := rFr_put' List.mem_cons_self hfr656150 n656154
      have tp656159 : tP I P655944 F656152 p655952 qo655956 qo655961 qo655960 := tP_put tp656151 he656149 (by decide) n656154
      refine G_goto 64 dr_cX14_operand_48 (by decide +kernel) ?_
      refine G_aload_n 1 dr_cX14_operand_64 rfl ?_
      refine Gw_callV (As := []) (gV_ok D I) (cp_653764_Reader_next l hl0 D I P655944 F656152 q655946 q655948 p655950 p655951 p655952 p655953 p655954 p655955 qo655956 p655957 p655958 p655959 qo655960 qo655961 p655962 f655970 hmq655946 hmq655948 he656155 he656156 bp655950 bp655951 (gB_w bp655952' (by decide) (by decide)) bp655953 bp655955 bp655957 bp655958 bp655959 bp655962 bf655970 (by have qa0 : Int32.toInt 1 = 1 := (by decide); omega) x655972 x655973) dr_cX14_operand_65 ⟨wr_7_215, wr_1_32, wr_7_218, by decide, rfl, (Nat.le_of_ble_eq_true rfl), (Nat.le_of_ble_eq_true rfl)⟩ wr_7_217 wr_p_75 hmq655946 he656155 rfl (show 0 + ((16 * (p655950.toInt - p655951.toInt)).toNat) ≤ ((16 * (p655950.toInt - p655951.toInt)).toNat + 1) by first | omega | decide) (show 0 + ((160 * (p655950.toInt - p655951.toInt)).toNat) ≤ ((160 * (p655950.toInt - p655951.toInt)).toNat + 7) by first | omega | decide) (Nat.le_of_ble_eq_true rfl) (fun r656163 w656164 dc656160 ds656161 hp656162 => ?_) (fun _ _ _ _ _ z => z.elim)
      obtain ⟨P656175, F656176, o656165, o656166, o656167, o656168, q656169, rfl, rfl, hsb656177, hfr656178, he656179, he656180, hdc, hds, bo656165, bo656166, bo656167, x656170, x656171, x656172, x656173, x656174⟩ := hp656162
      have hm656181 : q655946 ∈ P656175 := hsb656177 q655946 hmq655946
      have hm656182 : q655947 ∈ P656175 := hsb656177 q655947 hmq655947
      have hm656183 : q655948 ∈ P656175 := hsb656177 q655948 hmq655948
      have hsb656184 : rSub P655944 P656175 := rSub_tr (rSub_rf (P := P655944)) hsb656177
      have he656185 : F656176 q655947 = .inr (20, [.int p655963, .int p655964, .int p655965, .int p655954, .int p655967, .int p655968, .int 1]) := (hfr656178 q655947 hmq655947 (nm_c (rn_oo he656157 he656155 (by decide)) nm_n)).trans he656157
      have hfr656186 : rFr [q655947, q655946] P655944 F655945 F656176 := rFr_call (rSub_rf (P := P655944)) hfr656158 hfr656178 (fun b hb hn => ⟨(nm_c (fun e => hn (e ▸ List.mem_cons_self)) nm_n), (nm_c (fun e => hn (e ▸ (List.mem_cons_of_mem _ List.mem_cons_self))) nm_n)⟩)
      have bo656168 := gB_any o656168
      change G _ _ _ _ _ _ _ _ _ _ _
      refine G_widen (cs' := (16 * (o656165.toInt - p655951.toInt)).toNat) (sl' := (160 * (o656165.toInt - p655951.toInt)).toNat) (by omega) (by omega) ?_
      exact G_vretA dr_cX14_operand_68 rfl (show (16 * (o656165.toInt - p655951.toInt)).toNat ≤ ((16 * (p655950.toInt - p655951.toInt)).toNat + 1) by omega) (show (160 * (o656165.toInt - p655951.toInt)).toNat ≤ ((160 * (p655950.toInt - p655951.toInt)).toNat + 7) by omega) ⟨P656175, F656176, o656165, o656166, o656167, o656168, q656169, p655965, p655954, p655968, 1, rfl, rfl, hsb656184, hfr656186, he656185, he656179, he656180, (by omega), (by omega), bo656165, bo656166, bo656167, bp655968, (gB_w (gBl (show Int32.toInt 1 = 1 by decide)) (by decide) (by decide)), (by have qa0 : Int32.toInt 1 = 1 := (by decide); omega), x656171, (by have qa0 : Int32.toInt 1 = 1 := (by decide); omega), x656173, x656174, x655976, (rwP_1 x655975 (by omega)), (show nzK p655952 by unfold nzK; omega)⟩
abbrev ky_656374_StringLatin1_charAt : gKey := (cJ1_charAt_3b067, 2, "java/lang/StringLatin1", (some FieldType.char), [], "charAt", fun _ _ => True)
def pp_656374_StringLatin1_charAt (D : va_G) (I : FieldType → ClassId) (P656368 : List Nat) (F656369 : Nat → va_E) (qs656370 : Nat) (bs656371 : List Int32) (p656372 : Int32) : Option Value → va_W → Nat → Nat → Prop := fun r w dc ds => ∃ (o656384 : Int32), r = some (.int o656384) ∧ w = va_pl P656368 F656369 ∧ dc ≤ 0 ∧ ds ≤ 0 ∧ gB o656384 0 255 ∧ chP (fun j => bs656371.getD j 0) p656372 o656384
set_option maxRecDepth 100000 in
set_option maxHeartbeats 4000000 in
theorem cp_656374_StringLatin1_charAt (l : Launch) (hl0 : l.stackTraces = false) (D : va_G) (I : FieldType → ClassId) (P656368 : List Nat) (F656369 : Nat → va_E) (qs656370 : Nat) (bs656371 : List Int32) (p656372 : Int32) (hbs656371 : ∀ A s H, (gV D I).2.2.2.1 A s H → va_T .byte qs656370 bs656371.length (fun j => .int (bs656371.getD j 0)) A s H) (nbs656371 : (bs656371.length : Int) ≤ 65535) (lbs656371 : gLB bs656371) (bp656372 : gB p656372 0 16777215) (x656373 : p656372.toInt < (bs656371.length : Int)) : CtA (gV D I) l yJ1_charAt_3b067 cJ1_charAt_3b067 2 (some FieldType.char) 2 43 0 0 [.ref qs656370, .int p656372] (va_pl P656368 F656369) (pp_656374_StringLatin1_charAt D I P656368 F656369 qs656370 bs656371 p656372) gNA := by
  refine CtA_ofF hl0 (by decide +kernel) (Nat.le_of_ble_eq_true rfl) ?_
  refine G_iload_n 1 dr_cJ1_charAt_3b067_0 rfl ?_
  refine G_aload_n 0 dr_cJ1_charAt_3b067_1 rfl ?_
  refine G_klen dr_cJ1_charAt_3b067_2 hbs656371 (G_nam fun z656375 hz656375 => ?_)
  have ez656375 : z656375.toInt = (bs656371.length : Int) := gI_ofN hz656375 nbs656371
  have bz656375 : gB z656375 0 65535 := ⟨by omega, by omega⟩
  refine Gw_callS (As := [.int p656372, .int z656375]) (gV_ok D I) (cp_640050_String_checkIndex l hl0 D I P656368 F656369 p656372 z656375 (gB_w bp656372 (by decide) (by decide)) (gB_w bz656375 (by decide) (by decide)) (by omega)) dr_cJ1_charAt_3b067_3 ⟨wr_3_78, wr_1_21, wr_3_80, by decide, rfl, (Nat.le_of_ble_eq_true rfl), (Nat.le_of_ble_eq_true rfl)⟩ wr_3_79 (show 0 + 0 ≤ 0 by first | omega | decide) (show 0 + 0 ≤ 0 by first | omega | decide) (Nat.le_of_ble_eq_true rfl) (fun r656379 w656380 dc656376 ds656377 hp656378 => ?_) (fun _ _ _ _ _ z => z.elim)
  obtain ⟨rfl, rfl, hdc, hds⟩ := hp656378
  change G _ _ _ _ _ _ _ _ _ _ _
  refine G_widen (cs' := 0) (sl' := 0) (by omega) (by omega) ?_
  refine G_aload_n 0 dr_cJ1_charAt_3b067_6 rfl ?_
  refine G_iload_n 1 dr_cJ1_charAt_3b067_7 rfl ?_
  refine G_kbald (f := fun j => bs656371.getD j 0) dr_cJ1_charAt_3b067_8 hbs656371 (gB_inr (by omega) (by omega)) (G_nam fun z656381 hz656381 => ?_)
  have bz656381 : gB z656381 (-2147483648) 2147483647 := gB_any z656381
  refine G_sipush 255 dr_cJ1_charAt_3b067_9 (by decide +kernel) ?_
  refine G_iand dr_cJ1_charAt_3b067_12 (G_nam fun z656382 hz656382 => ?_)
  have bz656382 : gB z656382 0 255 := gB_and hz656382 (gBl (show Int32.toInt 255 = 255 by decide)) (by decide)
  refine G_i2c dr_cJ1_charAt_3b067_13 (G_nam fun z656383 hz656383 => ?_)
  have ez656383 : z656383.toInt = z656382.toInt := gI_i2c hz656383 (by omega) (by omega)
  have bz656383 : gB z656383 0 255 := ⟨by omega, by omega⟩
  exact G_zretA FieldType.char dr_cJ1_charAt_3b067_14 rfl (gN_char (gB_w bz656383 (by decide) (by decide))) (Nat.le_of_ble_eq_true rfl) (Nat.le_of_ble_eq_true rfl) ⟨z656383, rfl, rfl, (Nat.le_of_ble_eq_true rfl), (Nat.le_of_ble_eq_true rfl), bz656383, (chP_of (by assumption) (by assumption) (by omega) (chb lbs656371 (by assumption)))⟩
abbrev ky_656362_String_charAt : gKey := (cJ0_charAt_5068e, 2, "java/lang/String", (some FieldType.char), [], "charAt", fun _ _ => True)
def pp_656362_String_charAt (D : va_G) (I : FieldType → ClassId) (P656355 : List Nat) (F656356 : Nat → va_E) (qs656357 : Nat) (qb656358 : Nat) (bs656359 : List Int32) (p656360 : Int32) : Option Value → va_W → Nat → Nat → Prop := fun r w dc ds => ∃ (o656392 : Int32), r = some (.int o656392) ∧ w = va_pl P656355 F656356 ∧ dc ≤ 0 ∧ ds ≤ 0 ∧ gB o656392 0 255 ∧ chP (fun j => bs656359.getD j 0) p656360 o656392
set_option maxRecDepth 100000 in
set_option maxHeartbeats 4000000 in
theorem cp_656362_String_charAt (l : Launch) (hl0 : l.stackTraces = false) (D : va_G) (I : FieldType → ClassId) (P656355 : List Nat) (F656356 : Nat → va_E) (qs656357 : Nat) (qb656358 : Nat) (bs656359 : List Int32) (p656360 : Int32) (hbs656359 : ∀ A s H, (gV D I).2.2.2.1 A s H → gSC qs656357 qb656358 bs656359 A s H) (nbs656359 : (bs656359.length : Int) ≤ 65535) (lbs656359 : gLB bs656359) (bp656360 : gB p656360 0 65535) (x656361 : p656360.toInt < (bs656359.length : Int)) : CtA (gV D I) l yJ0_charAt_5068e cJ0_charAt_5068e 2 (some FieldType.char) 3 64 0 0 [.ref qs656357, .int p656360] (va_pl P656355 F656356) (pp_656362_String_charAt D I P656355 F656356 qs656357 qb656358 bs656359 p656360) gNA := by
  refine CtA_ofF hl0 (by decide +kernel) (Nat.le_of_ble_eq_true rfl) ?_
  refine G_aload_n 0 dr_cJ0_charAt_5068e_0 rfl ?_
  refine Gw_callVk (As := []) (gV_ok D I) (cp_641688_String_isLatin1 l hl0 D I P656355 F656356 qs656357 qb656358 bs656359 hbs656359 nbs656359 lbs656359) dr_cJ0_charAt_5068e_1 ⟨wr_3_71, wr_1_21, wr_3_74, by decide, rfl, (Nat.le_of_ble_eq_true rfl), (Nat.le_of_ble_eq_true rfl)⟩ wr_3_72 wr_3_73 (fun _ _ _ h => (hbs656359 _ _ _ h).1) (show 0 + 0 ≤ 0 by first | omega | decide) (show 0 + 0 ≤ 0 by first | omega | decide) (Nat.le_of_ble_eq_true rfl) (fun r656366 w656367 dc656363 ds656364 hp656365 => ?_) (fun _ _ _ _ _ z => z.elim)
  obtain ⟨rfl, rfl, hdc, hds⟩ := hp656365
  change G _ _ _ _ _ _ _ (.int 1 :: _) _ _ _
  refine G_widen (cs' := 0) (sl' := 0) (by omega) (by omega) ?_
  refine G_if_eq 16 dr_cJ0_charAt_5068e_4 (by decide +kernel) (fun hc => absurd hc (by decide)) (fun _ => ?_)
  refine G_aload_n 0 dr_cJ0_charAt_5068e_7 rfl ?_
  refine G_kget dr_cJ0_charAt_5068e_8 wr_8_182 (fun _ _ _ h => (hbs656359 _ _ _ h).2.2.1) ?_
  refine G_iload_n 1 dr_cJ0_charAt_5068e_11 rfl ?_
  refine Gw_callS (As := [.ref qb656358, .int p656360]) (gV_ok D I) (cp_656374_StringLatin1_charAt l hl0 D I P656355 F656356 qb656358 bs656359 p656360 (fun _ _ _ h => (hbs656359 _ _ _ h).2.2.2) (by omega) lbs656359 (gB_w bp656360 (by decide) (by decide)) (by omega)) dr_cJ0_charAt_5068e_12 ⟨wr_3_75, wr_1_28, wr_3_77, by decide, rfl, (Nat.le_of_ble_eq_true rfl), (Nat.le_of_ble_eq_true rfl)⟩ wr_3_76 (show 0 + 0 ≤ 0 by first | omega | decide) (show 0 + 0 ≤ 0 by first | omega | decide) (Nat.le_of_ble_eq_true rfl) (fun r656388 w656389 dc656385 ds656386 hp656387 => ?_) (fun _ _ _ _ _ z => z.elim)
  obtain ⟨o656390, rfl, rfl, hdc, hds, bo656390, x656391⟩ := hp656387
  change G _ _ _ _ _ _ _ (.int o656390 :: _) _ _ _
  refine G_widen (cs' := 0) (sl' := 0) (by omega) (by omega) ?_
  exact G_zretA FieldType.char dr_cJ0_charAt_5068e_15 rfl (gN_char (gB_w bo656390 (by decide) (by decide))) (Nat.le_of_ble_eq_true rfl) (Nat.le_of_ble_eq_true rfl) ⟨o656390, rfl, rfl, (Nat.le_of_ble_eq_true rfl), (Nat.le_of_ble_eq_true rfl), bo656390, x656391⟩
abbrev ky_656210_SpillForgeModel_operation : gKey := (cX17_operation, 4, "SpillForgeModel", (some FieldType.int), [], "operation", fun _ _ => True)
def pp_656210_SpillForgeModel_operation (D : va_G) (I : FieldType → ClassId) (P656200 : List Nat) (F656201 : Nat → va_E) (q656202 : Nat) (q656203 : Nat) (p656204 : Int32) (p656205 : Int32) (f656206 : Nat → Int32) (n656207 : Nat) : Option Value → va_W → Nat → Nat → Prop := fun r w dc ds => ∃ (P656549 : List Nat) (F656550 : Nat → va_E) (o656548 : Int32), r = some (.int o656548) ∧ w = va_pl P656549 F656550 ∧ rSub P656200 P656549 ∧ rFr [] P656200 F656201 F656550 ∧ F656550 q656202 = .inr (0, [.ref q656203, .int 0, .int p656204, .int p656205]) ∧ F656550 q656203 = .inl (I .byte, n656207, .inl f656206) ∧ dc ≤ 8 ∧ ds ≤ 64 ∧ gB o656548 0 14 ∧ 0 ≤ o656548.toInt ∧ o656548.toInt ≤ 14
set_option maxRecDepth 100000 in
set_option maxHeartbeats 4000000 in
theorem cp_656210_SpillForgeModel_operation (l : Launch) (hl0 : l.stackTraces = false) (D : va_G) (I : FieldType → ClassId) (P656200 : List Nat) (F656201 : Nat → va_E) (q656202 : Nat) (q656203 : Nat) (p656204 : Int32) (p656205 : Int32) (f656206 : Nat → Int32) (n656207 : Nat) (hmq656202 : q656202 ∈ P656200) (hmq656203 : q656203 ∈ P656200) (heq656202 : F656201 q656202 = .inr (0, [.ref q656203, .int 0, .int p656204, .int p656205])) (heq656203 : F656201 q656203 = .inl (I .byte, n656207, .inl f656206)) (bp656205 : gB p656205 0 1) (bf656206 : gF f656206 (-128) 127) (x656208 : (n656207 : Int) ≤ 2) (x656209 : ((n656207 : Int) ≤ 16777216)) : CtA (gV D I) l yX17_operation cX17_operation 4 (some FieldType.int) 6 132 8 64 [.ref q656202] (va_pl P656200 F656201) (pp_656210_SpillForgeModel_operation D I P656200 F656201 q656202 q656203 p656204 p656205 f656206 n656207) gNA := by
  refine CtA_of hl0 (by decide) (Nat.le_of_ble_eq_true rfl) ?_
  have bp656204 := gB_any p656204
  refine G_ldcK (a := D.2 1000 42) dr_cX17_operation_0 (fun _ _ _ h => gx_vk 42 rfl rfl h) ?_
  have hl42_656210 : (sb_42.length : Int) = 34 := rfl
  refine G_new [.null, .int 0, .int 0, .int 0] dr_cX17_operation_2 (gk_J4 D I) wr_7_43 wr_7_44 wr_1_20 (gfs_J4) (show 0 + 1 ≤ 8 by first | omega | decide) (show 0 + 4 ≤ 64 by first | omega | decide) (fun q656212 => Gp_in (fun P656213 F656214 hq656215 hP656216 e656217 n656218 => ?_))
  refine G_widen (cs' := 1) (sl' := 4) (by omega) (by omega) ?_
  have he656219 : F656214 q656202 = .inr (0, [.ref q656203, .int 0, .int p656204, .int p656205]) := (n656218 q656202 (fun h => hq656215 (h ▸ hmq656202))).trans heq656202
  have he656220 : F656214 q656203 = .inl (I .byte, n656207, .inl f656206) := (n656218 q656203 (fun h => hq656215 (h ▸ hmq656203))).trans heq656203
  have he656221 : F656214 q656212 = .inr (1, [.null, .int 0, .int 0, .int 0]) := e656217
  have hm656222 : q656202 ∈ P656213 := (hP656216 q656202).mpr (Or.inl hmq656202)
  have hm656223 : q656203 ∈ P656213 := (hP656216 q656203).mpr (Or.inl hmq656203)
  have hm656224 : q656212 ∈ P656213 := (hP656216 q656212).mpr (Or.inr rfl)
  have hq656225 : q656212 ∉ P656200 := fun z => hq656215 ((rSub_rf (P := P656200)) q656212 z)
  have hfr656226 : rFr [] P656200 F656201 F656214 := rFr_new (rSub_rf (P := P656200)) hq656215 (rFr_rf (W := []) (P := P656200) (F := F656201)) n656218
  have hsb656227 : rSub P656200 P656213 := rSub_new (rSub_rf (P := P656200)) hP656216
  refine G_dup dr_cX17_operation_5 rfl ?_
  refine Gw_callI (As := []) (gV_ok D I) (cp_640525_StringBuilder_init l hl0 D I P656213 F656214 q656212 0 0 hm656224 he656221 (gB_w (gBl (show Int32.toInt 0 = 0 by decide)) (by decide) (by decide)) (gB_w (gBl (show Int32.toInt 0 = 0 by decide)) (by decide) (by decide))) dr_cX17_operation_6 ⟨wr_7_45, wr_1_20, wr_7_47, by decide, rfl, (Nat.le_of_ble_eq_true rfl), (Nat.le_of_ble_eq_true rfl)⟩ wr_7_46 rfl (show 1 + 1 ≤ 8 by first | omega | decide) (show 4 + 16 ≤ 64 by first | omega | decide) (Nat.le_of_ble_eq_true rfl) (fun r656231 w656232 dc656228 ds656229 hp656230 => ?_)
  obtain ⟨P656234, F656235, q656233, rfl, rfl, hsb656236, hfr656237, he656238, he656239, hm656240, hq656241, hdc, hds⟩ := hp656230
  have hm656242 : q656202 ∈ P656234 := hsb656236 q656202 hm656222
  have hm656243 : q656203 ∈ P656234 := hsb656236 q656203 hm656223
  have hm656244 : q656212 ∈ P656234 := hsb656236 q656212 hm656224
  have hq656245 : q656233 ∉ P656200 := fun z => hq656241 (hsb656227 q656233 z)
  have hsb656246 : rSub P656200 P656234 := rSub_tr hsb656227 hsb656236
  have he656247 : F656235 q656202 = .inr (0, [.ref q656203, .int 0, .int p656204, .int p656205]) := (hfr656237 q656202 hm656222 (nm_c (fun h => hq656225 (h ▸ hmq656202)) nm_n)).trans he656219
  have he656248 : F656235 q656203 = .inl (I .byte, n656207, .inl f656206) := (hfr656237 q656203 hm656223 (nm_c (fun h => hq656225 (h ▸ hmq656203)) nm_n)).trans he656220
  have hfr656249 : rFr [] P656200 F656201 F656235 := rFr_call hsb656227 hfr656226 hfr656237 (fun b hb hn => ⟨nm_n, (nm_c (fun e => hq656225 (e ▸ hb)) nm_n)⟩)
  change G _ _ _ _ _ _ _ _ _ _ _
  refine G_widen (cs' := 2) (sl' := 20) (by omega) (by omega) ?_
  refine G_ldcK (a := D.2 1000 43) dr_cX17_operation_9 (fun _ _ _ h => gx_vk 43 rfl rfl h) ?_
  have hl43_656249 : (sb_43.length : Int) = 1 := rfl
  refine Gw_callV (As := [.ref (D.2 1000 43)]) (gV_ok D I) (cp_640822_StringBuilder_append l hl0 D I P656234 F656235 q656212 q656233 (D.2 1000 43) (D.2 1001 43) sb_43 0 0 (fun _ => 0) 16 hm656244 hm656240 he656238 he656239 (gx_sc 43 rfl rfl) (by omega) (by decide +kernel) (gB_w (gBl (show Int32.toInt 0 = 0 by decide)) (by decide) (by decide)) (gB_w (gBl (show Int32.toInt 0 = 0 by decide)) (by decide) (by decide)) (gF_w gF_0 (by decide) (by decide)) (by have qa0 : Int32.toInt 0 = 0 := (by decide); omega) (by have qa0 : Int32.toInt 0 = 0 := (by decide); omega)) dr_cX17_operation_11 ⟨wr_10_100, wr_1_20, wr_8_143, by decide, rfl, (Nat.le_of_ble_eq_true rfl), (Nat.le_of_ble_eq_true rfl)⟩ wr_8_141 wr_8_142 hm656244 he656238 rfl (show 2 + 0 ≤ 8 by first | omega | decide) (show 20 + 0 ≤ 64 by first | omega | decide) (Nat.le_of_ble_eq_true rfl) (fun r656254 w656255 dc656251 ds656252 hp656253 => ?_) (fun _ _ _ _ _ z => z.elim)
  obtain ⟨F656261, o656256, f656257, rfl, rfl, hfr656263, he656264, he656265, hdc, hds, bo656256, bf656257, x656258, x656259, x656260⟩ := hp656253
  have he656266 : F656261 q656202 = .inr (0, [.ref q656203, .int 0, .int p656204, .int p656205]) := (hfr656263 q656202 hm656242 (nm_c (fun h => hq656225 (h ▸ hmq656202)) (nm_c (fun h => hq656245 (h ▸ hmq656202)) nm_n))).trans he656247
  have he656267 : F656261 q656203 = .inl (I .byte, n656207, .inl f656206) := (hfr656263 q656203 hm656243 (nm_c (fun h => hq656225 (h ▸ hmq656203)) (nm_c (fun h => hq656245 (h ▸ hmq656203)) nm_n))).trans he656248
  have hfr656268 : rFr [] P656200 F656201 F656261 := rFr_call hsb656246 hfr656249 hfr656263 (fun b hb hn => ⟨nm_n, (nm_c (fun e => hq656225 (e ▸ hb)) (nm_c (fun e => hq656245 (e ▸ hb)) nm_n))⟩)
  rw [show Int32.toInt 0 = 0 from by decide] at x656258
  rw [show Int32.toInt 0 = 0 from by decide] at x656259
  rw [show Int32.toInt 0 = 0 from by decide] at x656260
  change G _ _ _ _ _ _ _ (.ref q656212 :: _) _ _ _
  refine G_widen (cs' := 2) (sl' := 20) (by omega) (by omega) ?_
  refine G_aload_n 0 dr_cX17_operation_14 rfl ?_
  refine Gw_callV (As := [.ref q656202]) (gV_ok D I) (cp_640599_StringBuilder_append l hl0 D I P656234 F656261 q656212 q656202 q656233 q656203 0 o656256 p656204 p656205 f656257 16 f656206 n656207 hm656244 hm656242 hm656240 hm656243 he656264 he656266 he656265 he656267 (fun h => hq656245 (h ▸ hmq656203)) (gB_w (gBl (show Int32.toInt 0 = 0 by decide)) (by decide) (by decide)) bo656256 bp656205 bf656257 bf656206 (by have qa0 : Int32.toInt 0 = 0 := (by decide); omega) (by have qa0 : Int32.toInt 0 = 0 := (by decide); omega) (by have qa0 : Int32.toInt 0 = 0 := (by decide); omega)) dr_cX17_operation_15 ⟨wr_10_100, wr_1_20, wr_8_143, by decide, rfl, (Nat.le_of_ble_eq_true rfl), (Nat.le_of_ble_eq_true rfl)⟩ wr_8_141 wr_8_142 hm656244 he656264 rfl (show 2 + 0 ≤ 8 by first | omega | decide) (show 20 + 0 ≤ 64 by first | omega | decide) (Nat.le_of_ble_eq_true rfl) (fun r656272 w656273 dc656269 ds656270 hp656271 => ?_) (fun _ _ _ _ _ z => z.elim)
  obtain ⟨F656279, o656274, f656275, rfl, rfl, hfr656281, he656282, he656283, he656284, he656285, hdc, hds, bo656274, bf656275, x656276, x656277, x656278⟩ := hp656271
  have hfr656286 : rFr [] P656200 F656201 F656279 := rFr_call hsb656246 hfr656268 hfr656281 (fun b hb hn => ⟨nm_n, (nm_c (fun e => hq656225 (e ▸ hb)) (nm_c (fun e => hq656245 (e ▸ hb)) nm_n))⟩)
  change G _ _ _ _ _ _ _ (.ref q656212 :: _) _ _ _
  refine G_widen (cs' := 2) (sl' := 20) (by omega) (by omega) ?_
  refine G_ldcK (a := D.2 1000 43) dr_cX17_operation_18 (fun _ _ _ h => gx_vk 43 rfl rfl h) ?_
  have hl43_656286 : (sb_43.length : Int) = 1 := rfl
  refine Gw_callV (As := [.ref (D.2 1000 43)]) (gV_ok D I) (cp_640822_StringBuilder_append l hl0 D I P656234 F656279 q656212 q656233 (D.2 1000 43) (D.2 1001 43) sb_43 0 o656274 f656275 16 hm656244 hm656240 he656282 he656284 (gx_sc 43 rfl rfl) (by omega) (by decide +kernel) (gB_w (gBl (show Int32.toInt 0 = 0 by decide)) (by decide) (by decide)) bo656274 bf656275 (by have qa0 : Int32.toInt 0 = 0 := (by decide); omega) (by have qa0 : Int32.toInt 0 = 0 := (by decide); omega)) dr_cX17_operation_20 ⟨wr_10_100, wr_1_20, wr_8_143, by decide, rfl, (Nat.le_of_ble_eq_true rfl), (Nat.le_of_ble_eq_true rfl)⟩ wr_8_141 wr_8_142 hm656244 he656282 rfl (show 2 + 0 ≤ 8 by first | omega | decide) (show 20 + 0 ≤ 64 by first | omega | decide) (Nat.le_of_ble_eq_true rfl) (fun r656291 w656292 dc656288 ds656289 hp656290 => ?_) (fun _ _ _ _ _ z => z.elim)
  obtain ⟨F656298, o656293, f656294, rfl, rfl, hfr656300, he656301, he656302, hdc, hds, bo656293, bf656294, x656295, x656296, x656297⟩ := hp656290
  have he656303 : F656298 q656202 = .inr (0, [.ref q656203, .int 0, .int p656204, .int p656205]) := (hfr656300 q656202 hm656242 (nm_c (fun h => hq656225 (h ▸ hmq656202)) (nm_c (fun h => hq656245 (h ▸ hmq656202)) nm_n))).trans he656283
  have he656304 : F656298 q656203 = .inl (I .byte, n656207, .inl f656206) := (hfr656300 q656203 hm656243 (nm_c (fun h => hq656225 (h ▸ hmq656203)) (nm_c (fun h => hq656245 (h ▸ hmq656203)) nm_n))).trans he656285
  have hfr656305 : rFr [] P656200 F656201 F656298 := rFr_call hsb656246 hfr656286 hfr656300 (fun b hb hn => ⟨nm_n, (nm_c (fun e => hq656225 (e ▸ hb)) (nm_c (fun e => hq656245 (e ▸ hb)) nm_n))⟩)
  change G _ _ _ _ _ _ _ (.ref q656212 :: _) _ _ _
  refine G_widen (cs' := 2) (sl' := 20) (by omega) (by omega) ?_
  refine Gw_callV (As := []) (gV_ok D I) (cp_641282_StringBuilder_toString l hl0 D I P656234 F656298 q656212 q656233 0 o656293 f656294 16 hm656244 hm656240 he656301 he656302 (gB_w (gBl (show Int32.toInt 0 = 0 by decide)) (by decide) (by decide)) bo656293 bf656294 (by have qa0 : Int32.toInt 0 = 0 := (by decide); omega) (by have qa0 : Int32.toInt 0 = 0 := (by decide); omega)) dr_cX17_operation_23 ⟨wr_10_101, wr_1_20, wr_8_69, by decide, rfl, (Nat.le_of_ble_eq_true rfl), (Nat.le_of_ble_eq_true rfl)⟩ wr_8_67 wr_8_68 hm656244 he656301 rfl (show 2 + 2 ≤ 8 by first | omega | decide) (show 20 + (o656293.toInt.toNat + 4) ≤ 64 by first | omega | decide) (Nat.le_of_ble_eq_true rfl) (fun r656309 w656310 dc656306 ds656307 hp656308 => ?_) (fun _ _ _ _ _ z => z.elim)
  obtain ⟨P656317, F656318, q656311, q656312, n656313, f656314, rfl, rfl, hsb656319, hfr656320, he656321, he656322, he656323, he656324, hm656325, hq656326, hm656327, hq656328, hdc, hds, bf656314, x656315, x656316⟩ := hp656308
  have hm656329 : q656202 ∈ P656317 := hsb656319 q656202 hm656242
  have hm656330 : q656203 ∈ P656317 := hsb656319 q656203 hm656243
  have hm656331 : q656212 ∈ P656317 := hsb656319 q656212 hm656244
  have hm656332 : q656233 ∈ P656317 := hsb656319 q656233 hm656240
  have hq656333 : q656311 ∉ P656200 := fun z => hq656326 (hsb656246 q656311 z)
  have hq656334 : q656312 ∉ P656200 := fun z => hq656328 (hsb656246 q656312 z)
  have hsb656335 : rSub P656200 P656317 := rSub_tr hsb656246 hsb656319
  have he656336 : F656318 q656202 = .inr (0, [.ref q656203, .int 0, .int p656204, .int p656205]) := (hfr656320 q656202 hm656242 nm_n).trans he656303
  have he656337 : F656318 q656203 = .inl (I .byte, n656207, .inl f656206) := (hfr656320 q656203 hm656243 nm_n).trans he656304
  have hfr656338 : rFr [] P656200 F656201 F656318 := rFr_call hsb656246 hfr656305 hfr656320 (fun b hb hn => ⟨nm_n, nm_n⟩)
  have hne656339 : q656233 ≠ q656312 := fun h => hq656328 (h ▸ hm656240)
  change G _ _ _ _ _ _ _ (.ref q656311 :: _) _ _ _
  refine G_widen (cs' := 4) (sl' := 20 + (o656293.toInt.toNat + 4)) (by omega) (by omega) ?_
  refine Gw_callVk (As := [.ref q656311]) (gV_ok D I) (cp_641731_String_indexOf l hl0 D I P656317 F656318 q656311 q656312 (D.2 1000 42) (D.2 1001 42) sb_42 0 0 f656314 n656313 hm656325 hm656327 he656321 he656324 (gx_sc 42 rfl rfl) (by omega) (by decide +kernel) (gB_w (gBl (show Int32.toInt 0 = 0 by decide)) (by decide) (by decide)) bf656314 (by have qa0 : Int32.toInt 0 = 0 := (by decide); omega) (by have qa0 : Int32.toInt 0 = 0 := (by decide); omega)) dr_cX17_operation_26 ⟨wr_10_102, wr_1_21, wr_8_199, by decide, rfl, (Nat.le_of_ble_eq_true rfl), (Nat.le_of_ble_eq_true rfl)⟩ wr_8_197 wr_8_198 (fun _ _ _ h => ((gx_sc 42 rfl rfl) _ _ _ h).1) (show 4 + 0 ≤ 8 by first | omega | decide) (show 20 + (o656293.toInt.toNat + 4) + 0 ≤ 64 by first | omega | decide) (Nat.le_of_ble_eq_true rfl) (fun r656343 w656344 dc656340 ds656341 hp656342 => ?_) (fun _ _ _ _ _ z => z.elim)
  obtain ⟨o656345, rfl, rfl, hdc, hds, bo656345, x656346, x656347⟩ := hp656342
  change G _ _ _ _ _ _ _ (.int o656345 :: _) _ _ _
  refine G_widen (cs' := 4) (sl' := 20 + (o656293.toInt.toNat + 4) + 0) (by omega) (by omega) ?_
  refine G_istore_n (L' := [(1, .int o656345), (0, .ref q656202)]) dr_cX17_operation_29 (Nat.le_of_ble_eq_true rfl) rfl ?_
  refine G_iload_n 0 dr_cX17_operation_30 rfl ?_
  refine G_if_ge 36 dr_cX17_operation_31 (by decide +kernel) (fun hc656348 => ?_) (fun hc656348 => ?_)
  · have r656349 : 0 ≤ o656345.toInt := gj_leL hc656348 (show Int32.toInt 0 = 0 by decide)
    have bo656345' : gB o656345 0 16777215 := ⟨by omega, by omega⟩
    have x656350 : o656345.toInt ≤ 30 := opA x656260 x656277 x656296 x656316 x656347 (by omega) (by omega) rfl (by omega) (by omega) (by omega) (by omega) (by omega)
    refine G_iconst 1 dr_cX17_operation_36 (by decide +kernel) ?_
    refine G_istore_n (L' := [(2, .int 1), (1, .int o656345), (0, .ref q656202)]) dr_cX17_operation_37 (Nat.le_of_ble_eq_true rfl) rfl ?_
    refine G_iconst 0 dr_cX17_operation_38 (by decide +kernel) ?_
    refine G_istore_n (L' := [(3, .int 0), (2, .int 1), (1, .int o656345), (0, .ref q656202)]) dr_cX17_operation_39 (Nat.le_of_ble_eq_true rfl) rfl ?_
    have hlp40_656526 : ∀ (n40_656526 : Nat) (g656523 : Int32) (g656524 : Int32), gB g656523 0 16777215 → opI g656523 g656524 → g656523.toInt ≤ o656345.toInt → ((16777216 : Int) - g656523.toInt).toNat < n40_656526 → G (gV D I) l (gRm 6 132 8 64) (gMA (gV D I) (pp_656210_SpillForgeModel_operation D I P656200 F656201 q656202 q656203 p656204 p656205 f656206 n656207) gNA 8 64) ky_656210_SpillForgeModel_operation 40 [(3, .int g656523), (2, .int g656524), (1, .int o656345), (0, .ref q656202)] [] (va_pl P656317 F656318) 4 (20 + (o656293.toInt.toNat + 4) + 0) := by
      intro n40_656526
      induction n40_656526 with
      | zero => intro g656523 g656524 bg656523 x656525 x656526 hm40_656526; exact absurd hm40_656526 (Nat.not_lt_zero _)
      | succ n40_656526 ih40_656526 =>
        intro g656523 g656524 bg656523 x656525 x656526 hm40_656526
        have bg656524 := gB_any g656524
        refine G_iload_n 0 dr_cX17_operation_40 rfl ?_
        refine G_iload_n 2 dr_cX17_operation_41 rfl ?_
        refine G_icmp_ge 70 dr_cX17_operation_42 (by decide +kernel) (fun hc656527 => ?_) (fun hc656527 => ?_)
        · have r656528 : o656345.toInt ≤ g656523.toInt := gC_le hc656527
          have bx656529 : gB g656524 1 14 := opI_b x656525 (by omega)
          refine G_iload_n 1 dr_cX17_operation_70 rfl ?_
          exact G_iretA dr_cX17_operation_71 rfl (Nat.le_of_ble_eq_true rfl) (show 20 + (o656293.toInt.toNat + 4) + 0 ≤ 64 by omega) ⟨P656317, F656318, g656524, rfl, rfl, hsb656335, hfr656338, he656336, he656337, (Nat.le_of_ble_eq_true rfl), (by omega), (gB_w bx656529 (by decide) (by decide)), (by have qa0 : Int32.toInt 0 = 0 := (by decide); omega), (by have qa0 : Int32.toInt 0 = 0 := (by decide); omega)⟩
        · have r656530 : g656523.toInt < o656345.toInt := gC_nle hc656527
          have bg656523' : gB g656523 0 16777214 := ⟨by omega, by omega⟩
          have bo656345'' : gB o656345 1 16777215 := ⟨by omega, by omega⟩
          have bx656531 : gB g656524 1 14 := opI_b x656525 (by omega)
          refine G_iload_n 1 dr_cX17_operation_45 rfl ?_
          refine G_ldcK (a := D.2 1000 42) dr_cX17_operation_46 (fun _ _ _ h => gx_vk 42 rfl rfl h) ?_
          have hl42_656531 : (sb_42.length : Int) = 34 := rfl
          refine G_iload_n 0 dr_cX17_operation_48 rfl ?_
          refine Gw_callVk (As := [.int g656523]) (gV_ok D I) (cp_656362_String_charAt l hl0 D I P656317 F656318 (D.2 1000 42) (D.2 1001 42) sb_42 g656523 (gx_sc 42 rfl rfl) (by omega) (by decide +kernel) ⟨by omega, by omega⟩ (by have qa0 : Int32.toInt 0 = 0 := (by decide); omega)) dr_cX17_operation_49 ⟨wr_10_103, wr_1_21, wr_3_70, by decide, rfl, (Nat.le_of_ble_eq_true rfl), (Nat.le_of_ble_eq_true rfl)⟩ wr_3_68 wr_3_69 (fun _ _ _ h => ((gx_sc 42 rfl rfl) _ _ _ h).1) (show 4 + 0 ≤ 8 by first | omega | decide) (show 20 + (o656293.toInt.toNat + 4) + 0 + 0 ≤ 64 by first | omega | decide) (Nat.le_of_ble_eq_true rfl) (fun r656536 w656537 dc656533 ds656534 hp656535 => ?_) (fun _ _ _ _ _ z => z.elim)
          obtain ⟨o656538, rfl, rfl, hdc, hds, bo656538, x656539⟩ := hp656535
          change G _ _ _ _ _ _ _ (.int o656538 :: _) _ _ _
          refine G_widen (cs' := 4) (sl' := 20 + (o656293.toInt.toNat + 4) + 0 + 0) (by omega) (by omega) ?_
          refine G_bipush 32 dr_cX17_operation_52 (by decide +kernel) ?_
          refine G_icmp_ne 61 dr_cX17_operation_54 (by decide +kernel) (fun hc656540 => ?_) (fun hc656540 => ?_)
          · have r656541 : o656538.toInt ≠ 32 := gj_neq hc656540 (show Int32.toInt 32 = 32 by decide)
            refine G_iconst 0 dr_cX17_operation_61 (by decide +kernel) ?_
            refine G_iadd dr_cX17_operation_62 (G_nam fun z656542 hz656542 => ?_)
            have ez656542 : z656542.toInt = g656524.toInt + 0 := by rw [gI_add hz656542 bx656531 (gBl (show Int32.toInt 0 = 0 by decide)) (by decide) (by decide), show Int32.toInt 0 = 0 from by decide]
            have bz656542 : gB z656542 1 14 := gB_add (gI_add hz656542 bx656531 (gBl (show Int32.toInt 0 = 0 by decide)) (by decide) (by decide)) bx656531 (gBl (show Int32.toInt 0 = 0 by decide)) (by decide) (by decide)
            refine G_istore_n (L' := [(2, .int z656542), (3, .int g656523), (1, .int o656345), (0, .ref q656202)]) dr_cX17_operation_63 (Nat.le_of_ble_eq_true rfl) rfl ?_
            obtain ⟨z656543, hz656543⟩ : ∃ z : Int32, z = g656523 + Int32.ofInt 1 := ⟨_, rfl⟩
            have ez656543 : z656543.toInt = g656523.toInt + 1 := gI_inc hz656543 (by decide) bg656523' (by decide) (by decide)
            have bz656543 : gB z656543 1 16777215 := ⟨by omega, by omega⟩
            refine G_iinc (L' := [(3, .int z656543), (2, .int z656542), (1, .int o656345), (0, .ref q656202)]) z656543 1 dr_cX17_operation_64 rfl hz656543.symm (Nat.le_of_ble_eq_true rfl) rfl ?_
            refine G_goto 40 dr_cX17_operation_67 (by decide +kernel) ?_
            exact ih40_656526 z656543 z656542 (gB_w bz656543 (by decide) (by decide)) (by have qa0 : Int32.toInt 0 = 0 := (by decide); have qa1 : Int32.toInt 1 = 1 := (by decide); first | exact opI_st (d := 1) x656525 (by omega) (by omega) (by omega) x656539 (Or.inl ⟨by omega, rfl⟩) | exact opI_st (d := 0) x656525 (by omega) (by omega) (by omega) x656539 (Or.inr ⟨by omega, rfl⟩)) (by have qa0 : Int32.toInt 0 = 0 := (by decide); omega) (by have qa0 : Int32.toInt 0 = 0 := (by decide); omega)
          · have r656544 : o656538.toInt = 32 := gj_eq hc656540 (show Int32.toInt 32 = 32 by decide)
            have bo656538' : gB o656538 32 32 := ⟨by omega, by omega⟩
            refine G_iconst 1 dr_cX17_operation_57 (by decide +kernel) ?_
            refine G_goto 62 dr_cX17_operation_58 (by decide +kernel) ?_
            refine G_iadd dr_cX17_operation_62 (G_nam fun z656545 hz656545 => ?_)
            have ez656545 : z656545.toInt = g656524.toInt + 1 := by rw [gI_add hz656545 bx656531 (gBl (show Int32.toInt 1 = 1 by decide)) (by decide) (by decide), show Int32.toInt 1 = 1 from by decide]
            have bz656545 : gB z656545 2 15 := gB_add (gI_add hz656545 bx656531 (gBl (show Int32.toInt 1 = 1 by decide)) (by decide) (by decide)) bx656531 (gBl (show Int32.toInt 1 = 1 by decide)) (by decide) (by decide)
            refine G_istore_n (L' := [(2, .int z656545), (3, .int g656523), (1, .int o656345), (0, .ref q656202)]) dr_cX17_operation_63 (Nat.le_of_ble_eq_true rfl) rfl ?_
            obtain ⟨z656546, hz656546⟩ : ∃ z : Int32, z = g656523 + Int32.ofInt 1 := ⟨_, rfl⟩
            have ez656546 : z656546.toInt = g656523.toInt + 1 := gI_inc hz656546 (by decide) bg656523' (by decide) (by decide)
            have bz656546 : gB z656546 1 16777215 := ⟨by omega, by omega⟩
            refine G_iinc (L' := [(3, .int z656546), (2, .int z656545), (1, .int o656345), (0, .ref q656202)]) z656546 1 dr_cX17_operation_64 rfl hz656546.symm (Nat.le_of_ble_eq_true rfl) rfl ?_
            refine G_goto 40 dr_cX17_operation_67 (by decide +kernel) ?_
            exact ih40_656526 z656546 z656545 (gB_w bz656546 (by decide) (by decide)) (by have qa0 : Int32.toInt 0 = 0 := (by decide); have qa1 : Int32.toInt 1 = 1 := (by decide); first | exact opI_st (d := 1) x656525 (by omega) (by omega) (by omega) x656539 (Or.inl ⟨by omega, rfl⟩) | exact opI_st (d := 0) x656525 (by omega) (by omega) (by omega) x656539 (Or.inr ⟨by omega, rfl⟩)) (by have qa0 : Int32.toInt 0 = 0 := (by decide); omega) (by have qa0 : Int32.toInt 0 = 0 := (by decide); omega)
    exact hlp40_656526 (((16777216 : Int) - 0).toNat + 1) 0 1 (gB_w (gBl (show Int32.toInt 0 = 0 by decide)) (by decide) (by decide)) opI_0 (by have qa0 : Int32.toInt 0 = 0 := (by decide); have qa1 : Int32.toInt 1 = 1 := (by decide); omega) (Nat.lt_succ_self _)
  · have r656547 : o656345.toInt < 0 := gj_nleL hc656348 (show Int32.toInt 0 = 0 by decide)
    have bo656345' : gB o656345 (-2147483646) (-1) := ⟨by omega, by omega⟩
    refine G_iconst 0 dr_cX17_operation_34 (by decide +kernel) ?_
    exact G_iretA dr_cX17_operation_35 rfl (Nat.le_of_ble_eq_true rfl) (show 20 + (o656293.toInt.toNat + 4) + 0 ≤ 64 by omega) ⟨P656317, F656318, 0, rfl, rfl, hsb656335, hfr656338, he656336, he656337, (Nat.le_of_ble_eq_true rfl), (by omega), (gB_w (gBl (show Int32.toInt 0 = 0 by decide)) (by decide) (by decide)), (by have qa0 : Int32.toInt 0 = 0 := (by decide); omega), (by have qa0 : Int32.toInt 0 = 0 := (by decide); omega)⟩
