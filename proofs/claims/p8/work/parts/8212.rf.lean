theorem dr_cX14_breaks_0 : decode cX14_breaks 0 = .ok (.aload_n 0, 1) := by decide +kernel
theorem dr_cX14_breaks_1 : decode cX14_breaks 1 = .ok (.getfield 17, 3) := by decide +kernel
theorem wr_9_44 : (Jvm.Cond.fieldLink "SpillForgeModel$Reader" (17 : Nat) "SpillForgeModel$Reader" "rulePlace" "I") ∈ gw := gw_9 44 rfl rfl
theorem dr_cX14_breaks_4 : decode cX14_breaks 4 = .ok (.ifCond .lt 27, 3) := by decide +kernel
theorem dr_cX14_breaks_31 : decode cX14_breaks 31 = .ok (.aload_n 0, 1) := by decide +kernel
theorem dr_cX14_breaks_32 : decode cX14_breaks 32 = .ok (.iload_n 2, 1) := by decide +kernel
theorem dr_cX14_breaks_33 : decode cX14_breaks 33 = .ok (.putfield 17, 3) := by decide +kernel
theorem dr_cX14_breaks_36 : decode cX14_breaks 36 = .ok (.aload_n 0, 1) := by decide +kernel
theorem dr_cX14_breaks_37 : decode cX14_breaks 37 = .ok (.iload_n 1, 1) := by decide +kernel
theorem dr_cX14_breaks_38 : decode cX14_breaks 38 = .ok (.putfield 140, 3) := by decide +kernel
theorem wr_9_46 : (Jvm.Cond.fieldLink "SpillForgeModel$Reader" (140 : Nat) "SpillForgeModel$Reader" "rule" "I") ∈ gw := gw_9 46 rfl rfl
theorem dr_cX14_breaks_41 : decode cX14_breaks 41 = .ok (.return_, 1) := by decide +kernel
theorem dr_cX14_breaks_7 : decode cX14_breaks 7 = .ok (.iload_n 2, 1) := by decide +kernel
theorem dr_cX14_breaks_8 : decode cX14_breaks 8 = .ok (.aload_n 0, 1) := by decide +kernel
theorem dr_cX14_breaks_9 : decode cX14_breaks 9 = .ok (.getfield 17, 3) := by decide +kernel
theorem dr_cX14_breaks_12 : decode cX14_breaks 12 = .ok (.if_icmp .lt 19, 3) := by decide +kernel
theorem dr_cX14_breaks_15 : decode cX14_breaks 15 = .ok (.iload_n 2, 1) := by decide +kernel
theorem dr_cX14_breaks_16 : decode cX14_breaks 16 = .ok (.aload_n 0, 1) := by decide +kernel
theorem dr_cX14_breaks_17 : decode cX14_breaks 17 = .ok (.getfield 17, 3) := by decide +kernel
theorem dr_cX14_breaks_20 : decode cX14_breaks 20 = .ok (.if_icmp .ne 21, 3) := by decide +kernel
theorem dr_cX14_breaks_23 : decode cX14_breaks 23 = .ok (.iload_n 1, 1) := by decide +kernel
theorem dr_cX14_breaks_24 : decode cX14_breaks 24 = .ok (.aload_n 0, 1) := by decide +kernel
theorem dr_cX14_breaks_25 : decode cX14_breaks 25 = .ok (.getfield 140, 3) := by decide +kernel
theorem dr_cX14_breaks_28 : decode cX14_breaks 28 = .ok (.if_icmp .ge 13, 3) := by decide +kernel
theorem dr_cX14_operand_0 : decode cX14_operand 0 = .ok (.aload_n 0, 1) := by decide +kernel
theorem dr_cX14_operand_1 : decode cX14_operand 1 = .ok (.getfield 38, 3) := by decide +kernel
theorem dr_cX14_operand_4 : decode cX14_operand 4 = .ok (.iconst 2, 1) := by decide +kernel
theorem dr_cX14_operand_5 : decode cX14_operand 5 = .ok (.if_icmp .ne 7, 3) := by decide +kernel
theorem dr_cX14_operand_12 : decode cX14_operand 12 = .ok (.iconst 0, 1) := by decide +kernel
theorem dr_cX14_operand_13 : decode cX14_operand 13 = .ok (.istore_n 3, 1) := by decide +kernel
theorem dr_cX14_operand_14 : decode cX14_operand 14 = .ok (.iload_n 3, 1) := by decide +kernel
theorem dr_cX14_operand_15 : decode cX14_operand 15 = .ok (.ifCond .ne 16, 3) := by decide +kernel
theorem dr_cX14_operand_18 : decode cX14_operand 18 = .ok (.aload_n 0, 1) := by decide +kernel
theorem dr_cX14_operand_19 : decode cX14_operand 19 = .ok (.getfield 38, 3) := by decide +kernel
theorem dr_cX14_operand_22 : decode cX14_operand 22 = .ok (.iconst 4, 1) := by decide +kernel
theorem dr_cX14_operand_23 : decode cX14_operand 23 = .ok (.if_icmp .eq 8, 3) := by decide +kernel
theorem dr_cX14_operand_31 : decode cX14_operand 31 = .ok (.iload_n 2, 1) := by decide +kernel
theorem dr_cX14_operand_32 : decode cX14_operand 32 = .ok (.ifCond .eq 19, 3) := by decide +kernel
theorem dr_cX14_operand_51 : decode cX14_operand 51 = .ok (.aload_n 1, 1) := by decide +kernel
theorem dr_cX14_operand_52 : decode cX14_operand 52 = .ok (.aload_n 0, 1) := by decide +kernel
theorem dr_cX14_operand_53 : decode cX14_operand 53 = .ok (.getfield 80, 3) := by decide +kernel
theorem dr_cX14_operand_56 : decode cX14_operand 56 = .ok (.putfield 214, 3) := by decide +kernel
theorem wr_9_187 : (Jvm.Cond.fieldLink "SpillForgeModel$Reader" (214 : Nat) "SpillForgeModel$Row" "a" "I") ∈ gw := gw_9 187 rfl rfl
theorem dr_cX14_operand_59 : decode cX14_operand 59 = .ok (.aload_n 1, 1) := by decide +kernel
theorem dr_cX14_operand_60 : decode cX14_operand 60 = .ok (.iload_n 3, 1) := by decide +kernel
theorem dr_cX14_operand_61 : decode cX14_operand 61 = .ok (.putfield 217, 3) := by decide +kernel
theorem wr_9_198 : (Jvm.Cond.fieldLink "SpillForgeModel$Reader" (217 : Nat) "SpillForgeModel$Row" "regA" "Z") ∈ gw := gw_9 198 rfl rfl
theorem dr_cX14_operand_64 : decode cX14_operand 64 = .ok (.aload_n 0, 1) := by decide +kernel
theorem dr_cX14_operand_65 : decode cX14_operand 65 = .ok (.invokevirtual 35, 3) := by decide +kernel
theorem dr_cX14_operand_68 : decode cX14_operand 68 = .ok (.return_, 1) := by decide +kernel
theorem dr_cX14_operand_35 : decode cX14_operand 35 = .ok (.aload_n 1, 1) := by decide +kernel
theorem dr_cX14_operand_36 : decode cX14_operand 36 = .ok (.aload_n 0, 1) := by decide +kernel
theorem dr_cX14_operand_37 : decode cX14_operand 37 = .ok (.getfield 80, 3) := by decide +kernel
theorem dr_cX14_operand_40 : decode cX14_operand 40 = .ok (.putfield 205, 3) := by decide +kernel
theorem wr_9_191 : (Jvm.Cond.fieldLink "SpillForgeModel$Reader" (205 : Nat) "SpillForgeModel$Row" "b" "I") ∈ gw := gw_9 191 rfl rfl
theorem dr_cX14_operand_43 : decode cX14_operand 43 = .ok (.aload_n 1, 1) := by decide +kernel
theorem dr_cX14_operand_44 : decode cX14_operand 44 = .ok (.iload_n 3, 1) := by decide +kernel
theorem dr_cX14_operand_45 : decode cX14_operand 45 = .ok (.putfield 210, 3) := by decide +kernel
theorem wr_9_201 : (Jvm.Cond.fieldLink "SpillForgeModel$Reader" (210 : Nat) "SpillForgeModel$Row" "regB" "Z") ∈ gw := gw_9 201 rfl rfl
theorem dr_cX14_operand_48 : decode cX14_operand 48 = .ok (.goto 16, 3) := by decide +kernel
theorem dr_cX14_operand_26 : decode cX14_operand 26 = .ok (.aload_n 0, 1) := by decide +kernel
theorem dr_cX14_operand_27 : decode cX14_operand 27 = .ok (.invokevirtual 136, 3) := by decide +kernel
theorem dr_cX14_operand_30 : decode cX14_operand 30 = .ok (.athrow, 1) := by decide +kernel
theorem dr_cX14_operand_8 : decode cX14_operand 8 = .ok (.iconst 1, 1) := by decide +kernel
theorem dr_cX14_operand_9 : decode cX14_operand 9 = .ok (.goto 4, 3) := by decide +kernel
theorem dr_cX17_operation_0 : decode cX17_operation 0 = .ok (.ldc 3, 2) := by decide +kernel
theorem dr_cX17_operation_2 : decode cX17_operation 2 = .ok (.new 5, 3) := by decide +kernel
theorem wr_7_43 : (Jvm.Cond.classLink "SpillForgeModel" (5 : Nat) "java/lang/StringBuilder") ∈ gw := gw_7 43 rfl rfl
theorem dr_cX17_operation_5 : decode cX17_operation 5 = .ok (.dup, 1) := by decide +kernel
theorem dr_cX17_operation_6 : decode cX17_operation 6 = .ok (.invokespecial 7, 3) := by decide +kernel
theorem wr_7_45 : (Jvm.Cond.methodLink "SpillForgeModel" (7 : Nat) ({ cls := "java/lang/StringBuilder", name := "<init>", desc := "()V" } : Jvm.MethodName)) ∈ gw := gw_7 45 rfl rfl
theorem dr_cX17_operation_9 : decode cX17_operation 9 = .ok (.ldc 11, 2) := by decide +kernel
theorem dr_cX17_operation_11 : decode cX17_operation 11 = .ok (.invokevirtual 13, 3) := by decide +kernel
theorem wr_10_100 : (Jvm.Cond.methodLink "SpillForgeModel" (13 : Nat) ({ cls := "java/lang/StringBuilder", name := "append", desc := "(Ljava/lang/String;)Ljava/lang/StringBuilder;" } : Jvm.MethodName)) ∈ gw := gw_10 100 rfl rfl
theorem dr_cX17_operation_14 : decode cX17_operation 14 = .ok (.aload_n 0, 1) := by decide +kernel
theorem dr_cX17_operation_15 : decode cX17_operation 15 = .ok (.invokevirtual 13, 3) := by decide +kernel
theorem dr_cX17_operation_18 : decode cX17_operation 18 = .ok (.ldc 11, 2) := by decide +kernel
theorem dr_cX17_operation_20 : decode cX17_operation 20 = .ok (.invokevirtual 13, 3) := by decide +kernel
theorem dr_cX17_operation_23 : decode cX17_operation 23 = .ok (.invokevirtual 17, 3) := by decide +kernel
theorem wr_10_101 : (Jvm.Cond.methodLink "SpillForgeModel" (17 : Nat) ({ cls := "java/lang/StringBuilder", name := "toString", desc := "()Ljava/lang/String;" } : Jvm.MethodName)) ∈ gw := gw_10 101 rfl rfl
theorem dr_cX17_operation_26 : decode cX17_operation 26 = .ok (.invokevirtual 21, 3) := by decide +kernel
theorem wr_10_102 : (Jvm.Cond.methodLink "SpillForgeModel" (21 : Nat) ({ cls := "java/lang/String", name := "indexOf", desc := "(Ljava/lang/String;)I" } : Jvm.MethodName)) ∈ gw := gw_10 102 rfl rfl
theorem dr_cX17_operation_29 : decode cX17_operation 29 = .ok (.istore_n 1, 1) := by decide +kernel
theorem dr_cX17_operation_30 : decode cX17_operation 30 = .ok (.iload_n 1, 1) := by decide +kernel
theorem dr_cX17_operation_31 : decode cX17_operation 31 = .ok (.ifCond .ge 5, 3) := by decide +kernel
theorem dr_cX17_operation_36 : decode cX17_operation 36 = .ok (.iconst 1, 1) := by decide +kernel
theorem dr_cX17_operation_37 : decode cX17_operation 37 = .ok (.istore_n 2, 1) := by decide +kernel
theorem dr_cX17_operation_38 : decode cX17_operation 38 = .ok (.iconst 0, 1) := by decide +kernel
theorem dr_cX17_operation_39 : decode cX17_operation 39 = .ok (.istore_n 3, 1) := by decide +kernel
theorem dr_cX17_operation_40 : decode cX17_operation 40 = .ok (.iload_n 3, 1) := by decide +kernel
theorem dr_cX17_operation_41 : decode cX17_operation 41 = .ok (.iload_n 1, 1) := by decide +kernel
theorem dr_cX17_operation_42 : decode cX17_operation 42 = .ok (.if_icmp .ge 28, 3) := by decide +kernel
theorem dr_cX17_operation_70 : decode cX17_operation 70 = .ok (.iload_n 2, 1) := by decide +kernel
theorem dr_cX17_operation_71 : decode cX17_operation 71 = .ok (.ireturn, 1) := by decide +kernel
theorem dr_cX17_operation_45 : decode cX17_operation 45 = .ok (.iload_n 2, 1) := by decide +kernel
theorem dr_cX17_operation_46 : decode cX17_operation 46 = .ok (.ldc 3, 2) := by decide +kernel
theorem dr_cX17_operation_48 : decode cX17_operation 48 = .ok (.iload_n 3, 1) := by decide +kernel
theorem dr_cX17_operation_49 : decode cX17_operation 49 = .ok (.invokevirtual 27, 3) := by decide +kernel
theorem wr_10_103 : (Jvm.Cond.methodLink "SpillForgeModel" (27 : Nat) ({ cls := "java/lang/String", name := "charAt", desc := "(I)C" } : Jvm.MethodName)) ∈ gw := gw_10 103 rfl rfl
theorem wr_3_70 : (Jvm.Cond.code ({ cls := "java/lang/String", name := "charAt", desc := "(I)C" } : Jvm.MethodName) prog_34_method_56_code (2 : Nat) (Option.some Jvm.ClassFile.FieldType.char)) ∈ gw := gw_3 70 rfl rfl
theorem wr_3_68 : (Jvm.Cond.instanceMethod ({ cls := "java/lang/String", name := "charAt", desc := "(I)C" } : Jvm.MethodName)) ∈ gw := gw_3 68 rfl rfl
theorem wr_3_69 : (Jvm.Cond.selects "java/lang/String" ({ cls := "java/lang/String", name := "charAt", desc := "(I)C" } : Jvm.MethodName) ({ cls := "java/lang/String", name := "charAt", desc := "(I)C" } : Jvm.MethodName)) ∈ gw := gw_3 69 rfl rfl
theorem dr_cX17_operation_52 : decode cX17_operation 52 = .ok (.bipush 32, 2) := by decide +kernel
theorem dr_cX17_operation_54 : decode cX17_operation 54 = .ok (.if_icmp .ne 7, 3) := by decide +kernel
theorem dr_cX17_operation_61 : decode cX17_operation 61 = .ok (.iconst 0, 1) := by decide +kernel
theorem dr_cX17_operation_62 : decode cX17_operation 62 = .ok (.iadd, 1) := by decide +kernel
theorem dr_cX17_operation_63 : decode cX17_operation 63 = .ok (.istore_n 2, 1) := by decide +kernel
theorem dr_cX17_operation_64 : decode cX17_operation 64 = .ok (.iinc 3 1, 3) := by decide +kernel
theorem dr_cX17_operation_67 : decode cX17_operation 67 = .ok (.goto (-27), 3) := by decide +kernel
theorem dr_cX17_operation_57 : decode cX17_operation 57 = .ok (.iconst 1, 1) := by decide +kernel
theorem dr_cX17_operation_58 : decode cX17_operation 58 = .ok (.goto 4, 3) := by decide +kernel
theorem dr_cX17_operation_34 : decode cX17_operation 34 = .ok (.iconst 0, 1) := by decide +kernel
theorem dr_cX17_operation_35 : decode cX17_operation 35 = .ok (.ireturn, 1) := by decide +kernel
abbrev ky_673845_Reader_breaks : gKey := (cX14_breaks, 3, "SpillForgeModel$Reader", none, [], "breaks", fun _ _ => True)
def pp_673845_Reader_breaks (D : va_G) (I : FieldType → ClassId) (P673825 : List Nat) (F673826 : Nat → va_E) (q673827 : Nat) (q673828 : Nat) (p673829 : Int32) (p673830 : Int32) (p673831 : Int32) (p673832 : Int32) (p673833 : Int32) (p673834 : Int32) (p673835 : Int32) (p673836 : Int32) (qo673837 : Nat) (p673838 : Int32) (p673839 : Int32) (p673840 : Int32) (qo673841 : Nat) (qo673842 : Nat) (p673843 : Int32) (f673844 : Nat → Int32) : Option Value → va_W → Nat → Nat → Prop := fun r w dc ds => ∃ (F673897 : Nat → va_E) (o673894 : Int32) (o673895 : Int32), r = none ∧ w = va_pl P673825 F673897 ∧ rFr [q673827] P673825 F673826 F673897 ∧ F673897 q673827 = .inr (19, [.ref q673828, .int p673831, .int p673832, .int p673833, .int p673834, .int p673835, .int p673836, .ref qo673837, .int o673894, .int o673895, .int p673840, .ref qo673841, .ref qo673842, .int p673843]) ∧ F673897 q673828 = .inl (I .byte, 8192, .inl f673844) ∧ dc ≤ 0 ∧ ds ≤ 0 ∧ gB o673894 0 8192 ∧ gB o673895 0 4 ∧ tr_RReader_breaks p673829 p673830 p673838 p673839 o673894 o673895
set_option maxRecDepth 100000 in
set_option maxHeartbeats 4000000 in
theorem cp_673845_Reader_breaks (l : Launch) (hl0 : l.stackTraces = false) (D : va_G) (I : FieldType → ClassId) (P673825 : List Nat) (F673826 : Nat → va_E) (q673827 : Nat) (q673828 : Nat) (p673829 : Int32) (p673830 : Int32) (p673831 : Int32) (p673832 : Int32) (p673833 : Int32) (p673834 : Int32) (p673835 : Int32) (p673836 : Int32) (qo673837 : Nat) (p673838 : Int32) (p673839 : Int32) (p673840 : Int32) (qo673841 : Nat) (qo673842 : Nat) (p673843 : Int32) (f673844 : Nat → Int32) (hmq673827 : q673827 ∈ P673825) (hmq673828 : q673828 ∈ P673825) (heq673827 : F673826 q673827 = .inr (19, [.ref q673828, .int p673831, .int p673832, .int p673833, .int p673834, .int p673835, .int p673836, .ref qo673837, .int p673838, .int p673839, .int p673840, .ref qo673841, .ref qo673842, .int p673843])) (heq673828 : F673826 q673828 = .inl (I .byte, 8192, .inl f673844)) (bp673829 : gB p673829 0 4) (bp673830 : gB p673830 0 8192) (bp673831 : gB p673831 0 8192) (bp673832 : gB p673832 0 8192) (bp673833 : gB p673833 0 6) (bp673834 : gB p673834 0 8192) (bp673836 : gB p673836 0 6) (bp673838 : gB p673838 (-1) 8192) (bp673839 : gB p673839 0 4) (bp673840 : gB p673840 0 1000000) (bp673843 : gB p673843 0 1000000) (bf673844 : gF f673844 (-128) 127) : CtA (gV D I) l yX14_breaks cX14_breaks 3 none 0 0 0 0 [.ref q673827, .int p673829, .int p673830] (va_pl P673825 F673826) (pp_673845_Reader_breaks D I P673825 F673826 q673827 q673828 p673829 p673830 p673831 p673832 p673833 p673834 p673835 p673836 qo673837 p673838 p673839 p673840 qo673841 qo673842 p673843 f673844) gNA := by
  refine CtA_of hl0 (by decide) (Nat.le_of_ble_eq_true rfl) ?_
  have bp673835 := gB_any p673835
  refine G_aload_n 0 dr_cX14_breaks_0 rfl ?_
  refine Gp_get 8 hmq673827 heq673827 dr_cX14_breaks_1 (gk_X14 D I) (Nat.le_of_ble_eq_true rfl) wr_9_44 rfl ?_
  refine G_if_lt 31 dr_cX14_breaks_4 (by decide +kernel) (fun hc673846 => ?_) (fun hc673846 => ?_)
  · have r673847 : p673838.toInt < 0 := gj_lt hc673846 (show Int32.toInt 0 = 0 by decide)
    have bp673838' : gB p673838 (-1) (-1) := ⟨by omega, by omega⟩
    refine G_aload_n 0 dr_cX14_breaks_31 rfl ?_
    refine G_iload_n 2 dr_cX14_breaks_32 rfl ?_
    refine Gp_put 8 hmq673827 heq673827 dr_cX14_breaks_33 (gk_X14 D I) (Nat.le_of_ble_eq_true rfl) wr_9_44 rfl rfl rfl (Nat.le_of_ble_eq_true rfl) (fun F673848 e673849 n673850 => ?_)
    have he673851 : F673848 q673828 = .inl (I .byte, 8192, .inl f673844) := (n673850 q673828 (rn_ao heq673828 heq673827)).trans heq673828
    have he673852 : F673848 q673827 = .inr (19, [.ref q673828, .int p673831, .int p673832, .int p673833, .int p673834, .int p673835, .int p673836, .ref qo673837, .int p673830, .int p673839, .int p673840, .ref qo673841, .ref qo673842, .int p673843]) := e673849
    have hfr673853 : rFr [q673827] P673825 F673826 F673848 := rFr_put (rFr_rf (W := []) (P := P673825) (F := F673826)) n673850
    refine G_aload_n 0 dr_cX14_breaks_36 rfl ?_
    refine G_iload_n 1 dr_cX14_breaks_37 rfl ?_
    refine Gp_put 9 hmq673827 he673852 dr_cX14_breaks_38 (gk_X14 D I) (Nat.le_of_ble_eq_true rfl) wr_9_46 rfl rfl rfl (Nat.le_of_ble_eq_true rfl) (fun F673854 e673855 n673856 => ?_)
    have he673857 : F673854 q673828 = .inl (I .byte, 8192, .inl f673844) := (n673856 q673828 (rn_ao he673851 he673852)).trans he673851
    have he673858 : F673854 q673827 = .inr (19, [.ref q673828, .int p673831, .int p673832, .int p673833, .int p673834, .int p673835, .int p673836, .ref qo673837, .int p673830, .int p673829, .int p673840, .ref qo673841, .ref qo673842, .int p673843]) := e673855
    have hfr673859 : rFr [q673827] P673825 F673826 F673854 := rFr_put' List.mem_cons_self hfr673853 n673856
    exact G_vretA dr_cX14_breaks_41 rfl (Nat.le_of_ble_eq_true rfl) (Nat.le_of_ble_eq_true rfl) ⟨F673854, p673830, p673829, rfl, rfl, hfr673859, he673858, he673857, (Nat.le_of_ble_eq_true rfl), (Nat.le_of_ble_eq_true rfl), bp673830, bp673829, (fun R c1 c2 c3 c4 c5 => c1 r673847)⟩
  · have r673860 : 0 ≤ p673838.toInt := gj_nlt hc673846 (show Int32.toInt 0 = 0 by decide)
    have bp673838' : gB p673838 0 8192 := ⟨by omega, by omega⟩
    refine G_iload_n 2 dr_cX14_breaks_7 rfl ?_
    refine G_aload_n 0 dr_cX14_breaks_8 rfl ?_
    refine Gp_get 8 hmq673827 heq673827 dr_cX14_breaks_9 (gk_X14 D I) (Nat.le_of_ble_eq_true rfl) wr_9_44 rfl ?_
    refine G_icmp_lt 31 dr_cX14_breaks_12 (by decide +kernel) (fun hc673861 => ?_) (fun hc673861 => ?_)
    · have r673862 : p673830.toInt < p673838.toInt := gC_lt hc673861
      have bp673830' : gB p673830 0 8191 := ⟨by omega, by omega⟩
      have bp673838'' : gB p673838 1 8192 := ⟨by omega, by omega⟩
      refine G_aload_n 0 dr_cX14_breaks_31 rfl ?_
      refine G_iload_n 2 dr_cX14_breaks_32 rfl ?_
      refine Gp_put 8 hmq673827 heq673827 dr_cX14_breaks_33 (gk_X14 D I) (Nat.le_of_ble_eq_true rfl) wr_9_44 rfl rfl rfl (Nat.le_of_ble_eq_true rfl) (fun F673863 e673864 n673865 => ?_)
      have he673866 : F673863 q673828 = .inl (I .byte, 8192, .inl f673844) := (n673865 q673828 (rn_ao heq673828 heq673827)).trans heq673828
      have he673867 : F673863 q673827 = .inr (19, [.ref q673828, .int p673831, .int p673832, .int p673833, .int p673834, .int p673835, .int p673836, .ref qo673837, .int p673830, .int p673839, .int p673840, .ref qo673841, .ref qo673842, .int p673843]) := e673864
      have hfr673868 : rFr [q673827] P673825 F673826 F673863 := rFr_put (rFr_rf (W := []) (P := P673825) (F := F673826)) n673865
      refine G_aload_n 0 dr_cX14_breaks_36 rfl ?_
      refine G_iload_n 1 dr_cX14_breaks_37 rfl ?_
      refine Gp_put 9 hmq673827 he673867 dr_cX14_breaks_38 (gk_X14 D I) (Nat.le_of_ble_eq_true rfl) wr_9_46 rfl rfl rfl (Nat.le_of_ble_eq_true rfl) (fun F673869 e673870 n673871 => ?_)
      have he673872 : F673869 q673828 = .inl (I .byte, 8192, .inl f673844) := (n673871 q673828 (rn_ao he673866 he673867)).trans he673866
      have he673873 : F673869 q673827 = .inr (19, [.ref q673828, .int p673831, .int p673832, .int p673833, .int p673834, .int p673835, .int p673836, .ref qo673837, .int p673830, .int p673829, .int p673840, .ref qo673841, .ref qo673842, .int p673843]) := e673870
      have hfr673874 : rFr [q673827] P673825 F673826 F673869 := rFr_put' List.mem_cons_self hfr673868 n673871
      exact G_vretA dr_cX14_breaks_41 rfl (Nat.le_of_ble_eq_true rfl) (Nat.le_of_ble_eq_true rfl) ⟨F673869, p673830, p673829, rfl, rfl, hfr673874, he673873, he673872, (Nat.le_of_ble_eq_true rfl), (Nat.le_of_ble_eq_true rfl), (gB_w bp673830' (by decide) (by decide)), bp673829, (fun R c1 c2 c3 c4 c5 => c2 r673860 r673862)⟩
    · have r673875 : p673838.toInt ≤ p673830.toInt := gC_nlt hc673861
      refine G_iload_n 2 dr_cX14_breaks_15 rfl ?_
      refine G_aload_n 0 dr_cX14_breaks_16 rfl ?_
      refine Gp_get 8 hmq673827 heq673827 dr_cX14_breaks_17 (gk_X14 D I) (Nat.le_of_ble_eq_true rfl) wr_9_44 rfl ?_
      refine G_icmp_ne 41 dr_cX14_breaks_20 (by decide +kernel) (fun hc673876 => ?_) (fun hc673876 => ?_)
      · have r673877 : p673830.toInt ≠ p673838.toInt := gC_ne hc673876
        exact G_vretA dr_cX14_breaks_41 rfl (Nat.le_of_ble_eq_true rfl) (Nat.le_of_ble_eq_true rfl) ⟨F673826, p673838, p673839, rfl, rfl, (rFr_v (rFr_rf (W := []) (P := P673825) (F := F673826)) (fun b hn => nm_n)), heq673827, heq673828, (Nat.le_of_ble_eq_true rfl), (Nat.le_of_ble_eq_true rfl), bp673838', bp673839, (fun R c1 c2 c3 c4 c5 => c3 r673860 r673875 r673877)⟩
      · have r673878 : p673830.toInt = p673838.toInt := gC_eq hc673876
        refine G_iload_n 1 dr_cX14_breaks_23 rfl ?_
        refine G_aload_n 0 dr_cX14_breaks_24 rfl ?_
        refine Gp_get 9 hmq673827 heq673827 dr_cX14_breaks_25 (gk_X14 D I) (Nat.le_of_ble_eq_true rfl) wr_9_46 rfl ?_
        refine G_icmp_ge 41 dr_cX14_breaks_28 (by decide +kernel) (fun hc673879 => ?_) (fun hc673879 => ?_)
        · have r673880 : p673839.toInt ≤ p673829.toInt := gC_le hc673879
          exact G_vretA dr_cX14_breaks_41 rfl (Nat.le_of_ble_eq_true rfl) (Nat.le_of_ble_eq_true rfl) ⟨F673826, p673838, p673839, rfl, rfl, (rFr_v (rFr_rf (W := []) (P := P673825) (F := F673826)) (fun b hn => nm_n)), heq673827, heq673828, (Nat.le_of_ble_eq_true rfl), (Nat.le_of_ble_eq_true rfl), bp673838', bp673839, (fun R c1 c2 c3 c4 c5 => c4 r673860 r673875 r673878 r673880)⟩
        · have r673881 : p673829.toInt < p673839.toInt := gC_nle hc673879
          have bp673829' : gB p673829 0 3 := ⟨by omega, by omega⟩
          have bp673839' : gB p673839 1 4 := ⟨by omega, by omega⟩
          refine G_aload_n 0 dr_cX14_breaks_31 rfl ?_
          refine G_iload_n 2 dr_cX14_breaks_32 rfl ?_
          refine Gp_put 8 hmq673827 heq673827 dr_cX14_breaks_33 (gk_X14 D I) (Nat.le_of_ble_eq_true rfl) wr_9_44 rfl rfl rfl (Nat.le_of_ble_eq_true rfl) (fun F673882 e673883 n673884 => ?_)
          have he673885 : F673882 q673828 = .inl (I .byte, 8192, .inl f673844) := (n673884 q673828 (rn_ao heq673828 heq673827)).trans heq673828
          have he673886 : F673882 q673827 = .inr (19, [.ref q673828, .int p673831, .int p673832, .int p673833, .int p673834, .int p673835, .int p673836, .ref qo673837, .int p673830, .int p673839, .int p673840, .ref qo673841, .ref qo673842, .int p673843]) := e673883
          have hfr673887 : rFr [q673827] P673825 F673826 F673882 := rFr_put (rFr_rf (W := []) (P := P673825) (F := F673826)) n673884
          refine G_aload_n 0 dr_cX14_breaks_36 rfl ?_
          refine G_iload_n 1 dr_cX14_breaks_37 rfl ?_
          refine Gp_put 9 hmq673827 he673886 dr_cX14_breaks_38 (gk_X14 D I) (Nat.le_of_ble_eq_true rfl) wr_9_46 rfl rfl rfl (Nat.le_of_ble_eq_true rfl) (fun F673888 e673889 n673890 => ?_)
          have he673891 : F673888 q673828 = .inl (I .byte, 8192, .inl f673844) := (n673890 q673828 (rn_ao he673885 he673886)).trans he673885
          have he673892 : F673888 q673827 = .inr (19, [.ref q673828, .int p673831, .int p673832, .int p673833, .int p673834, .int p673835, .int p673836, .ref qo673837, .int p673830, .int p673829, .int p673840, .ref qo673841, .ref qo673842, .int p673843]) := e673889
          have hfr673893 : rFr [q673827] P673825 F673826 F673888 := rFr_put' List.mem_cons_self hfr673887 n673890
          exact G_vretA dr_cX14_breaks_41 rfl (Nat.le_of_ble_eq_true rfl) (Nat.le_of_ble_eq_true rfl) ⟨F673888, p673830, p673829, rfl, rfl, hfr673893, he673892, he673891, (Nat.le_of_ble_eq_true rfl), (Nat.le_of_ble_eq_true rfl), bp673830, (gB_w bp673829' (by decide) (by decide)), (fun R c1 c2 c3 c4 c5 => c5 r673860 r673875 r673878 r673881)⟩
/- tr_RReader_operand: a.0...at, a.0...kind, a.0...place, a.0...value, a.1...a, a.1...b, a.1...regA, a.1...regB -/
def tr_RReader_operand (a2 : Int32) (a0_n : Int32) (a0_at : Int32) (a0_kind : Int32) (a0_value : Int32) (a1_a : Int32) (a1_b : Int32) (a1_regA : Int32) (a1_regB : Int32) (a0_t_v : Nat → Int32) (o1 : Int32) (o2 : Int32) (o3 : Int32) (o4 : Int32) (o5 : Int32) (o6 : Int32) (o7 : Int32) (o8 : Int32) (o9 : gTx) : Prop := ∀ R : (Int32) → (Int32) → (Int32) → (Int32) → (Int32) → (Int32) → (Int32) → (Int32) → (gTx) → Prop,
  (∀ (x1 : gTx) (x2 : Int32) (x3 : Int32) (x4 : Int32) (x5 : Int32), a0_kind.toInt ≠ 2 → a0_kind.toInt = 4 → a2.toInt = 0 → gB x2 0 8192 → gB x3 0 6 → gB x4 0 8192 → tr_RReader_next a0_n a0_at a0_kind a0_value a0_t_v x2 x3 x4 x5 x1 → R x2 x3 x4 x5 a0_value a1_b (0 : Int32) a1_regB x1) →
  (∀ (x1 : gTx) (x2 : Int32) (x3 : Int32) (x4 : Int32) (x5 : Int32), a0_kind.toInt ≠ 2 → a0_kind.toInt = 4 → a2.toInt ≠ 0 → gB x2 0 8192 → gB x3 0 6 → gB x4 0 8192 → tr_RReader_next a0_n a0_at a0_kind a0_value a0_t_v x2 x3 x4 x5 x1 → R x2 x3 x4 x5 a1_a a0_value a1_regA (0 : Int32) x1) →
  (∀ (x1 : gTx) (x2 : Int32) (x3 : Int32) (x4 : Int32) (x5 : Int32), a0_kind.toInt = 2 → a2.toInt = 0 → gB x2 0 8192 → gB x3 0 6 → gB x4 0 8192 → tr_RReader_next a0_n a0_at a0_kind a0_value a0_t_v x2 x3 x4 x5 x1 → R x2 x3 x4 x5 a0_value a1_b (1 : Int32) a1_regB x1) →
  (∀ (x1 : gTx) (x2 : Int32) (x3 : Int32) (x4 : Int32) (x5 : Int32), a0_kind.toInt = 2 → a2.toInt ≠ 0 → gB x2 0 8192 → gB x3 0 6 → gB x4 0 8192 → tr_RReader_next a0_n a0_at a0_kind a0_value a0_t_v x2 x3 x4 x5 x1 → R x2 x3 x4 x5 a1_a a0_value a1_regA (1 : Int32) x1) →
  R o1 o2 o3 o4 o5 o6 o7 o8 o9
/- tx_RReader_operand: throws -/
def tx_RReader_operand (a0_kind : Int32) : Prop := ∀ R : Prop,
  (a0_kind.toInt ≠ 2 → a0_kind.toInt ≠ 4 → R) →
  R
abbrev ky_673934_Reader_operand : gKey := (cX14_operand, 4, "SpillForgeModel$Reader", none, [], "operand", fun _ _ => True)
def pp_673934_Reader_operand (D : va_G) (I : FieldType → ClassId) (P673898 : List Nat) (F673899 : Nat → va_E) (q673900 : Nat) (q673901 : Nat) (q673902 : Nat) (p673903 : Int32) (p673904 : Int32) (p673905 : Int32) (p673906 : Int32) (p673907 : Int32) (p673908 : Int32) (p673909 : Int32) (qo673910 : Nat) (p673911 : Int32) (p673912 : Int32) (p673913 : Int32) (qo673914 : Nat) (qo673915 : Nat) (p673916 : Int32) (p673917 : Int32) (p673918 : Int32) (p673919 : Int32) (p673920 : Int32) (p673921 : Int32) (p673922 : Int32) (p673923 : Int32) (f673924 : Nat → Int32) (xt673925 : gTx) : Option Value → va_W → Nat → Nat → Prop := fun r w dc ds => ∃ (P674159 : List Nat) (F674160 : Nat → va_E) (o674150 : Int32) (o674151 : Int32) (o674152 : Int32) (o674153 : Int32) (q674154 : Nat) (o674155 : Int32) (o674156 : Int32) (o674157 : Int32) (o674158 : Int32) (xt674161 : gTx), r = none ∧ w = va_pl P674159 F674160 ∧ rSub P673898 P674159 ∧ rFr [q673901, q673900] P673898 F673899 F674160 ∧ F674160 q673901 = .inr (20, [.int p673917, .int p673918, .int o674155, .int o674156, .int p673921, .int o674157, .int o674158]) ∧ F674160 q673900 = .inr (19, [.ref q673902, .int p673904, .int o674150, .int o674151, .int o674152, .int o674153, .int p673906, .ref q674154, .int p673911, .int p673912, .int p673913, .ref qo673914, .ref qo673915, .int p673916]) ∧ F674160 q673902 = .inl (I .byte, 8192, .inl f673924) ∧ dc ≤ (16 * (o674150.toInt - p673905.toInt)).toNat ∧ ds ≤ (160 * (o674150.toInt - p673905.toInt)).toNat ∧ gB o674150 0 8192 ∧ gB o674151 0 6 ∧ gB o674152 0 8192 ∧ gB o674157 0 1 ∧ gB o674158 0 1 ∧ p673905.toInt ≤ o674150.toInt ∧ prP o674151 p673905 o674150 ∧ o674150.toInt ≤ p673904.toInt ∧ tP I P674159 F674160 o674151 q674154 qo673915 qo673914 xt674161 ∧ vP o674151 o674153 ∧ rwP o674157 o674155 ∧ rwP o674158 o674156 ∧ nzK p673906 ∧ tr_RReader_operand p673903 p673904 p673905 p673906 p673908 p673919 p673920 p673922 p673923 f673924 o674150 o674151 o674152 o674153 o674155 o674156 o674157 o674158 xt674161
def xp_673934_Reader_operand (D : va_G) (I : FieldType → ClassId) (P673898 : List Nat) (F673899 : Nat → va_E) (q673900 : Nat) (q673901 : Nat) (q673902 : Nat) (p673903 : Int32) (p673904 : Int32) (p673905 : Int32) (p673906 : Int32) (p673907 : Int32) (p673908 : Int32) (p673909 : Int32) (qo673910 : Nat) (p673911 : Int32) (p673912 : Int32) (p673913 : Int32) (qo673914 : Nat) (qo673915 : Nat) (p673916 : Int32) (p673917 : Int32) (p673918 : Int32) (p673919 : Int32) (p673920 : Int32) (p673921 : Int32) (p673922 : Int32) (p673923 : Int32) (f673924 : Nat → Int32) (xt673925 : gTx) : String → Nat → va_W → Nat → Nat → Prop := fun E q w dc ds => ∃ (P674163 : List Nat) (F674162 : Nat → va_E), E = "SpillForgeModel$Wrong" ∧ w = va_pl P674163 F674162 ∧ rSub P673898 P674163 ∧ rFr [] P673898 F673899 F674162 ∧ q ∈ P674163 ∧ q ∉ P673898 ∧ wrF F674162 q ∧ dc ≤ (16 * (p673904.toInt - p673905.toInt)).toNat + 1 ∧ ds ≤ (160 * (p673904.toInt - p673905.toInt)).toNat + 7 ∧ rkR (F674162 q673901) ∧ tx_RReader_operand p673906
set_option maxRecDepth 100000 in
set_option maxHeartbeats 4000000 in
theorem cp_673934_Reader_operand (l : Launch) (hl0 : l.stackTraces = false) (D : va_G) (I : FieldType → ClassId) (P673898 : List Nat) (F673899 : Nat → va_E) (q673900 : Nat) (q673901 : Nat) (q673902 : Nat) (p673903 : Int32) (p673904 : Int32) (p673905 : Int32) (p673906 : Int32) (p673907 : Int32) (p673908 : Int32) (p673909 : Int32) (qo673910 : Nat) (p673911 : Int32) (p673912 : Int32) (p673913 : Int32) (qo673914 : Nat) (qo673915 : Nat) (p673916 : Int32) (p673917 : Int32) (p673918 : Int32) (p673919 : Int32) (p673920 : Int32) (p673921 : Int32) (p673922 : Int32) (p673923 : Int32) (f673924 : Nat → Int32) (xt673925 : gTx) (hmq673900 : q673900 ∈ P673898) (hmq673901 : q673901 ∈ P673898) (hmq673902 : q673902 ∈ P673898) (heq673900 : F673899 q673900 = .inr (19, [.ref q673902, .int p673904, .int p673905, .int p673906, .int p673907, .int p673908, .int p673909, .ref qo673910, .int p673911, .int p673912, .int p673913, .ref qo673914, .ref qo673915, .int p673916])) (heq673901 : F673899 q673901 = .inr (20, [.int p673917, .int p673918, .int p673919, .int p673920, .int p673921, .int p673922, .int p673923])) (heq673902 : F673899 q673902 = .inl (I .byte, 8192, .inl f673924)) (bp673903 : gB p673903 0 1) (bp673904 : gB p673904 0 8192) (bp673905 : gB p673905 0 8192) (bp673906 : gB p673906 0 6) (bp673907 : gB p673907 0 8192) (bp673909 : gB p673909 0 6) (bp673911 : gB p673911 (-1) 8192) (bp673912 : gB p673912 0 4) (bp673913 : gB p673913 0 1000000) (bp673916 : gB p673916 0 1000000) (bp673917 : gB p673917 0 32) (bp673918 : gB p673918 0 1999) (bp673921 : gB p673921 0 1999) (bp673922 : gB p673922 0 1) (bp673923 : gB p673923 0 1) (bf673924 : gF f673924 (-128) 127) (x673926 : p673905.toInt ≤ p673904.toInt) (x673927 : qo673915 ∈ P673898) (x673928 : qo673914 ∈ P673898) (x673929 : tP I P673898 F673899 p673906 qo673910 qo673915 qo673914 xt673925) (x673930 : vP p673906 p673908) (x673931 : rwP p673922 p673919) (x673932 : rwP p673923 p673920) (x673933 : opP p673917) : CtA (gV D I) l yX14_operand cX14_operand 4 none 8 177 ((16 * (p673904.toInt - p673905.toInt)).toNat + 1) ((160 * (p673904.toInt - p673905.toInt)).toNat + 7) [.ref q673900, .ref q673901, .int p673903] (va_pl P673898 F673899) (pp_673934_Reader_operand D I P673898 F673899 q673900 q673901 q673902 p673903 p673904 p673905 p673906 p673907 p673908 p673909 qo673910 p673911 p673912 p673913 qo673914 qo673915 p673916 p673917 p673918 p673919 p673920 p673921 p673922 p673923 f673924 xt673925) (xp_673934_Reader_operand D I P673898 F673899 q673900 q673901 q673902 p673903 p673904 p673905 p673906 p673907 p673908 p673909 qo673910 p673911 p673912 p673913 qo673914 qo673915 p673916 p673917 p673918 p673919 p673920 p673921 p673922 p673923 f673924 xt673925) := by
  refine CtA_of hl0 (by decide) (Nat.le_of_ble_eq_true rfl) ?_
  have bp673908 := gB_any p673908
  have bp673919 := gB_any p673919
  have bp673920 := gB_any p673920
  refine G_aload_n 0 dr_cX14_operand_0 rfl ?_
  refine Gp_get 3 hmq673900 heq673900 dr_cX14_operand_1 (gk_X14 D I) (Nat.le_of_ble_eq_true rfl) wr_9_39 rfl ?_
  refine G_iconst 2 dr_cX14_operand_4 (by decide +kernel) ?_
  refine G_icmp_ne 12 dr_cX14_operand_5 (by decide +kernel) (fun hc673935 => ?_) (fun hc673935 => ?_)
  · have r673936 : p673906.toInt ≠ 2 := gj_neq hc673935 (show Int32.toInt 2 = 2 by decide)
    refine G_iconst 0 dr_cX14_operand_12 (by decide +kernel) ?_
    refine G_istore_n (L' := [(3, .int 0), (0, .ref q673900), (1, .ref q673901), (2, .int p673903)]) dr_cX14_operand_13 (Nat.le_of_ble_eq_true rfl) rfl ?_
    refine G_iload_n 0 dr_cX14_operand_14 rfl ?_
    refine G_if_ne 31 dr_cX14_operand_15 (by decide +kernel) (fun hc => absurd hc (by decide)) (fun _ => ?_)
    refine G_aload_n 1 dr_cX14_operand_18 rfl ?_
    refine Gp_get 3 hmq673900 heq673900 dr_cX14_operand_19 (gk_X14 D I) (Nat.le_of_ble_eq_true rfl) wr_9_39 rfl ?_
    refine G_iconst 4 dr_cX14_operand_22 (by decide +kernel) ?_
    refine G_icmp_eq 31 dr_cX14_operand_23 (by decide +kernel) (fun hc673937 => ?_) (fun hc673937 => ?_)
    · have r673938 : p673906.toInt = 4 := gj_eq hc673937 (show Int32.toInt 4 = 4 by decide)
      have bp673906' : gB p673906 4 4 := ⟨by omega, by omega⟩
      refine G_iload_n 3 dr_cX14_operand_31 rfl ?_
      refine G_if_eq 51 dr_cX14_operand_32 (by decide +kernel) (fun hc673939 => ?_) (fun hc673939 => ?_)
      · have r673940 : p673903.toInt = 0 := gj_eq hc673939 (show Int32.toInt 0 = 0 by decide)
        have bp673903' : gB p673903 0 0 := ⟨by omega, by omega⟩
        refine G_aload_n 2 dr_cX14_operand_51 rfl ?_
        refine G_aload_n 1 dr_cX14_operand_52 rfl ?_
        refine Gp_get 5 hmq673900 heq673900 dr_cX14_operand_53 (gk_X14 D I) (Nat.le_of_ble_eq_true rfl) wr_9_41 rfl ?_
        refine Gp_put 2 hmq673901 heq673901 dr_cX14_operand_56 (gk_X15 D I) (Nat.le_of_ble_eq_true rfl) wr_9_187 rfl rfl rfl (Nat.le_of_ble_eq_true rfl) (fun F673941 e673942 n673943 => ?_)
        have he673944 : F673941 q673900 = .inr (19, [.ref q673902, .int p673904, .int p673905, .int p673906, .int p673907, .int p673908, .int p673909, .ref qo673910, .int p673911, .int p673912, .int p673913, .ref qo673914, .ref qo673915, .int p673916]) := (n673943 q673900 (rn_oo heq673900 heq673901 (by decide))).trans heq673900
        have he673945 : F673941 q673902 = .inl (I .byte, 8192, .inl f673924) := (n673943 q673902 (rn_ao heq673902 heq673901)).trans heq673902
        have he673946 : F673941 q673901 = .inr (20, [.int p673917, .int p673918, .int p673908, .int p673920, .int p673921, .int p673922, .int p673923]) := e673942
        have hfr673947 : rFr [q673901] P673898 F673899 F673941 := rFr_put (rFr_rf (W := []) (P := P673898) (F := F673899)) n673943
        have tp673948 : tP I P673898 F673941 p673906 qo673910 qo673915 qo673914 xt673925 := tP_put x673929 heq673901 (by decide) n673943
        refine G_aload_n 2 dr_cX14_operand_59 rfl ?_
        refine G_iload_n 0 dr_cX14_operand_60 rfl ?_
        refine Gp_put 5 hmq673901 he673946 dr_cX14_operand_61 (gk_X15 D I) (Nat.le_of_ble_eq_true rfl) wr_9_198 rfl rfl rfl (Nat.le_of_ble_eq_true rfl) (fun F673949 e673950 n673951 => ?_)
        have he673952 : F673949 q673900 = .inr (19, [.ref q673902, .int p673904, .int p673905, .int p673906, .int p673907, .int p673908, .int p673909, .ref qo673910, .int p673911, .int p673912, .int p673913, .ref qo673914, .ref qo673915, .int p673916]) := (n673951 q673900 (rn_oo he673944 he673946 (by decide))).trans he673944
        have he673953 : F673949 q673902 = .inl (I .byte, 8192, .inl f673924) := (n673951 q673902 (rn_ao he673945 he673946)).trans he673945
        have he673954 : F673949 q673901 = .inr (20, [.int p673917, .int p673918, .int p673908, .int p673920, .int p673921, .int 0, .int p673923]) := e673950
        have hfr673955 : rFr [q673901] P673898 F673899 F673949 := rFr_put' List.mem_cons_self hfr673947 n673951
        have tp673956 : tP I P673898 F673949 p673906 qo673910 qo673915 qo673914 xt673925 := tP_put tp673948 he673946 (by decide) n673951
        refine G_aload_n 1 dr_cX14_operand_64 rfl ?_
        refine Gw_callV (As := []) (gV_ok D I) (cp_671599_Reader_next l hl0 D I P673898 F673949 q673900 q673902 p673904 p673905 p673906 p673907 p673908 p673909 qo673910 p673911 p673912 p673913 qo673914 qo673915 p673916 f673924 hmq673900 hmq673902 he673952 he673953 bp673904 bp673905 (gB_w bp673906' (by decide) (by decide)) bp673907 bp673909 bp673911 bp673912 bp673913 bp673916 bf673924 (by have qa0 : Int32.toInt 0 = 0 := (by decide); omega) x673927 x673928) dr_cX14_operand_65 ⟨wr_7_215, wr_1_32, wr_7_218, by decide, rfl, (Nat.le_of_ble_eq_true rfl), (Nat.le_of_ble_eq_true rfl)⟩ wr_7_217 wr_p_75 hmq673900 he673952 rfl (show 0 + ((16 * (p673904.toInt - p673905.toInt)).toNat) ≤ ((16 * (p673904.toInt - p673905.toInt)).toNat + 1) by first | omega | decide) (show 0 + ((160 * (p673904.toInt - p673905.toInt)).toNat) ≤ ((160 * (p673904.toInt - p673905.toInt)).toNat + 7) by first | omega | decide) (Nat.le_of_ble_eq_true rfl) (fun r673960 w673961 dc673957 ds673958 hp673959 => ?_) (fun _ _ _ _ _ z => z.elim)
        obtain ⟨P673974, F673975, o673962, o673963, o673964, o673965, q673966, xt673973, rfl, rfl, hsb673976, hfr673977, he673978, he673979, hdc, hds, bo673962, bo673963, bo673964, x673967, x673968, x673969, x673970, x673971, ht673972⟩ := hp673959
        have hm673980 : q673900 ∈ P673974 := hsb673976 q673900 hmq673900
        have hm673981 : q673901 ∈ P673974 := hsb673976 q673901 hmq673901
        have hm673982 : q673902 ∈ P673974 := hsb673976 q673902 hmq673902
        have hsb673983 : rSub P673898 P673974 := rSub_tr (rSub_rf (P := P673898)) hsb673976
        have he673984 : F673975 q673901 = .inr (20, [.int p673917, .int p673918, .int p673908, .int p673920, .int p673921, .int 0, .int p673923]) := (hfr673977 q673901 hmq673901 (nm_c (rn_oo he673954 he673952 (by decide)) nm_n)).trans he673954
        have hfr673985 : rFr [q673901, q673900] P673898 F673899 F673975 := rFr_call (rSub_rf (P := P673898)) hfr673955 hfr673977 (fun b hb hn => ⟨(nm_c (fun e => hn (e ▸ List.mem_cons_self)) nm_n), (nm_c (fun e => hn (e ▸ (List.mem_cons_of_mem _ List.mem_cons_self))) nm_n)⟩)
        have bo673965 := gB_any o673965
        change G _ _ _ _ _ _ _ _ _ _ _
        refine G_widen (cs' := (16 * (o673962.toInt - p673905.toInt)).toNat) (sl' := (160 * (o673962.toInt - p673905.toInt)).toNat) (by omega) (by omega) ?_
        exact G_vretA dr_cX14_operand_68 rfl (show (16 * (o673962.toInt - p673905.toInt)).toNat ≤ ((16 * (p673904.toInt - p673905.toInt)).toNat + 1) by omega) (show (160 * (o673962.toInt - p673905.toInt)).toNat ≤ ((160 * (p673904.toInt - p673905.toInt)).toNat + 7) by omega) ⟨P673974, F673975, o673962, o673963, o673964, o673965, q673966, p673908, p673920, 0, p673923, xt673973, rfl, rfl, hsb673983, hfr673985, he673984, he673978, he673979, (by omega), (by omega), bo673962, bo673963, bo673964, (gB_w (gBl (show Int32.toInt 0 = 0 by decide)) (by decide) (by decide)), bp673923, (by have qa0 : Int32.toInt 0 = 0 := (by decide); omega), x673968, (by have qa0 : Int32.toInt 0 = 0 := (by decide); omega), x673970, x673971, rwP_0, x673932, (show nzK p673906 by unfold nzK; omega), (fun R c1 c2 c3 c4 => c1 xt673973 o673962 o673963 o673964 o673965 r673936 r673938 r673940 bo673962 bo673963 bo673964 ht673972)⟩
      · have r673986 : p673903.toInt ≠ 0 := gj_neq hc673939 (show Int32.toInt 0 = 0 by decide)
        have bp673903' : gB p673903 1 1 := ⟨by omega, by omega⟩
        refine G_aload_n 2 dr_cX14_operand_35 rfl ?_
        refine G_aload_n 1 dr_cX14_operand_36 rfl ?_
        refine Gp_get 5 hmq673900 heq673900 dr_cX14_operand_37 (gk_X14 D I) (Nat.le_of_ble_eq_true rfl) wr_9_41 rfl ?_
        refine Gp_put 3 hmq673901 heq673901 dr_cX14_operand_40 (gk_X15 D I) (Nat.le_of_ble_eq_true rfl) wr_9_191 rfl rfl rfl (Nat.le_of_ble_eq_true rfl) (fun F673987 e673988 n673989 => ?_)
        have he673990 : F673987 q673900 = .inr (19, [.ref q673902, .int p673904, .int p673905, .int p673906, .int p673907, .int p673908, .int p673909, .ref qo673910, .int p673911, .int p673912, .int p673913, .ref qo673914, .ref qo673915, .int p673916]) := (n673989 q673900 (rn_oo heq673900 heq673901 (by decide))).trans heq673900
        have he673991 : F673987 q673902 = .inl (I .byte, 8192, .inl f673924) := (n673989 q673902 (rn_ao heq673902 heq673901)).trans heq673902
        have he673992 : F673987 q673901 = .inr (20, [.int p673917, .int p673918, .int p673919, .int p673908, .int p673921, .int p673922, .int p673923]) := e673988
        have hfr673993 : rFr [q673901] P673898 F673899 F673987 := rFr_put (rFr_rf (W := []) (P := P673898) (F := F673899)) n673989
        have tp673994 : tP I P673898 F673987 p673906 qo673910 qo673915 qo673914 xt673925 := tP_put x673929 heq673901 (by decide) n673989
        refine G_aload_n 2 dr_cX14_operand_43 rfl ?_
        refine G_iload_n 0 dr_cX14_operand_44 rfl ?_
        refine Gp_put 6 hmq673901 he673992 dr_cX14_operand_45 (gk_X15 D I) (Nat.le_of_ble_eq_true rfl) wr_9_201 rfl rfl rfl (Nat.le_of_ble_eq_true rfl) (fun F673995 e673996 n673997 => ?_)
        have he673998 : F673995 q673900 = .inr (19, [.ref q673902, .int p673904, .int p673905, .int p673906, .int p673907, .int p673908, .int p673909, .ref qo673910, .int p673911, .int p673912, .int p673913, .ref qo673914, .ref qo673915, .int p673916]) := (n673997 q673900 (rn_oo he673990 he673992 (by decide))).trans he673990
        have he673999 : F673995 q673902 = .inl (I .byte, 8192, .inl f673924) := (n673997 q673902 (rn_ao he673991 he673992)).trans he673991
        have he674000 : F673995 q673901 = .inr (20, [.int p673917, .int p673918, .int p673919, .int p673908, .int p673921, .int p673922, .int 0]) := e673996
        have hfr674001 : rFr [q673901] P673898 F673899 F673995 := rFr_put' List.mem_cons_self hfr673993 n673997
        have tp674002 : tP I P673898 F673995 p673906 qo673910 qo673915 qo673914 xt673925 := tP_put tp673994 he673992 (by decide) n673997
        refine G_goto 64 dr_cX14_operand_48 (by decide +kernel) ?_
        refine G_aload_n 1 dr_cX14_operand_64 rfl ?_
        refine Gw_callV (As := []) (gV_ok D I) (cp_671599_Reader_next l hl0 D I P673898 F673995 q673900 q673902 p673904 p673905 p673906 p673907 p673908 p673909 qo673910 p673911 p673912 p673913 qo673914 qo673915 p673916 f673924 hmq673900 hmq673902 he673998 he673999 bp673904 bp673905 (gB_w bp673906' (by decide) (by decide)) bp673907 bp673909 bp673911 bp673912 bp673913 bp673916 bf673924 (by have qa0 : Int32.toInt 0 = 0 := (by decide); omega) x673927 x673928) dr_cX14_operand_65 ⟨wr_7_215, wr_1_32, wr_7_218, by decide, rfl, (Nat.le_of_ble_eq_true rfl), (Nat.le_of_ble_eq_true rfl)⟩ wr_7_217 wr_p_75 hmq673900 he673998 rfl (show 0 + ((16 * (p673904.toInt - p673905.toInt)).toNat) ≤ ((16 * (p673904.toInt - p673905.toInt)).toNat + 1) by first | omega | decide) (show 0 + ((160 * (p673904.toInt - p673905.toInt)).toNat) ≤ ((160 * (p673904.toInt - p673905.toInt)).toNat + 7) by first | omega | decide) (Nat.le_of_ble_eq_true rfl) (fun r674006 w674007 dc674003 ds674004 hp674005 => ?_) (fun _ _ _ _ _ z => z.elim)
        obtain ⟨P674020, F674021, o674008, o674009, o674010, o674011, q674012, xt674019, rfl, rfl, hsb674022, hfr674023, he674024, he674025, hdc, hds, bo674008, bo674009, bo674010, x674013, x674014, x674015, x674016, x674017, ht674018⟩ := hp674005
        have hm674026 : q673900 ∈ P674020 := hsb674022 q673900 hmq673900
        have hm674027 : q673901 ∈ P674020 := hsb674022 q673901 hmq673901
        have hm674028 : q673902 ∈ P674020 := hsb674022 q673902 hmq673902
        have hsb674029 : rSub P673898 P674020 := rSub_tr (rSub_rf (P := P673898)) hsb674022
        have he674030 : F674021 q673901 = .inr (20, [.int p673917, .int p673918, .int p673919, .int p673908, .int p673921, .int p673922, .int 0]) := (hfr674023 q673901 hmq673901 (nm_c (rn_oo he674000 he673998 (by decide)) nm_n)).trans he674000
        have hfr674031 : rFr [q673901, q673900] P673898 F673899 F674021 := rFr_call (rSub_rf (P := P673898)) hfr674001 hfr674023 (fun b hb hn => ⟨(nm_c (fun e => hn (e ▸ List.mem_cons_self)) nm_n), (nm_c (fun e => hn (e ▸ (List.mem_cons_of_mem _ List.mem_cons_self))) nm_n)⟩)
        have bo674011 := gB_any o674011
        change G _ _ _ _ _ _ _ _ _ _ _
        refine G_widen (cs' := (16 * (o674008.toInt - p673905.toInt)).toNat) (sl' := (160 * (o674008.toInt - p673905.toInt)).toNat) (by omega) (by omega) ?_
        exact G_vretA dr_cX14_operand_68 rfl (show (16 * (o674008.toInt - p673905.toInt)).toNat ≤ ((16 * (p673904.toInt - p673905.toInt)).toNat + 1) by omega) (show (160 * (o674008.toInt - p673905.toInt)).toNat ≤ ((160 * (p673904.toInt - p673905.toInt)).toNat + 7) by omega) ⟨P674020, F674021, o674008, o674009, o674010, o674011, q674012, p673919, p673908, p673922, 0, xt674019, rfl, rfl, hsb674029, hfr674031, he674030, he674024, he674025, (by omega), (by omega), bo674008, bo674009, bo674010, bp673922, (gB_w (gBl (show Int32.toInt 0 = 0 by decide)) (by decide) (by decide)), (by have qa0 : Int32.toInt 0 = 0 := (by decide); omega), x674014, (by have qa0 : Int32.toInt 0 = 0 := (by decide); omega), x674016, x674017, x673931, rwP_0, (show nzK p673906 by unfold nzK; omega), (fun R c1 c2 c3 c4 => c2 xt674019 o674008 o674009 o674010 o674011 r673936 r673938 r673986 bo674008 bo674009 bo674010 ht674018)⟩
    · have r674032 : p673906.toInt ≠ 4 := gj_neq hc673937 (show Int32.toInt 4 = 4 by decide)
      refine G_aload_n 1 dr_cX14_operand_26 rfl ?_
      refine Gw_callV (As := []) (gV_ok D I) (cp_673339_Reader_no l hl0 D I P673898 F673899 q673900 q673902 p673904 p673905 p673906 p673907 p673908 p673909 qo673910 p673911 p673912 p673913 qo673914 qo673915 p673916 f673924 hmq673900 hmq673902 heq673900 heq673902 bp673904 bp673905 bp673906 bp673907 bp673909 bp673911 bp673912 bp673913 bp673916 bf673924) dr_cX14_operand_27 ⟨wr_9_97, wr_1_32, wr_9_100, by decide, rfl, (Nat.le_of_ble_eq_true rfl), (Nat.le_of_ble_eq_true rfl)⟩ wr_9_99 wr_p_81 hmq673900 heq673900 rfl (show 0 + 1 ≤ ((16 * (p673904.toInt - p673905.toInt)).toNat + 1) by first | omega | decide) (show 0 + 7 ≤ ((160 * (p673904.toInt - p673905.toInt)).toNat + 7) by first | omega | decide) (Nat.le_of_ble_eq_true rfl) (fun r674036 w674037 dc674033 ds674034 hp674035 => ?_) (fun _ _ _ _ _ z => z.elim)
      obtain ⟨P674039, F674040, q674038, rfl, rfl, hsb674041, hfr674042, he674043, he674044, he674045, hm674046, hq674047, hdc, hds⟩ := hp674035
      have hm674048 : q673900 ∈ P674039 := hsb674041 q673900 hmq673900
      have hm674049 : q673901 ∈ P674039 := hsb674041 q673901 hmq673901
      have hm674050 : q673902 ∈ P674039 := hsb674041 q673902 hmq673902
      have hq674051 : q674038 ∉ P673898 := fun z => hq674047 ((rSub_rf (P := P673898)) q674038 z)
      have hsb674052 : rSub P673898 P674039 := rSub_tr (rSub_rf (P := P673898)) hsb674041
      have he674053 : F674040 q673901 = .inr (20, [.int p673917, .int p673918, .int p673919, .int p673920, .int p673921, .int p673922, .int p673923]) := (hfr674042 q673901 hmq673901 nm_n).trans heq673901
      have hfr674054 : rFr [] P673898 F673899 F674040 := rFr_call (rSub_rf (P := P673898)) (rFr_rf (W := []) (P := P673898) (F := F673899)) hfr674042 (fun b hb hn => ⟨nm_n, nm_n⟩)
      have tp674055 : tP I P674039 F674040 p673906 qo673910 qo673915 qo673914 xt673925 := tP_new x673929 hsb674041 (fun b hb => hfr674042 b hb (fun z => by cases z)) (Or.inl rfl) (Or.inl rfl)
      change G _ _ _ _ _ _ _ (.ref q674038 :: _) _ _ _
      refine G_widen (cs' := 1) (sl' := 7) (by omega) (by omega) ?_
      exact Gp_athrow hm674046 he674045 rfl dr_cX14_operand_30 (GT_outA rfl (show 1 ≤ ((16 * (p673904.toInt - p673905.toInt)).toNat + 1) by omega) (show 7 ≤ ((160 * (p673904.toInt - p673905.toInt)).toNat + 7) by omega) ⟨P674039, F674040, rfl, rfl, hsb674052, hfr674054, hm674046, hq674051, ⟨_, _, _, _, _, _, _, he674045, by omega⟩, (by omega), (by omega), ⟨p673917, p673918, p673919, p673920, p673921, p673922, p673923, he674053, bp673917, bp673918, bp673921, bp673922, bp673923, x673933, x673931, x673932⟩, (fun R c1 => c1 r673936 r674032)⟩)
  · have r674056 : p673906.toInt = 2 := gj_eq hc673935 (show Int32.toInt 2 = 2 by decide)
    have bp673906' : gB p673906 2 2 := ⟨by omega, by omega⟩
    refine G_iconst 1 dr_cX14_operand_8 (by decide +kernel) ?_
    refine G_goto 13 dr_cX14_operand_9 (by decide +kernel) ?_
    refine G_istore_n (L' := [(3, .int 1), (0, .ref q673900), (1, .ref q673901), (2, .int p673903)]) dr_cX14_operand_13 (Nat.le_of_ble_eq_true rfl) rfl ?_
    refine G_iload_n 0 dr_cX14_operand_14 rfl ?_
    refine G_if_ne 31 dr_cX14_operand_15 (by decide +kernel) (fun _ => ?_) (fun hc => absurd hc (by decide))
    refine G_iload_n 3 dr_cX14_operand_31 rfl ?_
    refine G_if_eq 51 dr_cX14_operand_32 (by decide +kernel) (fun hc674057 => ?_) (fun hc674057 => ?_)
    · have r674058 : p673903.toInt = 0 := gj_eq hc674057 (show Int32.toInt 0 = 0 by decide)
      have bp673903' : gB p673903 0 0 := ⟨by omega, by omega⟩
      refine G_aload_n 2 dr_cX14_operand_51 rfl ?_
      refine G_aload_n 1 dr_cX14_operand_52 rfl ?_
      refine Gp_get 5 hmq673900 heq673900 dr_cX14_operand_53 (gk_X14 D I) (Nat.le_of_ble_eq_true rfl) wr_9_41 rfl ?_
      refine Gp_put 2 hmq673901 heq673901 dr_cX14_operand_56 (gk_X15 D I) (Nat.le_of_ble_eq_true rfl) wr_9_187 rfl rfl rfl (Nat.le_of_ble_eq_true rfl) (fun F674059 e674060 n674061 => ?_)
      have he674062 : F674059 q673900 = .inr (19, [.ref q673902, .int p673904, .int p673905, .int p673906, .int p673907, .int p673908, .int p673909, .ref qo673910, .int p673911, .int p673912, .int p673913, .ref qo673914, .ref qo673915, .int p673916]) := (n674061 q673900 (rn_oo heq673900 heq673901 (by decide))).trans heq673900
      have he674063 : F674059 q673902 = .inl (I .byte, 8192, .inl f673924) := (n674061 q673902 (rn_ao heq673902 heq673901)).trans heq673902
      have he674064 : F674059 q673901 = .inr (20, [.int p673917, .int p673918, .int p673908, .int p673920, .int p673921, .int p673922, .int p673923]) := e674060
      have hfr674065 : rFr [q673901] P673898 F673899 F674059 := rFr_put (rFr_rf (W := []) (P := P673898) (F := F673899)) n674061
      have tp674066 : tP I P673898 F674059 p673906 qo673910 qo673915 qo673914 xt673925 := tP_put x673929 heq673901 (by decide) n674061
      refine G_aload_n 2 dr_cX14_operand_59 rfl ?_
      refine G_iload_n 0 dr_cX14_operand_60 rfl ?_
      refine Gp_put 5 hmq673901 he674064 dr_cX14_operand_61 (gk_X15 D I) (Nat.le_of_ble_eq_true rfl) wr_9_198 rfl rfl rfl (Nat.le_of_ble_eq_true rfl) (fun F674067 e674068 n674069 => ?_)
      have he674070 : F674067 q673900 = .inr (19, [.ref q673902, .int p673904, .int p673905, .int p673906, .int p673907, .int p673908, .int p673909, .ref qo673910, .int p673911, .int p673912, .int p673913, .ref qo673914, .ref qo673915, .int p673916]) := (n674069 q673900 (rn_oo he674062 he674064 (by decide))).trans he674062
      have he674071 : F674067 q673902 = .inl (I .byte, 8192, .inl f673924) := (n674069 q673902 (rn_ao he674063 he674064)).trans he674063
      have he674072 : F674067 q673901 = .inr (20, [.int p673917, .int p673918, .int p673908, .int p673920, .int p673921, .int 1, .int p673923]) := e674068
      have hfr674073 : rFr [q673901] P673898 F673899 F674067 := rFr_put' List.mem_cons_self hfr674065 n674069
      have tp674074 : tP I P673898 F674067 p673906 qo673910 qo673915 qo673914 xt673925 := tP_put tp674066 he674064 (by decide) n674069
      refine G_aload_n 1 dr_cX14_operand_64 rfl ?_
      refine Gw_callV (As := []) (gV_ok D I) (cp_671599_Reader_next l hl0 D I P673898 F674067 q673900 q673902 p673904 p673905 p673906 p673907 p673908 p673909 qo673910 p673911 p673912 p673913 qo673914 qo673915 p673916 f673924 hmq673900 hmq673902 he674070 he674071 bp673904 bp673905 (gB_w bp673906' (by decide) (by decide)) bp673907 bp673909 bp673911 bp673912 bp673913 bp673916 bf673924 (by have qa0 : Int32.toInt 1 = 1 := (by decide); omega) x673927 x673928) dr_cX14_operand_65 ⟨wr_7_215, wr_1_32, wr_7_218, by decide, rfl, (Nat.le_of_ble_eq_true rfl), (Nat.le_of_ble_eq_true rfl)⟩ wr_7_217 wr_p_75 hmq673900 he674070 rfl (show 0 + ((16 * (p673904.toInt - p673905.toInt)).toNat) ≤ ((16 * (p673904.toInt - p673905.toInt)).toNat + 1) by first | omega | decide) (show 0 + ((160 * (p673904.toInt - p673905.toInt)).toNat) ≤ ((160 * (p673904.toInt - p673905.toInt)).toNat + 7) by first | omega | decide) (Nat.le_of_ble_eq_true rfl) (fun r674078 w674079 dc674075 ds674076 hp674077 => ?_) (fun _ _ _ _ _ z => z.elim)
      obtain ⟨P674092, F674093, o674080, o674081, o674082, o674083, q674084, xt674091, rfl, rfl, hsb674094, hfr674095, he674096, he674097, hdc, hds, bo674080, bo674081, bo674082, x674085, x674086, x674087, x674088, x674089, ht674090⟩ := hp674077
      have hm674098 : q673900 ∈ P674092 := hsb674094 q673900 hmq673900
      have hm674099 : q673901 ∈ P674092 := hsb674094 q673901 hmq673901
      have hm674100 : q673902 ∈ P674092 := hsb674094 q673902 hmq673902
      have hsb674101 : rSub P673898 P674092 := rSub_tr (rSub_rf (P := P673898)) hsb674094
      have he674102 : F674093 q673901 = .inr (20, [.int p673917, .int p673918, .int p673908, .int p673920, .int p673921, .int 1, .int p673923]) := (hfr674095 q673901 hmq673901 (nm_c (rn_oo he674072 he674070 (by decide)) nm_n)).trans he674072
      have hfr674103 : rFr [q673901, q673900] P673898 F673899 F674093 := rFr_call (rSub_rf (P := P673898)) hfr674073 hfr674095 (fun b hb hn => ⟨(nm_c (fun e => hn (e ▸ List.mem_cons_self)) nm_n), (nm_c (fun e => hn (e ▸ (List.mem_cons_of_mem _ List.mem_cons_self))) nm_n)⟩)
      have bo674083 := gB_any o674083
      change G _ _ _ _ _ _ _ _ _ _ _
      refine G_widen (cs' := (16 * (o674080.toInt - p673905.toInt)).toNat) (sl' := (160 * (o674080.toInt - p673905.toInt)).toNat) (by omega) (by omega) ?_
      exact G_vretA dr_cX14_operand_68 rfl (show (16 * (o674080.toInt - p673905.toInt)).toNat ≤ ((16 * (p673904.toInt - p673905.toInt)).toNat + 1) by omega) (show (160 * (o674080.toInt - p673905.toInt)).toNat ≤ ((160 * (p673904.toInt - p673905.toInt)).toNat + 7) by omega) ⟨P674092, F674093, o674080, o674081, o674082, o674083, q674084, p673908, p673920, 1, p673923, xt674091, rfl, rfl, hsb674101, hfr674103, he674102, he674096, he674097, (by omega), (by omega), bo674080, bo674081, bo674082, (gB_w (gBl (show Int32.toInt 1 = 1 by decide)) (by decide) (by decide)), bp673923, (by have qa0 : Int32.toInt 1 = 1 := (by decide); omega), x674086, (by have qa0 : Int32.toInt 1 = 1 := (by decide); omega), x674088, x674089, (rwP_1 x673930 (by omega)), x673932, (show nzK p673906 by unfold nzK; omega), (fun R c1 c2 c3 c4 => c3 xt674091 o674080 o674081 o674082 o674083 r674056 r674058 bo674080 bo674081 bo674082 ht674090)⟩
    · have r674104 : p673903.toInt ≠ 0 := gj_neq hc674057 (show Int32.toInt 0 = 0 by decide)
      have bp673903' : gB p673903 1 1 := ⟨by omega, by omega⟩
      refine G_aload_n 2 dr_cX14_operand_35 rfl ?_
      refine G_aload_n 1 dr_cX14_operand_36 rfl ?_
      refine Gp_get 5 hmq673900 heq673900 dr_cX14_operand_37 (gk_X14 D I) (Nat.le_of_ble_eq_true rfl) wr_9_41 rfl ?_
      refine Gp_put 3 hmq673901 heq673901 dr_cX14_operand_40 (gk_X15 D I) (Nat.le_of_ble_eq_true rfl) wr_9_191 rfl rfl rfl (Nat.le_of_ble_eq_true rfl) (fun F674105 e674106 n674107 => ?_)
      have he674108 : F674105 q673900 = .inr (19, [.ref q673902, .int p673904, .int p673905, .int p673906, .int p673907, .int p673908, .int p673909, .ref qo673910, .int p673911, .int p673912, .int p673913, .ref qo673914, .ref qo673915, .int p673916]) := (n674107 q673900 (rn_oo heq673900 heq673901 (by decide))).trans heq673900
      have he674109 : F674105 q673902 = .inl (I .byte, 8192, .inl f673924) := (n674107 q673902 (rn_ao heq673902 heq673901)).trans heq673902
      have he674110 : F674105 q673901 = .inr (20, [.int p673917, .int p673918, .int p673919, .int p673908, .int p673921, .int p673922, .int p673923]) := e674106
      have hfr674111 : rFr [q673901] P673898 F673899 F674105 := rFr_put (rFr_rf (W := []) (P := P673898) (F := F673899)) n674107
      have tp674112 : tP I P673898 F674105 p673906 qo673910 qo673915 qo673914 xt673925 := tP_put x673929 heq673901 (by decide) n674107
      refine G_aload_n 2 dr_cX14_operand_43 rfl ?_
      refine G_iload_n 0 dr_cX14_operand_44 rfl ?_
      refine Gp_put 6 hmq673901 he674110 dr_cX14_operand_45 (gk_X15 D I) (Nat.le_of_ble_eq_true rfl) wr_9_201 rfl rfl rfl (Nat.le_of_ble_eq_true rfl) (fun F674113 e674114 n674115 => ?_)
      have he674116 : F674113 q673900 = .inr (19, [.ref q673902, .int p673904, .int p673905, .int p673906, .int p673907, .int p673908, .int p673909, .ref qo673910, .int p673911, .int p673912, .int p673913, .ref qo673914, .ref qo673915, .int p673916]) := (n674115 q673900 (rn_oo he674108 he674110 (by decide))).trans he674108
      have he674117 : F674113 q673902 = .inl (I .byte, 8192, .inl f673924) := (n674115 q673902 (rn_ao he674109 he674110)).trans he674109
      have he674118 : F674113 q673901 = .inr (20, [.int p673917, .int p673918, .int p673919, .int p673908, .int p673921, .int p673922, .int 1]) := e674114
      have hfr674119 : rFr [q673901] P673898 F673899 F674113 := rFr_put' List.mem_cons_self hfr674111 n674115
      have tp674120 : tP I P673898 F674113 p673906 qo673910 qo673915 qo673914 xt673925 := tP_put tp674112 he674110 (by decide) n674115
      refine G_goto 64 dr_cX14_operand_48 (by decide +kernel) ?_
      refine G_aload_n 1 dr_cX14_operand_64 rfl ?_
      refine Gw_callV (As := []) (gV_ok D I) (cp_671599_Reader_next l hl0 D I P673898 F674113 q673900 q673902 p673904 p673905 p673906 p673907 p673908 p673909 qo673910 p673911 p673912 p673913 qo673914 qo673915 p673916 f673924 hmq673900 hmq673902 he674116 he674117 bp673904 bp673905 (gB_w bp673906' (by decide) (by decide)) bp673907 bp673909 bp673911 bp673912 bp673913 bp673916 bf673924 (by have qa0 : Int32.toInt 1 = 1 := (by decide); omega) x673927 x673928) dr_cX14_operand_65 ⟨wr_7_215, wr_1_32, wr_7_218, by decide, rfl, (Nat.le_of_ble_eq_true rfl), (Nat.le_of_ble_eq_true rfl)⟩ wr_7_217 wr_p_75 hmq673900 he674116 rfl (show 0 + ((16 * (p673904.toInt - p673905.toInt)).toNat) ≤ ((16 * (p673904.toInt - p673905.toInt)).toNat + 1) by first | omega | decide) (show 0 + ((160 * (p673904.toInt - p673905.toInt)).toNat) ≤ ((160 * (p673904.toInt - p673905.toInt)).toNat + 7) by first | omega | decide) (Nat.le_of_ble_eq_true rfl) (fun r674124 w674125 dc674121 ds674122 hp674123 => ?_) (fun _ _ _ _ _ z => z.elim)
      obtain ⟨P674138, F674139, o674126, o674127, o674128, o674129, q674130, xt674137, rfl, rfl, hsb674140, hfr674141, he674142, he674143, hdc, hds, bo674126, bo674127, bo674128, x674131, x674132, x674133, x674134, x674135, ht674136⟩ := hp674123
      have hm674144 : q673900 ∈ P674138 := hsb674140 q673900 hmq673900
      have hm674145 : q673901 ∈ P674138 := hsb674140 q673901 hmq673901
      have hm674146 : q673902 ∈ P674138 := hsb674140 q673902 hmq673902
      have hsb674147 : rSub P673898 P674138 := rSub_tr (rSub_rf (P := P673898)) hsb674140
      have he674148 : F674139 q673901 = .inr (20, [.int p673917, .int p673918, .int p673919, .int p673908, .int p673921, .int p673922, .int 1]) := (hfr674141 q673901 hmq673901 (nm_c (rn_oo he674118 he674116 (by decide)) nm_n)).trans he674118
      have hfr674149 : rFr [q673901, q673900] P673898 F673899 F674139 := rFr_call (rSub_rf (P := P673898)) hfr674119 hfr674141 (fun b hb hn => ⟨(nm_c (fun e => hn (e ▸ List.mem_cons_self)) nm_n), (nm_c (fun e => hn (e ▸ (List.mem_cons_of_mem _ List.mem_cons_self))) nm_n)⟩)
      have bo674129 := gB_any o674129
      change G _ _ _ _ _ _ _ _ _ _ _
      refine G_widen (cs' := (16 * (o674126.toInt - p673905.toInt)).toNat) (sl' := (160 * (o674126.toInt - p673905.toInt)).toNat) (by omega) (by omega) ?_
      exact G_vretA dr_cX14_operand_68 rfl (show (16 * (o674126.toInt - p673905.toInt)).toNat ≤ ((16 * (p673904.toInt - p673905.toInt)).toNat + 1) by omega) (show (160 * (o674126.toInt - p673905.toInt)).toNat ≤ ((160 * (p673904.toInt - p673905.toInt)).toNat + 7) by omega) ⟨P674138, F674139, o674126, o674127, o674128, o674129, q674130, p673919, p673908, p673922, 1, xt674137, rfl, rfl, hsb674147, hfr674149, he674148, he674142, he674143, (by omega), (by omega), bo674126, bo674127, bo674128, bp673922, (gB_w (gBl (show Int32.toInt 1 = 1 by decide)) (by decide) (by decide)), (by have qa0 : Int32.toInt 1 = 1 := (by decide); omega), x674132, (by have qa0 : Int32.toInt 1 = 1 := (by decide); omega), x674134, x674135, x673931, (rwP_1 x673930 (by omega)), (show nzK p673906 by unfold nzK; omega), (fun R c1 c2 c3 c4 => c4 xt674137 o674126 o674127 o674128 o674129 r674056 r674104 bo674126 bo674127 bo674128 ht674136)⟩
/- tr_RStringLatin1_charAt2: result -/
def tr_RStringLatin1_charAt2 (bs : List Int32) (a1 : Int32) (o1 : Int32) : Prop := ∀ R : (Int32) → Prop,
  (∀ (x1 : Int32) (x2 : Int32) (x3 : Int32) (x4 : Int32), x1.toInt = (bs.length : Int) → tr_RString_checkIndex a1 x1 → x2 = bs.getD a1.toNatClampNeg 0 → x3 = x2 &&& (255 : Int32) → x4 = (x3.toUInt32 % 65536).toInt32 → R x4) →
  R o1
abbrev ky_674343_StringLatin1_charAt : gKey := (cJ1_charAt_3b067, 2, "java/lang/StringLatin1", (some FieldType.char), [], "charAt", fun _ _ => True)
def pp_674343_StringLatin1_charAt (D : va_G) (I : FieldType → ClassId) (P674337 : List Nat) (F674338 : Nat → va_E) (qs674339 : Nat) (bs674340 : List Int32) (p674341 : Int32) : Option Value → va_W → Nat → Nat → Prop := fun r w dc ds => ∃ (o674354 : Int32), r = some (.int o674354) ∧ w = va_pl P674337 F674338 ∧ dc ≤ 0 ∧ ds ≤ 0 ∧ gB o674354 0 255 ∧ chP (fun j => bs674340.getD j 0) p674341 o674354 ∧ tr_RStringLatin1_charAt2 bs674340 p674341 o674354
set_option maxRecDepth 100000 in
set_option maxHeartbeats 4000000 in
theorem cp_674343_StringLatin1_charAt (l : Launch) (hl0 : l.stackTraces = false) (D : va_G) (I : FieldType → ClassId) (P674337 : List Nat) (F674338 : Nat → va_E) (qs674339 : Nat) (bs674340 : List Int32) (p674341 : Int32) (hbs674340 : ∀ A s H, (gV D I).2.2.2.1 A s H → va_T .byte qs674339 bs674340.length (fun j => .int (bs674340.getD j 0)) A s H) (nbs674340 : (bs674340.length : Int) ≤ 65535) (lbs674340 : gLB bs674340) (bp674341 : gB p674341 0 16777215) (x674342 : p674341.toInt < (bs674340.length : Int)) : CtA (gV D I) l yJ1_charAt_3b067 cJ1_charAt_3b067 2 (some FieldType.char) 2 43 0 0 [.ref qs674339, .int p674341] (va_pl P674337 F674338) (pp_674343_StringLatin1_charAt D I P674337 F674338 qs674339 bs674340 p674341) gNA := by
  refine CtA_ofF hl0 (by decide +kernel) (Nat.le_of_ble_eq_true rfl) ?_
  refine G_iload_n 1 dr_cJ1_charAt_3b067_0 rfl ?_
  refine G_aload_n 0 dr_cJ1_charAt_3b067_1 rfl ?_
  refine G_klen dr_cJ1_charAt_3b067_2 hbs674340 (G_nam fun z674344 hz674344 => ?_)
  have ez674344 : z674344.toInt = (bs674340.length : Int) := gI_ofN hz674344 nbs674340
  have bz674344 : gB z674344 0 65535 := ⟨by omega, by omega⟩
  refine Gw_callS (As := [.int p674341, .int z674344]) (gV_ok D I) (cp_657692_String_checkIndex l hl0 D I P674337 F674338 p674341 z674344 (gB_w bp674341 (by decide) (by decide)) (gB_w bz674344 (by decide) (by decide)) (by omega)) dr_cJ1_charAt_3b067_3 ⟨wr_3_78, wr_1_21, wr_3_80, by decide, rfl, (Nat.le_of_ble_eq_true rfl), (Nat.le_of_ble_eq_true rfl)⟩ wr_3_79 (show 0 + 0 ≤ 0 by first | omega | decide) (show 0 + 0 ≤ 0 by first | omega | decide) (Nat.le_of_ble_eq_true rfl) (fun r674348 w674349 dc674345 ds674346 hp674347 => ?_) (fun _ _ _ _ _ z => z.elim)
  obtain ⟨rfl, rfl, hdc, hds, ht674350⟩ := hp674347
  change G _ _ _ _ _ _ _ _ _ _ _
  refine G_widen (cs' := 0) (sl' := 0) (by omega) (by omega) ?_
  refine G_aload_n 0 dr_cJ1_charAt_3b067_6 rfl ?_
  refine G_iload_n 1 dr_cJ1_charAt_3b067_7 rfl ?_
  refine G_kbald (f := fun j => bs674340.getD j 0) dr_cJ1_charAt_3b067_8 hbs674340 (gB_inr (by omega) (by omega)) (G_nam fun z674351 hz674351 => ?_)
  have bz674351 : gB z674351 (-2147483648) 2147483647 := gB_any z674351
  refine G_sipush 255 dr_cJ1_charAt_3b067_9 (by decide +kernel) ?_
  refine G_iand dr_cJ1_charAt_3b067_12 (G_nam fun z674352 hz674352 => ?_)
  have bz674352 : gB z674352 0 255 := gB_and hz674352 (gBl (show Int32.toInt 255 = 255 by decide)) (by decide)
  refine G_i2c dr_cJ1_charAt_3b067_13 (G_nam fun z674353 hz674353 => ?_)
  have ez674353 : z674353.toInt = z674352.toInt := gI_i2c hz674353 (by omega) (by omega)
  have bz674353 : gB z674353 0 255 := ⟨by omega, by omega⟩
  exact G_zretA FieldType.char dr_cJ1_charAt_3b067_14 rfl (gN_char (gB_w bz674353 (by decide) (by decide))) (Nat.le_of_ble_eq_true rfl) (Nat.le_of_ble_eq_true rfl) ⟨z674353, rfl, rfl, (Nat.le_of_ble_eq_true rfl), (Nat.le_of_ble_eq_true rfl), bz674353, (chP_of (by assumption) (by assumption) (by omega) (chb lbs674340 (by assumption))), (fun R c1 => c1 z674344 z674351 z674352 z674353 ez674344 ht674350 hz674351 hz674352 hz674353)⟩
/- tr_RString_charAt2: result -/
def tr_RString_charAt2 (bs : List Int32) (a1 : Int32) (o1 : Int32) : Prop := ∀ R : (Int32) → Prop,
  (∀ (x1 : Int32), gB x1 0 255 → tr_RStringLatin1_charAt2 bs a1 x1 → R x1) →
  R o1
abbrev ky_674331_String_charAt : gKey := (cJ0_charAt_5068e, 2, "java/lang/String", (some FieldType.char), [], "charAt", fun _ _ => True)
def pp_674331_String_charAt (D : va_G) (I : FieldType → ClassId) (P674324 : List Nat) (F674325 : Nat → va_E) (qs674326 : Nat) (qb674327 : Nat) (bs674328 : List Int32) (p674329 : Int32) : Option Value → va_W → Nat → Nat → Prop := fun r w dc ds => ∃ (o674363 : Int32), r = some (.int o674363) ∧ w = va_pl P674324 F674325 ∧ dc ≤ 0 ∧ ds ≤ 0 ∧ gB o674363 0 255 ∧ chP (fun j => bs674328.getD j 0) p674329 o674363 ∧ tr_RString_charAt2 bs674328 p674329 o674363
set_option maxRecDepth 100000 in
set_option maxHeartbeats 4000000 in
theorem cp_674331_String_charAt (l : Launch) (hl0 : l.stackTraces = false) (D : va_G) (I : FieldType → ClassId) (P674324 : List Nat) (F674325 : Nat → va_E) (qs674326 : Nat) (qb674327 : Nat) (bs674328 : List Int32) (p674329 : Int32) (hbs674328 : ∀ A s H, (gV D I).2.2.2.1 A s H → gSC qs674326 qb674327 bs674328 A s H) (nbs674328 : (bs674328.length : Int) ≤ 65535) (lbs674328 : gLB bs674328) (bp674329 : gB p674329 0 65535) (x674330 : p674329.toInt < (bs674328.length : Int)) : CtA (gV D I) l yJ0_charAt_5068e cJ0_charAt_5068e 2 (some FieldType.char) 3 64 0 0 [.ref qs674326, .int p674329] (va_pl P674324 F674325) (pp_674331_String_charAt D I P674324 F674325 qs674326 qb674327 bs674328 p674329) gNA := by
  refine CtA_ofF hl0 (by decide +kernel) (Nat.le_of_ble_eq_true rfl) ?_
  refine G_aload_n 0 dr_cJ0_charAt_5068e_0 rfl ?_
  refine Gw_callVk (As := []) (gV_ok D I) (cp_659373_String_isLatin1 l hl0 D I P674324 F674325 qs674326 qb674327 bs674328 hbs674328 nbs674328 lbs674328) dr_cJ0_charAt_5068e_1 ⟨wr_3_71, wr_1_21, wr_3_74, by decide, rfl, (Nat.le_of_ble_eq_true rfl), (Nat.le_of_ble_eq_true rfl)⟩ wr_3_72 wr_3_73 (fun _ _ _ h => (hbs674328 _ _ _ h).1) (show 0 + 0 ≤ 0 by first | omega | decide) (show 0 + 0 ≤ 0 by first | omega | decide) (Nat.le_of_ble_eq_true rfl) (fun r674335 w674336 dc674332 ds674333 hp674334 => ?_) (fun _ _ _ _ _ z => z.elim)
  obtain ⟨rfl, rfl, hdc, hds⟩ := hp674334
  change G _ _ _ _ _ _ _ (.int 1 :: _) _ _ _
  refine G_widen (cs' := 0) (sl' := 0) (by omega) (by omega) ?_
  refine G_if_eq 16 dr_cJ0_charAt_5068e_4 (by decide +kernel) (fun hc => absurd hc (by decide)) (fun _ => ?_)
  refine G_aload_n 0 dr_cJ0_charAt_5068e_7 rfl ?_
  refine G_kget dr_cJ0_charAt_5068e_8 wr_8_182 (fun _ _ _ h => (hbs674328 _ _ _ h).2.2.1) ?_
  refine G_iload_n 1 dr_cJ0_charAt_5068e_11 rfl ?_
  refine Gw_callS (As := [.ref qb674327, .int p674329]) (gV_ok D I) (cp_674343_StringLatin1_charAt l hl0 D I P674324 F674325 qb674327 bs674328 p674329 (fun _ _ _ h => (hbs674328 _ _ _ h).2.2.2) (by omega) lbs674328 (gB_w bp674329 (by decide) (by decide)) (by omega)) dr_cJ0_charAt_5068e_12 ⟨wr_3_75, wr_1_28, wr_3_77, by decide, rfl, (Nat.le_of_ble_eq_true rfl), (Nat.le_of_ble_eq_true rfl)⟩ wr_3_76 (show 0 + 0 ≤ 0 by first | omega | decide) (show 0 + 0 ≤ 0 by first | omega | decide) (Nat.le_of_ble_eq_true rfl) (fun r674358 w674359 dc674355 ds674356 hp674357 => ?_) (fun _ _ _ _ _ z => z.elim)
  obtain ⟨o674360, rfl, rfl, hdc, hds, bo674360, x674361, ht674362⟩ := hp674357
  change G _ _ _ _ _ _ _ (.int o674360 :: _) _ _ _
  refine G_widen (cs' := 0) (sl' := 0) (by omega) (by omega) ?_
  exact G_zretA FieldType.char dr_cJ0_charAt_5068e_15 rfl (gN_char (gB_w bo674360 (by decide) (by decide))) (Nat.le_of_ble_eq_true rfl) (Nat.le_of_ble_eq_true rfl) ⟨o674360, rfl, rfl, (Nat.le_of_ble_eq_true rfl), (Nat.le_of_ble_eq_true rfl), bo674360, x674361, (fun R c1 => c1 o674360 bo674360 ht674362)⟩
/- tl_RModel_operation_40: l3, l2; out: l2 -/
def tl_RModel_operation_40 (c1 : Int32) (s1 : Int32) (s2 : Int32) (k : Nat) (e1 : Int32) : Prop := ∀ R : (Int32) → (Int32) → Nat → (Int32) → Prop,
  (∀ (l3_1 : Int32) (l2_1 : Int32), gB l3_1 0 16777215 → c1.toInt ≤ l3_1.toInt → R l3_1 l2_1 70 l2_1) →
  (∀ (l3_1 : Int32) (l2_1 : Int32) (x1 : Int32) (x2 : Int32) (x3 : Int32) (k : Nat) (e1 : Int32), gB l3_1 0 16777215 → l3_1.toInt < c1.toInt → gB x1 0 255 → tr_RString_charAt2 sb_42 l3_1 x1 → x1.toInt ≠ 32 → x2.toInt = l2_1.toInt + 0 → x3.toInt = l3_1.toInt + 1 → R x3 x2 k e1 → R l3_1 l2_1 k e1) →
  (∀ (l3_1 : Int32) (l2_1 : Int32) (x1 : Int32) (x2 : Int32) (x3 : Int32) (k : Nat) (e1 : Int32), gB l3_1 0 16777215 → l3_1.toInt < c1.toInt → gB x1 0 255 → tr_RString_charAt2 sb_42 l3_1 x1 → x1.toInt = 32 → x2.toInt = l2_1.toInt + 1 → x3.toInt = l3_1.toInt + 1 → R x3 x2 k e1 → R l3_1 l2_1 k e1) →
  R s1 s2 k e1
/- tr_RModel_operation: result -/
def tr_RModel_operation (a0_value_v : Nat → Int32) (a0_value_n : Nat) (o1 : Int32) : Prop := ∀ R : (Int32) → Prop,
  (∀ (x1 : Int32) (x2 : Nat → Int32) (x3 : Int32) (x4 : Nat → Int32) (x5 : Int32) (x6 : Nat → Int32) (x7 : Nat) (x8 : Nat → Int32) (x9 : Int32) (x10 : Int32), gB x1 0 16777216 → (tr_RStringBuilder_append4 sb_43 (0 : Int32) (fun _ => 0) 16 x1 x2) → gB x3 0 16777216 → tr_RStringBuilder_append3 x1 x2 16 a0_value_v a0_value_n x3 x4 → gB x5 0 16777216 → tr_RStringBuilder_append4 sb_43 x3 x4 16 x5 x6 → tr_RStringBuilder_toString x5 x6 16 x7 x8 → gB x9 (-2147483646) 16777215 → tr_RString_indexOf sb_42 x8 x7 x9 → 0 ≤ x9.toInt → tl_RModel_operation_40 x9 (0 : Int32) (1 : Int32) 70 x10 → R x10) →
  (∀ (x1 : Int32) (x2 : Nat → Int32) (x3 : Int32) (x4 : Nat → Int32) (x5 : Int32) (x6 : Nat → Int32) (x7 : Nat) (x8 : Nat → Int32) (x9 : Int32), gB x1 0 16777216 → (tr_RStringBuilder_append4 sb_43 (0 : Int32) (fun _ => 0) 16 x1 x2) → gB x3 0 16777216 → tr_RStringBuilder_append3 x1 x2 16 a0_value_v a0_value_n x3 x4 → gB x5 0 16777216 → tr_RStringBuilder_append4 sb_43 x3 x4 16 x5 x6 → tr_RStringBuilder_toString x5 x6 16 x7 x8 → gB x9 (-2147483646) 16777215 → tr_RString_indexOf sb_42 x8 x7 x9 → x9.toInt < 0 → R (0 : Int32)) →
  R o1
abbrev ky_674174_SpillForgeModel_operation : gKey := (cX17_operation, 4, "SpillForgeModel", (some FieldType.int), [], "operation", fun _ _ => True)
def pp_674174_SpillForgeModel_operation (D : va_G) (I : FieldType → ClassId) (P674164 : List Nat) (F674165 : Nat → va_E) (q674166 : Nat) (q674167 : Nat) (p674168 : Int32) (p674169 : Int32) (f674170 : Nat → Int32) (n674171 : Nat) : Option Value → va_W → Nat → Nat → Prop := fun r w dc ds => ∃ (P674529 : List Nat) (F674530 : Nat → va_E) (o674528 : Int32), r = some (.int o674528) ∧ w = va_pl P674529 F674530 ∧ rSub P674164 P674529 ∧ rFr [] P674164 F674165 F674530 ∧ F674530 q674166 = .inr (0, [.ref q674167, .int 0, .int p674168, .int p674169]) ∧ F674530 q674167 = .inl (I .byte, n674171, .inl f674170) ∧ dc ≤ 8 ∧ ds ≤ 64 ∧ gB o674528 0 14 ∧ 0 ≤ o674528.toInt ∧ o674528.toInt ≤ 14 ∧ tr_RModel_operation f674170 n674171 o674528
set_option maxRecDepth 100000 in
set_option maxHeartbeats 4000000 in
theorem cp_674174_SpillForgeModel_operation (l : Launch) (hl0 : l.stackTraces = false) (D : va_G) (I : FieldType → ClassId) (P674164 : List Nat) (F674165 : Nat → va_E) (q674166 : Nat) (q674167 : Nat) (p674168 : Int32) (p674169 : Int32) (f674170 : Nat → Int32) (n674171 : Nat) (hmq674166 : q674166 ∈ P674164) (hmq674167 : q674167 ∈ P674164) (heq674166 : F674165 q674166 = .inr (0, [.ref q674167, .int 0, .int p674168, .int p674169])) (heq674167 : F674165 q674167 = .inl (I .byte, n674171, .inl f674170)) (bp674169 : gB p674169 0 1) (bf674170 : gF f674170 (-128) 127) (x674172 : (n674171 : Int) ≤ 2) (x674173 : ((n674171 : Int) ≤ 16777216)) : CtA (gV D I) l yX17_operation cX17_operation 4 (some FieldType.int) 6 132 8 64 [.ref q674166] (va_pl P674164 F674165) (pp_674174_SpillForgeModel_operation D I P674164 F674165 q674166 q674167 p674168 p674169 f674170 n674171) gNA := by
  refine CtA_of hl0 (by decide) (Nat.le_of_ble_eq_true rfl) ?_
  have bp674168 := gB_any p674168
  refine G_ldcK (a := D.2 1000 42) dr_cX17_operation_0 (fun _ _ _ h => gx_vk 42 rfl rfl h) ?_
  have hl42_674174 : (sb_42.length : Int) = 34 := rfl
  refine G_new [.null, .int 0, .int 0, .int 0] dr_cX17_operation_2 (gk_J4 D I) wr_7_43 wr_7_44 wr_1_20 (gfs_J4) (show 0 + 1 ≤ 8 by first | omega | decide) (show 0 + 4 ≤ 64 by first | omega | decide) (fun q674176 => Gp_in (fun P674177 F674178 hq674179 hP674180 e674181 n674182 => ?_))
  refine G_widen (cs' := 1) (sl' := 4) (by omega) (by omega) ?_
  have he674183 : F674178 q674166 = .inr (0, [.ref q674167, .int 0, .int p674168, .int p674169]) := (n674182 q674166 (fun h => hq674179 (h ▸ hmq674166))).trans heq674166
  have he674184 : F674178 q674167 = .inl (I .byte, n674171, .inl f674170) := (n674182 q674167 (fun h => hq674179 (h ▸ hmq674167))).trans heq674167
  have he674185 : F674178 q674176 = .inr (1, [.null, .int 0, .int 0, .int 0]) := e674181
  have hm674186 : q674166 ∈ P674177 := (hP674180 q674166).mpr (Or.inl hmq674166)
  have hm674187 : q674167 ∈ P674177 := (hP674180 q674167).mpr (Or.inl hmq674167)
  have hm674188 : q674176 ∈ P674177 := (hP674180 q674176).mpr (Or.inr rfl)
  have hq674189 : q674176 ∉ P674164 := fun z => hq674179 ((rSub_rf (P := P674164)) q674176 z)
  have hfr674190 : rFr [] P674164 F674165 F674178 := rFr_new (rSub_rf (P := P674164)) hq674179 (rFr_rf (W := []) (P := P674164) (F := F674165)) n674182
  have hsb674191 : rSub P674164 P674177 := rSub_new (rSub_rf (P := P674164)) hP674180
  refine G_dup dr_cX17_operation_5 rfl ?_
  refine Gw_callI (As := []) (gV_ok D I) (cp_658184_StringBuilder_init l hl0 D I P674177 F674178 q674176 0 0 hm674188 he674185 (gB_w (gBl (show Int32.toInt 0 = 0 by decide)) (by decide) (by decide)) (gB_w (gBl (show Int32.toInt 0 = 0 by decide)) (by decide) (by decide))) dr_cX17_operation_6 ⟨wr_7_45, wr_1_20, wr_7_47, by decide, rfl, (Nat.le_of_ble_eq_true rfl), (Nat.le_of_ble_eq_true rfl)⟩ wr_7_46 rfl (show 1 + 1 ≤ 8 by first | omega | decide) (show 4 + 16 ≤ 64 by first | omega | decide) (Nat.le_of_ble_eq_true rfl) (fun r674195 w674196 dc674192 ds674193 hp674194 => ?_)
  obtain ⟨P674198, F674199, q674197, rfl, rfl, hsb674200, hfr674201, he674202, he674203, hm674204, hq674205, hdc, hds⟩ := hp674194
  have hm674206 : q674166 ∈ P674198 := hsb674200 q674166 hm674186
  have hm674207 : q674167 ∈ P674198 := hsb674200 q674167 hm674187
  have hm674208 : q674176 ∈ P674198 := hsb674200 q674176 hm674188
  have hq674209 : q674197 ∉ P674164 := fun z => hq674205 (hsb674191 q674197 z)
  have hsb674210 : rSub P674164 P674198 := rSub_tr hsb674191 hsb674200
  have he674211 : F674199 q674166 = .inr (0, [.ref q674167, .int 0, .int p674168, .int p674169]) := (hfr674201 q674166 hm674186 (nm_c (fun h => hq674189 (h ▸ hmq674166)) nm_n)).trans he674183
  have he674212 : F674199 q674167 = .inl (I .byte, n674171, .inl f674170) := (hfr674201 q674167 hm674187 (nm_c (fun h => hq674189 (h ▸ hmq674167)) nm_n)).trans he674184
  have hfr674213 : rFr [] P674164 F674165 F674199 := rFr_call hsb674191 hfr674190 hfr674201 (fun b hb hn => ⟨nm_n, (nm_c (fun e => hq674189 (e ▸ hb)) nm_n)⟩)
  change G _ _ _ _ _ _ _ _ _ _ _
  refine G_widen (cs' := 2) (sl' := 20) (by omega) (by omega) ?_
  refine G_ldcK (a := D.2 1000 43) dr_cX17_operation_9 (fun _ _ _ h => gx_vk 43 rfl rfl h) ?_
  have hl43_674213 : (sb_43.length : Int) = 1 := rfl
  refine Gw_callV (As := [.ref (D.2 1000 43)]) (gV_ok D I) (cp_658486_StringBuilder_append l hl0 D I P674198 F674199 q674176 q674197 (D.2 1000 43) (D.2 1001 43) sb_43 0 0 (fun _ => 0) 16 hm674208 hm674204 he674202 he674203 (gx_sc 43 rfl rfl) (by omega) (by decide +kernel) (gB_w (gBl (show Int32.toInt 0 = 0 by decide)) (by decide) (by decide)) (gB_w (gBl (show Int32.toInt 0 = 0 by decide)) (by decide) (by decide)) (gF_w gF_0 (by decide) (by decide)) (by have qa0 : Int32.toInt 0 = 0 := (by decide); omega) (by have qa0 : Int32.toInt 0 = 0 := (by decide); omega)) dr_cX17_operation_11 ⟨wr_10_100, wr_1_20, wr_8_143, by decide, rfl, (Nat.le_of_ble_eq_true rfl), (Nat.le_of_ble_eq_true rfl)⟩ wr_8_141 wr_8_142 hm674208 he674202 rfl (show 2 + 0 ≤ 8 by first | omega | decide) (show 20 + 0 ≤ 64 by first | omega | decide) (Nat.le_of_ble_eq_true rfl) (fun r674218 w674219 dc674215 ds674216 hp674217 => ?_) (fun _ _ _ _ _ z => z.elim)
  obtain ⟨F674226, o674220, f674221, rfl, rfl, hfr674228, he674229, he674230, hdc, hds, bo674220, bf674221, x674222, x674223, x674224, ht674225⟩ := hp674217
  have he674231 : F674226 q674166 = .inr (0, [.ref q674167, .int 0, .int p674168, .int p674169]) := (hfr674228 q674166 hm674206 (nm_c (fun h => hq674189 (h ▸ hmq674166)) (nm_c (fun h => hq674209 (h ▸ hmq674166)) nm_n))).trans he674211
  have he674232 : F674226 q674167 = .inl (I .byte, n674171, .inl f674170) := (hfr674228 q674167 hm674207 (nm_c (fun h => hq674189 (h ▸ hmq674167)) (nm_c (fun h => hq674209 (h ▸ hmq674167)) nm_n))).trans he674212
  have hfr674233 : rFr [] P674164 F674165 F674226 := rFr_call hsb674210 hfr674213 hfr674228 (fun b hb hn => ⟨nm_n, (nm_c (fun e => hq674189 (e ▸ hb)) (nm_c (fun e => hq674209 (e ▸ hb)) nm_n))⟩)
  rw [show Int32.toInt 0 = 0 from by decide] at x674222
  rw [show Int32.toInt 0 = 0 from by decide] at x674223
  rw [show Int32.toInt 0 = 0 from by decide] at x674224
  change G _ _ _ _ _ _ _ (.ref q674176 :: _) _ _ _
  refine G_widen (cs' := 2) (sl' := 20) (by omega) (by omega) ?_
  refine G_aload_n 0 dr_cX17_operation_14 rfl ?_
  refine Gw_callV (As := [.ref q674166]) (gV_ok D I) (cp_658258_StringBuilder_append l hl0 D I P674198 F674226 q674176 q674166 q674197 q674167 0 o674220 p674168 p674169 f674221 16 f674170 n674171 hm674208 hm674206 hm674204 hm674207 he674229 he674231 he674230 he674232 (fun h => hq674209 (h ▸ hmq674167)) (gB_w (gBl (show Int32.toInt 0 = 0 by decide)) (by decide) (by decide)) bo674220 bp674169 bf674221 bf674170 (by have qa0 : Int32.toInt 0 = 0 := (by decide); omega) (by have qa0 : Int32.toInt 0 = 0 := (by decide); omega) (by have qa0 : Int32.toInt 0 = 0 := (by decide); omega)) dr_cX17_operation_15 ⟨wr_10_100, wr_1_20, wr_8_143, by decide, rfl, (Nat.le_of_ble_eq_true rfl), (Nat.le_of_ble_eq_true rfl)⟩ wr_8_141 wr_8_142 hm674208 he674229 rfl (show 2 + 0 ≤ 8 by first | omega | decide) (show 20 + 0 ≤ 64 by first | omega | decide) (Nat.le_of_ble_eq_true rfl) (fun r674237 w674238 dc674234 ds674235 hp674236 => ?_) (fun _ _ _ _ _ z => z.elim)
  obtain ⟨F674245, o674239, f674240, rfl, rfl, hfr674247, he674248, he674249, he674250, he674251, hdc, hds, bo674239, bf674240, x674241, x674242, x674243, ht674244⟩ := hp674236
  have hfr674252 : rFr [] P674164 F674165 F674245 := rFr_call hsb674210 hfr674233 hfr674247 (fun b hb hn => ⟨nm_n, (nm_c (fun e => hq674189 (e ▸ hb)) (nm_c (fun e => hq674209 (e ▸ hb)) nm_n))⟩)
  change G _ _ _ _ _ _ _ (.ref q674176 :: _) _ _ _
  refine G_widen (cs' := 2) (sl' := 20) (by omega) (by omega) ?_
  refine G_ldcK (a := D.2 1000 43) dr_cX17_operation_18 (fun _ _ _ h => gx_vk 43 rfl rfl h) ?_
  have hl43_674252 : (sb_43.length : Int) = 1 := rfl
  refine Gw_callV (As := [.ref (D.2 1000 43)]) (gV_ok D I) (cp_658486_StringBuilder_append l hl0 D I P674198 F674245 q674176 q674197 (D.2 1000 43) (D.2 1001 43) sb_43 0 o674239 f674240 16 hm674208 hm674204 he674248 he674250 (gx_sc 43 rfl rfl) (by omega) (by decide +kernel) (gB_w (gBl (show Int32.toInt 0 = 0 by decide)) (by decide) (by decide)) bo674239 bf674240 (by have qa0 : Int32.toInt 0 = 0 := (by decide); omega) (by have qa0 : Int32.toInt 0 = 0 := (by decide); omega)) dr_cX17_operation_20 ⟨wr_10_100, wr_1_20, wr_8_143, by decide, rfl, (Nat.le_of_ble_eq_true rfl), (Nat.le_of_ble_eq_true rfl)⟩ wr_8_141 wr_8_142 hm674208 he674248 rfl (show 2 + 0 ≤ 8 by first | omega | decide) (show 20 + 0 ≤ 64 by first | omega | decide) (Nat.le_of_ble_eq_true rfl) (fun r674257 w674258 dc674254 ds674255 hp674256 => ?_) (fun _ _ _ _ _ z => z.elim)
  obtain ⟨F674265, o674259, f674260, rfl, rfl, hfr674267, he674268, he674269, hdc, hds, bo674259, bf674260, x674261, x674262, x674263, ht674264⟩ := hp674256
  have he674270 : F674265 q674166 = .inr (0, [.ref q674167, .int 0, .int p674168, .int p674169]) := (hfr674267 q674166 hm674206 (nm_c (fun h => hq674189 (h ▸ hmq674166)) (nm_c (fun h => hq674209 (h ▸ hmq674166)) nm_n))).trans he674249
  have he674271 : F674265 q674167 = .inl (I .byte, n674171, .inl f674170) := (hfr674267 q674167 hm674207 (nm_c (fun h => hq674189 (h ▸ hmq674167)) (nm_c (fun h => hq674209 (h ▸ hmq674167)) nm_n))).trans he674251
  have hfr674272 : rFr [] P674164 F674165 F674265 := rFr_call hsb674210 hfr674252 hfr674267 (fun b hb hn => ⟨nm_n, (nm_c (fun e => hq674189 (e ▸ hb)) (nm_c (fun e => hq674209 (e ▸ hb)) nm_n))⟩)
  change G _ _ _ _ _ _ _ (.ref q674176 :: _) _ _ _
  refine G_widen (cs' := 2) (sl' := 20) (by omega) (by omega) ?_
  refine Gw_callV (As := []) (gV_ok D I) (cp_658959_StringBuilder_toString l hl0 D I P674198 F674265 q674176 q674197 0 o674259 f674260 16 hm674208 hm674204 he674268 he674269 (gB_w (gBl (show Int32.toInt 0 = 0 by decide)) (by decide) (by decide)) bo674259 bf674260 (by have qa0 : Int32.toInt 0 = 0 := (by decide); omega) (by have qa0 : Int32.toInt 0 = 0 := (by decide); omega)) dr_cX17_operation_23 ⟨wr_10_101, wr_1_20, wr_8_69, by decide, rfl, (Nat.le_of_ble_eq_true rfl), (Nat.le_of_ble_eq_true rfl)⟩ wr_8_67 wr_8_68 hm674208 he674268 rfl (show 2 + 2 ≤ 8 by first | omega | decide) (show 20 + (o674259.toInt.toNat + 4) ≤ 64 by first | omega | decide) (Nat.le_of_ble_eq_true rfl) (fun r674276 w674277 dc674273 ds674274 hp674275 => ?_) (fun _ _ _ _ _ z => z.elim)
  obtain ⟨P674285, F674286, q674278, q674279, n674280, f674281, rfl, rfl, hsb674287, hfr674288, he674289, he674290, he674291, he674292, hm674293, hq674294, hm674295, hq674296, hdc, hds, bf674281, x674282, x674283, ht674284⟩ := hp674275
  have hm674297 : q674166 ∈ P674285 := hsb674287 q674166 hm674206
  have hm674298 : q674167 ∈ P674285 := hsb674287 q674167 hm674207
  have hm674299 : q674176 ∈ P674285 := hsb674287 q674176 hm674208
  have hm674300 : q674197 ∈ P674285 := hsb674287 q674197 hm674204
  have hq674301 : q674278 ∉ P674164 := fun z => hq674294 (hsb674210 q674278 z)
  have hq674302 : q674279 ∉ P674164 := fun z => hq674296 (hsb674210 q674279 z)
  have hsb674303 : rSub P674164 P674285 := rSub_tr hsb674210 hsb674287
  have he674304 : F674286 q674166 = .inr (0, [.ref q674167, .int 0, .int p674168, .int p674169]) := (hfr674288 q674166 hm674206 nm_n).trans he674270
  have he674305 : F674286 q674167 = .inl (I .byte, n674171, .inl f674170) := (hfr674288 q674167 hm674207 nm_n).trans he674271
  have hfr674306 : rFr [] P674164 F674165 F674286 := rFr_call hsb674210 hfr674272 hfr674288 (fun b hb hn => ⟨nm_n, nm_n⟩)
  have hne674307 : q674197 ≠ q674279 := fun h => hq674296 (h ▸ hm674204)
  change G _ _ _ _ _ _ _ (.ref q674278 :: _) _ _ _
  refine G_widen (cs' := 4) (sl' := 20 + (o674259.toInt.toNat + 4)) (by omega) (by omega) ?_
  refine Gw_callVk (As := [.ref q674278]) (gV_ok D I) (cp_659418_String_indexOf l hl0 D I P674285 F674286 q674278 q674279 (D.2 1000 42) (D.2 1001 42) sb_42 0 0 f674281 n674280 hm674293 hm674295 he674289 he674292 (gx_sc 42 rfl rfl) (by omega) (by decide +kernel) (gB_w (gBl (show Int32.toInt 0 = 0 by decide)) (by decide) (by decide)) bf674281 (by have qa0 : Int32.toInt 0 = 0 := (by decide); omega) (by have qa0 : Int32.toInt 0 = 0 := (by decide); omega)) dr_cX17_operation_26 ⟨wr_10_102, wr_1_21, wr_8_199, by decide, rfl, (Nat.le_of_ble_eq_true rfl), (Nat.le_of_ble_eq_true rfl)⟩ wr_8_197 wr_8_198 (fun _ _ _ h => ((gx_sc 42 rfl rfl) _ _ _ h).1) (show 4 + 0 ≤ 8 by first | omega | decide) (show 20 + (o674259.toInt.toNat + 4) + 0 ≤ 64 by first | omega | decide) (Nat.le_of_ble_eq_true rfl) (fun r674311 w674312 dc674308 ds674309 hp674310 => ?_) (fun _ _ _ _ _ z => z.elim)
  obtain ⟨o674313, rfl, rfl, hdc, hds, bo674313, x674314, x674315, ht674316⟩ := hp674310
  change G _ _ _ _ _ _ _ (.int o674313 :: _) _ _ _
  refine G_widen (cs' := 4) (sl' := 20 + (o674259.toInt.toNat + 4) + 0) (by omega) (by omega) ?_
  refine G_istore_n (L' := [(1, .int o674313), (0, .ref q674166)]) dr_cX17_operation_29 (Nat.le_of_ble_eq_true rfl) rfl ?_
  refine G_iload_n 0 dr_cX17_operation_30 rfl ?_
  refine G_if_ge 36 dr_cX17_operation_31 (by decide +kernel) (fun hc674317 => ?_) (fun hc674317 => ?_)
  · have r674318 : 0 ≤ o674313.toInt := gj_leL hc674317 (show Int32.toInt 0 = 0 by decide)
    have bo674313' : gB o674313 0 16777215 := ⟨by omega, by omega⟩
    have x674319 : o674313.toInt ≤ 30 := opA x674224 x674242 x674262 x674283 x674315 (by omega) (by omega) rfl (by omega) (by omega) (by omega) (by omega) (by omega)
    refine G_iconst 1 dr_cX17_operation_36 (by decide +kernel) ?_
    refine G_istore_n (L' := [(2, .int 1), (1, .int o674313), (0, .ref q674166)]) dr_cX17_operation_37 (Nat.le_of_ble_eq_true rfl) rfl ?_
    refine G_iconst 0 dr_cX17_operation_38 (by decide +kernel) ?_
    refine G_istore_n (L' := [(3, .int 0), (2, .int 1), (1, .int o674313), (0, .ref q674166)]) dr_cX17_operation_39 (Nat.le_of_ble_eq_true rfl) rfl ?_
    have hlp40_674504 : ∀ (n40_674504 : Nat) (g674501 : Int32) (g674502 : Int32), gB g674501 0 16777215 → opI g674501 g674502 → g674501.toInt ≤ o674313.toInt → (∀ (k : Nat) (e1 : Int32), tl_RModel_operation_40 o674313 g674501 g674502 k e1 → tl_RModel_operation_40 o674313 (0 : Int32) (1 : Int32) k e1) → ((16777216 : Int) - g674501.toInt).toNat < n40_674504 → G (gV D I) l (gRm 6 132 8 64) (gMA (gV D I) (pp_674174_SpillForgeModel_operation D I P674164 F674165 q674166 q674167 p674168 p674169 f674170 n674171) gNA 8 64) ky_674174_SpillForgeModel_operation 40 [(3, .int g674501), (2, .int g674502), (1, .int o674313), (0, .ref q674166)] [] (va_pl P674285 F674286) 4 (20 + (o674259.toInt.toNat + 4) + 0) := by
      intro n40_674504
      induction n40_674504 with
      | zero => intro g674501 g674502 bg674501 x674503 x674504 kt40_674504 hm40_674504; exact absurd hm40_674504 (Nat.not_lt_zero _)
      | succ n40_674504 ih40_674504 =>
        intro g674501 g674502 bg674501 x674503 x674504 kt40_674504 hm40_674504
        have bg674502 := gB_any g674502
        refine G_iload_n 0 dr_cX17_operation_40 rfl ?_
        refine G_iload_n 2 dr_cX17_operation_41 rfl ?_
        refine G_icmp_ge 70 dr_cX17_operation_42 (by decide +kernel) (fun hc674505 => ?_) (fun hc674505 => ?_)
        · have r674506 : o674313.toInt ≤ g674501.toInt := gC_le hc674505
          have hx674507 : tl_RModel_operation_40 o674313 (0 : Int32) (1 : Int32) 70 g674502 := kt40_674504 70 g674502 (fun R c1 c2 c3 => c1 g674501 g674502 bg674501 r674506)
          have bx674508 : gB g674502 1 14 := opI_b x674503 (by omega)
          refine G_iload_n 1 dr_cX17_operation_70 rfl ?_
          exact G_iretA dr_cX17_operation_71 rfl (Nat.le_of_ble_eq_true rfl) (show 20 + (o674259.toInt.toNat + 4) + 0 ≤ 64 by omega) ⟨P674285, F674286, g674502, rfl, rfl, hsb674303, hfr674306, he674304, he674305, (Nat.le_of_ble_eq_true rfl), (by omega), (gB_w bx674508 (by decide) (by decide)), (by have qa0 : Int32.toInt 0 = 0 := (by decide); omega), (by have qa0 : Int32.toInt 0 = 0 := (by decide); omega), (fun R c1 c2 => c1 o674220 f674221 o674239 f674240 o674259 f674260 n674280 f674281 o674313 g674502 bo674220 ht674225 bo674239 ht674244 bo674259 ht674264 ht674284 bo674313 ht674316 r674318 hx674507)⟩
        · have r674509 : g674501.toInt < o674313.toInt := gC_nle hc674505
          have bg674501' : gB g674501 0 16777214 := ⟨by omega, by omega⟩
          have bo674313'' : gB o674313 1 16777215 := ⟨by omega, by omega⟩
          have bx674510 : gB g674502 1 14 := opI_b x674503 (by omega)
          refine G_iload_n 1 dr_cX17_operation_45 rfl ?_
          refine G_ldcK (a := D.2 1000 42) dr_cX17_operation_46 (fun _ _ _ h => gx_vk 42 rfl rfl h) ?_
          have hl42_674510 : (sb_42.length : Int) = 34 := rfl
          refine G_iload_n 0 dr_cX17_operation_48 rfl ?_
          refine Gw_callVk (As := [.int g674501]) (gV_ok D I) (cp_674331_String_charAt l hl0 D I P674285 F674286 (D.2 1000 42) (D.2 1001 42) sb_42 g674501 (gx_sc 42 rfl rfl) (by omega) (by decide +kernel) ⟨by omega, by omega⟩ (by have qa0 : Int32.toInt 0 = 0 := (by decide); omega)) dr_cX17_operation_49 ⟨wr_10_103, wr_1_21, wr_3_70, by decide, rfl, (Nat.le_of_ble_eq_true rfl), (Nat.le_of_ble_eq_true rfl)⟩ wr_3_68 wr_3_69 (fun _ _ _ h => ((gx_sc 42 rfl rfl) _ _ _ h).1) (show 4 + 0 ≤ 8 by first | omega | decide) (show 20 + (o674259.toInt.toNat + 4) + 0 + 0 ≤ 64 by first | omega | decide) (Nat.le_of_ble_eq_true rfl) (fun r674515 w674516 dc674512 ds674513 hp674514 => ?_) (fun _ _ _ _ _ z => z.elim)
          obtain ⟨o674517, rfl, rfl, hdc, hds, bo674517, x674518, ht674519⟩ := hp674514
          change G _ _ _ _ _ _ _ (.int o674517 :: _) _ _ _
          refine G_widen (cs' := 4) (sl' := 20 + (o674259.toInt.toNat + 4) + 0 + 0) (by omega) (by omega) ?_
          refine G_bipush 32 dr_cX17_operation_52 (by decide +kernel) ?_
          refine G_icmp_ne 61 dr_cX17_operation_54 (by decide +kernel) (fun hc674520 => ?_) (fun hc674520 => ?_)
          · have r674521 : o674517.toInt ≠ 32 := gj_neq hc674520 (show Int32.toInt 32 = 32 by decide)
            refine G_iconst 0 dr_cX17_operation_61 (by decide +kernel) ?_
            refine G_iadd dr_cX17_operation_62 (G_nam fun z674522 hz674522 => ?_)
            have ez674522 : z674522.toInt = g674502.toInt + 0 := by rw [gI_add hz674522 bx674510 (gBl (show Int32.toInt 0 = 0 by decide)) (by decide) (by decide), show Int32.toInt 0 = 0 from by decide]
            have bz674522 : gB z674522 1 14 := gB_add (gI_add hz674522 bx674510 (gBl (show Int32.toInt 0 = 0 by decide)) (by decide) (by decide)) bx674510 (gBl (show Int32.toInt 0 = 0 by decide)) (by decide) (by decide)
            refine G_istore_n (L' := [(2, .int z674522), (3, .int g674501), (1, .int o674313), (0, .ref q674166)]) dr_cX17_operation_63 (Nat.le_of_ble_eq_true rfl) rfl ?_
            obtain ⟨z674523, hz674523⟩ : ∃ z : Int32, z = g674501 + Int32.ofInt 1 := ⟨_, rfl⟩
            have ez674523 : z674523.toInt = g674501.toInt + 1 := gI_inc hz674523 (by decide) bg674501' (by decide) (by decide)
            have bz674523 : gB z674523 1 16777215 := ⟨by omega, by omega⟩
            refine G_iinc (L' := [(3, .int z674523), (2, .int z674522), (1, .int o674313), (0, .ref q674166)]) z674523 1 dr_cX17_operation_64 rfl hz674523.symm (Nat.le_of_ble_eq_true rfl) rfl ?_
            refine G_goto 40 dr_cX17_operation_67 (by decide +kernel) ?_
            exact ih40_674504 z674523 z674522 (gB_w bz674523 (by decide) (by decide)) (by have qa0 : Int32.toInt 0 = 0 := (by decide); have qa1 : Int32.toInt 1 = 1 := (by decide); first | exact opI_st (d := 1) x674503 (by omega) (by omega) (by omega) x674518 (Or.inl ⟨by omega, rfl⟩) | exact opI_st (d := 0) x674503 (by omega) (by omega) (by omega) x674518 (Or.inr ⟨by omega, rfl⟩)) (by have qa0 : Int32.toInt 0 = 0 := (by decide); omega) (fun k e1 ht => kt40_674504 k e1 (fun R c1 c2 c3 => c2 g674501 g674502 o674517 z674522 z674523 k e1 bg674501 r674509 bo674517 ht674519 r674521 ez674522 ez674523 (ht R c1 c2 c3))) (by have qa0 : Int32.toInt 0 = 0 := (by decide); omega)
          · have r674524 : o674517.toInt = 32 := gj_eq hc674520 (show Int32.toInt 32 = 32 by decide)
            have bo674517' : gB o674517 32 32 := ⟨by omega, by omega⟩
            refine G_iconst 1 dr_cX17_operation_57 (by decide +kernel) ?_
            refine G_goto 62 dr_cX17_operation_58 (by decide +kernel) ?_
            refine G_iadd dr_cX17_operation_62 (G_nam fun z674525 hz674525 => ?_)
            have ez674525 : z674525.toInt = g674502.toInt + 1 := by rw [gI_add hz674525 bx674510 (gBl (show Int32.toInt 1 = 1 by decide)) (by decide) (by decide), show Int32.toInt 1 = 1 from by decide]
            have bz674525 : gB z674525 2 15 := gB_add (gI_add hz674525 bx674510 (gBl (show Int32.toInt 1 = 1 by decide)) (by decide) (by decide)) bx674510 (gBl (show Int32.toInt 1 = 1 by decide)) (by decide) (by decide)
            refine G_istore_n (L' := [(2, .int z674525), (3, .int g674501), (1, .int o674313), (0, .ref q674166)]) dr_cX17_operation_63 (Nat.le_of_ble_eq_true rfl) rfl ?_
            obtain ⟨z674526, hz674526⟩ : ∃ z : Int32, z = g674501 + Int32.ofInt 1 := ⟨_, rfl⟩
            have ez674526 : z674526.toInt = g674501.toInt + 1 := gI_inc hz674526 (by decide) bg674501' (by decide) (by decide)
            have bz674526 : gB z674526 1 16777215 := ⟨by omega, by omega⟩
            refine G_iinc (L' := [(3, .int z674526), (2, .int z674525), (1, .int o674313), (0, .ref q674166)]) z674526 1 dr_cX17_operation_64 rfl hz674526.symm (Nat.le_of_ble_eq_true rfl) rfl ?_
            refine G_goto 40 dr_cX17_operation_67 (by decide +kernel) ?_
            exact ih40_674504 z674526 z674525 (gB_w bz674526 (by decide) (by decide)) (by have qa0 : Int32.toInt 0 = 0 := (by decide); have qa1 : Int32.toInt 1 = 1 := (by decide); first | exact opI_st (d := 1) x674503 (by omega) (by omega) (by omega) x674518 (Or.inl ⟨by omega, rfl⟩) | exact opI_st (d := 0) x674503 (by omega) (by omega) (by omega) x674518 (Or.inr ⟨by omega, rfl⟩)) (by have qa0 : Int32.toInt 0 = 0 := (by decide); omega) (fun k e1 ht => kt40_674504 k e1 (fun R c1 c2 c3 => c3 g674501 g674502 o674517 z674525 z674526 k e1 bg674501 r674509 bo674517 ht674519 r674524 ez674525 ez674526 (ht R c1 c2 c3))) (by have qa0 : Int32.toInt 0 = 0 := (by decide); omega)
    exact hlp40_674504 (((16777216 : Int) - 0).toNat + 1) 0 1 (gB_w (gBl (show Int32.toInt 0 = 0 by decide)) (by decide) (by decide)) opI_0 (by have qa0 : Int32.toInt 0 = 0 := (by decide); have qa1 : Int32.toInt 1 = 1 := (by decide); omega) (fun k e1 ht => ht) (Nat.lt_succ_self _)
  · have r674527 : o674313.toInt < 0 := gj_nleL hc674317 (show Int32.toInt 0 = 0 by decide)
    have bo674313' : gB o674313 (-2147483646) (-1) := ⟨by omega, by omega⟩
    refine G_iconst 0 dr_cX17_operation_34 (by decide +kernel) ?_
    exact G_iretA dr_cX17_operation_35 rfl (Nat.le_of_ble_eq_true rfl) (show 20 + (o674259.toInt.toNat + 4) + 0 ≤ 64 by omega) ⟨P674285, F674286, 0, rfl, rfl, hsb674303, hfr674306, he674304, he674305, (Nat.le_of_ble_eq_true rfl), (by omega), (gB_w (gBl (show Int32.toInt 0 = 0 by decide)) (by decide) (by decide)), (by have qa0 : Int32.toInt 0 = 0 := (by decide); omega), (by have qa0 : Int32.toInt 0 = 0 := (by decide); omega), (fun R c1 c2 => c2 o674220 f674221 o674239 f674240 o674259 f674260 n674280 f674281 o674313 bo674220 ht674225 bo674239 ht674244 bo674259 ht674264 ht674284 bo674313 ht674316 r674527)⟩
/- tr_RArrays_copyOf4: a.2.[] -/
def tr_RArrays_copyOf4 (a1 : Int32) (a0_v : Nat → Int32) (a0_n : Nat) (o1 : Nat → Int32) : Prop := ∀ R : (Nat → Int32) → Prop,
  (∀ (x1 : Int32) (x2 : Int32) (x3 : Int32) (x4 : Nat → Int32), x1.toInt = (a0_n : Nat) → a1.toInt ≠ x1.toInt → x2.toInt = (a0_n : Nat) → (x2.toInt ≥ x3.toInt ∧ a1.toInt ≥ x3.toInt ∧ (x3.toInt = x2.toInt ∨ x3.toInt = a1.toInt)) → (x4 = va_cpy a0_v (fun _ => 0) (0 : Int32).toNatClampNeg (0 : Int32).toNatClampNeg x3.toNatClampNeg) → R x4) →
  R o1
