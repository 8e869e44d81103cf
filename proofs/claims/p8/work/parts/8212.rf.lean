theorem dr_cX14_breaks_0 : decode cX14_breaks 0 = .ok (.aload_n 0, 1) := by decide +kernel
theorem dr_cX14_breaks_1 : decode cX14_breaks 1 = .ok (.getfield 17, 3) := by decide +kernel
theorem wr_9_44 : (Jvm.Cond.fieldLink "SpillForgeModel$Reader" (17 : Nat) "SpillForgeModel$Reader" "rulePlace" "I") ∈ gw := gw_9 44 rfl rfl
theorem dr_cX14_breaks_4 : decode cX14_breaks 4 = .ok (.ifCond .lt 27, 3) := by decide +kernel
theorem dr_cX14_breaks_31 : decode cX14_breaks 31 = .ok (.aload_n 0, 1) := by decide +kernel
theorem dr_cX14_breaks_32 : decode cX14_breaks 32 = .ok (.iload_n 2, 1) := by decide +kernel
theorem dr_cX14_breaks_33 : decode cX14_breaks 33 = .ok (.putfield 17, 3) := by decide +kernel
theorem dr_cX14_breaks_36 : decode cX14_breaks 36 = .ok (.aload_n 0, 1) := by decide +kernel
theorem dr_cX14_breaks_37 : decode cX14_breaks 37 = .ok (.iload_n 1, 1) := by decide +kernel
theorem dr_cX14_breaks_38 : decode cX14_breaks 38 = .ok (.putfield 140, 3) := by decide +kernel
theorem wr_9_46 : (Jvm.Cond.fieldLink "SpillForgeModel$Reader" (140 : Nat) "SpillForgeModel$Reader" "rule" "I") ∈ gw := gw_9 46 rfl rfl
theorem dr_cX14_breaks_41 : decode cX14_breaks 41 = .ok (.return_, 1) := by decide +kernel
theorem dr_cX14_breaks_7 : decode cX14_breaks 7 = .ok (.iload_n 2, 1) := by decide +kernel
theorem dr_cX14_breaks_8 : decode cX14_breaks 8 = .ok (.aload_n 0, 1) := by decide +kernel
theorem dr_cX14_breaks_9 : decode cX14_breaks 9 = .ok (.getfield 17, 3) := by decide +kernel
theorem dr_cX14_breaks_12 : decode cX14_breaks 12 = .ok (.if_icmp .lt 19, 3) := by decide +kernel
theorem dr_cX14_breaks_15 : decode cX14_breaks 15 = .ok (.iload_n 2, 1) := by decide +kernel
theorem dr_cX14_breaks_16 : decode cX14_breaks 16 = .ok (.aload_n 0, 1) := by decide +kernel
theorem dr_cX14_breaks_17 : decode cX14_breaks 17 = .ok (.getfield 17, 3) := by decide +kernel
theorem dr_cX14_breaks_20 : decode cX14_breaks 20 = .ok (.if_icmp .ne 21, 3) := by decide +kernel
theorem dr_cX14_breaks_23 : decode cX14_breaks 23 = .ok (.iload_n 1, 1) := by decide +kernel
theorem dr_cX14_breaks_24 : decode cX14_breaks 24 = .ok (.aload_n 0, 1) := by decide +kernel
theorem dr_cX14_breaks_25 : decode cX14_breaks 25 = .ok (.getfield 140, 3) := by decide +kernel
theorem dr_cX14_breaks_28 : decode cX14_breaks 28 = .ok (.if_icmp .ge 13, 3) := by decide +kernel
theorem dr_cX14_operand_0 : decode cX14_operand 0 = .ok (.aload_n 0, 1) := by decide +kernel
theorem dr_cX14_operand_1 : decode cX14_operand 1 = .ok (.getfield 38, 3) := by decide +kernel
theorem dr_cX14_operand_4 : decode cX14_operand 4 = .ok (.iconst 2, 1) := by decide +kernel
theorem dr_cX14_operand_5 : decode cX14_operand 5 = .ok (.if_icmp .ne 7, 3) := by decide +kernel
theorem dr_cX14_operand_12 : decode cX14_operand 12 = .ok (.iconst 0, 1) := by decide +kernel
theorem dr_cX14_operand_13 : decode cX14_operand 13 = .ok (.istore_n 3, 1) := by decide +kernel
theorem dr_cX14_operand_14 : decode cX14_operand 14 = .ok (.iload_n 3, 1) := by decide +kernel
theorem dr_cX14_operand_15 : decode cX14_operand 15 = .ok (.ifCond .ne 16, 3) := by decide +kernel
theorem dr_cX14_operand_18 : decode cX14_operand 18 = .ok (.aload_n 0, 1) := by decide +kernel
theorem dr_cX14_operand_19 : decode cX14_operand 19 = .ok (.getfield 38, 3) := by decide +kernel
theorem dr_cX14_operand_22 : decode cX14_operand 22 = .ok (.iconst 4, 1) := by decide +kernel
theorem dr_cX14_operand_23 : decode cX14_operand 23 = .ok (.if_icmp .eq 8, 3) := by decide +kernel
theorem dr_cX14_operand_31 : decode cX14_operand 31 = .ok (.iload_n 2, 1) := by decide +kernel
theorem dr_cX14_operand_32 : decode cX14_operand 32 = .ok (.ifCond .eq 19, 3) := by decide +kernel
theorem dr_cX14_operand_51 : decode cX14_operand 51 = .ok (.aload_n 1, 1) := by decide +kernel
theorem dr_cX14_operand_52 : decode cX14_operand 52 = .ok (.aload_n 0, 1) := by decide +kernel
theorem dr_cX14_operand_53 : decode cX14_operand 53 = .ok (.getfield 80, 3) := by decide +kernel
theorem dr_cX14_operand_56 : decode cX14_operand 56 = .ok (.putfield 214, 3) := by decide +kernel
theorem wr_9_187 : (Jvm.Cond.fieldLink "SpillForgeModel$Reader" (214 : Nat) "SpillForgeModel$Row" "a" "I") ∈ gw := gw_9 187 rfl rfl
theorem dr_cX14_operand_59 : decode cX14_operand 59 = .ok (.aload_n 1, 1) := by decide +kernel
theorem dr_cX14_operand_60 : decode cX14_operand 60 = .ok (.iload_n 3, 1) := by decide +kernel
theorem dr_cX14_operand_61 : decode cX14_operand 61 = .ok (.putfield 217, 3) := by decide +kernel
theorem wr_9_198 : (Jvm.Cond.fieldLink "SpillForgeModel$Reader" (217 : Nat) "SpillForgeModel$Row" "regA" "Z") ∈ gw := gw_9 198 rfl rfl
theorem dr_cX14_operand_64 : decode cX14_operand 64 = .ok (.aload_n 0, 1) := by decide +kernel
theorem dr_cX14_operand_65 : decode cX14_operand 65 = .ok (.invokevirtual 35, 3) := by decide +kernel
theorem dr_cX14_operand_68 : decode cX14_operand 68 = .ok (.return_, 1) := by decide +kernel
theorem dr_cX14_operand_35 : decode cX14_operand 35 = .ok (.aload_n 1, 1) := by decide +kernel
theorem dr_cX14_operand_36 : decode cX14_operand 36 = .ok (.aload_n 0, 1) := by decide +kernel
theorem dr_cX14_operand_37 : decode cX14_operand 37 = .ok (.getfield 80, 3) := by decide +kernel
theorem dr_cX14_operand_40 : decode cX14_operand 40 = .ok (.putfield 205, 3) := by decide +kernel
theorem wr_9_191 : (Jvm.Cond.fieldLink "SpillForgeModel$Reader" (205 : Nat) "SpillForgeModel$Row" "b" "I") ∈ gw := gw_9 191 rfl rfl
theorem dr_cX14_operand_43 : decode cX14_operand 43 = .ok (.aload_n 1, 1) := by decide +kernel
theorem dr_cX14_operand_44 : decode cX14_operand 44 = .ok (.iload_n 3, 1) := by decide +kernel
theorem dr_cX14_operand_45 : decode cX14_operand 45 = .ok (.putfield 210, 3) := by decide +kernel
theorem wr_9_201 : (Jvm.Cond.fieldLink "SpillForgeModel$Reader" (210 : Nat) "SpillForgeModel$Row" "regB" "Z") ∈ gw := gw_9 201 rfl rfl
theorem dr_cX14_operand_48 : decode cX14_operand 48 = .ok (.goto 16, 3) := by decide +kernel
theorem dr_cX14_operand_26 : decode cX14_operand 26 = .ok (.aload_n 0, 1) := by decide +kernel
theorem dr_cX14_operand_27 : decode cX14_operand 27 = .ok (.invokevirtual 136, 3) := by decide +kernel
theorem dr_cX14_operand_30 : decode cX14_operand 30 = .ok (.athrow, 1) := by decide +kernel
theorem dr_cX14_operand_8 : decode cX14_operand 8 = .ok (.iconst 1, 1) := by decide +kernel
theorem dr_cX14_operand_9 : decode cX14_operand 9 = .ok (.goto 4, 3) := by decide +kernel
theorem dr_cX17_operation_0 : decode cX17_operation 0 = .ok (.ldc 3, 2) := by decide +kernel
theorem dr_cX17_operation_2 : decode cX17_operation 2 = .ok (.new 5, 3) := by decide +kernel
theorem wr_7_43 : (Jvm.Cond.classLink "SpillForgeModel" (5 : Nat) "java/lang/StringBuilder") ∈ gw := gw_7 43 rfl rfl
theorem dr_cX17_operation_5 : decode cX17_operation 5 = .ok (.dup, 1) := by decide +kernel
theorem dr_cX17_operation_6 : decode cX17_operation 6 = .ok (.invokespecial 7, 3) := by decide +kernel
theorem wr_7_45 : (Jvm.Cond.methodLink "SpillForgeModel" (7 : Nat) ({ cls := "java/lang/StringBuilder", name := "<init>", desc := "()V" } : Jvm.MethodName)) ∈ gw := gw_7 45 rfl rfl
theorem dr_cX17_operation_9 : decode cX17_operation 9 = .ok (.ldc 11, 2) := by decide +kernel
theorem dr_cX17_operation_11 : decode cX17_operation 11 = .ok (.invokevirtual 13, 3) := by decide +kernel
theorem wr_10_100 : (Jvm.Cond.methodLink "SpillForgeModel" (13 : Nat) ({ cls := "java/lang/StringBuilder", name := "append", desc := "(Ljava/lang/String;)Ljava/lang/StringBuilder;" } : Jvm.MethodName)) ∈ gw := gw_10 100 rfl rfl
theorem dr_cX17_operation_14 : decode cX17_operation 14 = .ok (.aload_n 0, 1) := by decide +kernel
theorem dr_cX17_operation_15 : decode cX17_operation 15 = .ok (.invokevirtual 13, 3) := by decide +kernel
theorem dr_cX17_operation_18 : decode cX17_operation 18 = .ok (.ldc 11, 2) := by decide +kernel
theorem dr_cX17_operation_20 : decode cX17_operation 20 = .ok (.invokevirtual 13, 3) := by decide +kernel
theorem dr_cX17_operation_23 : decode cX17_operation 23 = .ok (.invokevirtual 17, 3) := by decide +kernel
theorem wr_10_101 : (Jvm.Cond.methodLink "SpillForgeModel" (17 : Nat) ({ cls := "java/lang/StringBuilder", name := "toString", desc := "()Ljava/lang/String;" } : Jvm.MethodName)) ∈ gw := gw_10 101 rfl rfl
theorem dr_cX17_operation_26 : decode cX17_operation 26 = .ok (.invokevirtual 21, 3) := by decide +kernel
theorem wr_10_102 : (Jvm.Cond.methodLink "SpillForgeModel" (21 : Nat) ({ cls := "java/lang/String", name := "indexOf", desc := "(Ljava/lang/String;)I" } : Jvm.MethodName)) ∈ gw := gw_10 102 rfl rfl
theorem dr_cX17_operation_29 : decode cX17_operation 29 = .ok (.istore_n 1, 1) := by decide +kernel
theorem dr_cX17_operation_30 : decode cX17_operation 30 = .ok (.iload_n 1, 1) := by decide +kernel
theorem dr_cX17_operation_31 : decode cX17_operation 31 = .ok (.ifCond .ge 5, 3) := by decide +kernel
theorem dr_cX17_operation_36 : decode cX17_operation 36 = .ok (.iconst 1, 1) := by decide +kernel
theorem dr_cX17_operation_37 : decode cX17_operation 37 = .ok (.istore_n 2, 1) := by decide +kernel
theorem dr_cX17_operation_38 : decode cX17_operation 38 = .ok (.iconst 0, 1) := by decide +kernel
theorem dr_cX17_operation_39 : decode cX17_operation 39 = .ok (.istore_n 3, 1) := by decide +kernel
theorem dr_cX17_operation_40 : decode cX17_operation 40 = .ok (.iload_n 3, 1) := by decide +kernel
theorem dr_cX17_operation_41 : decode cX17_operation 41 = .ok (.iload_n 1, 1) := by decide +kernel
theorem dr_cX17_operation_42 : decode cX17_operation 42 = .ok (.if_icmp .ge 28, 3) := by decide +kernel
theorem dr_cX17_operation_70 : decode cX17_operation 70 = .ok (.iload_n 2, 1) := by decide +kernel
theorem dr_cX17_operation_71 : decode cX17_operation 71 = .ok (.ireturn, 1) := by decide +kernel
theorem dr_cX17_operation_45 : decode cX17_operation 45 = .ok (.iload_n 2, 1) := by decide +kernel
theorem dr_cX17_operation_46 : decode cX17_operation 46 = .ok (.ldc 3, 2) := by decide +kernel
theorem dr_cX17_operation_48 : decode cX17_operation 48 = .ok (.iload_n 3, 1) := by decide +kernel
theorem dr_cX17_operation_49 : decode cX17_operation 49 = .ok (.invokevirtual 27, 3) := by decide +kernel
theorem wr_10_103 : (Jvm.Cond.methodLink "SpillForgeModel" (27 : Nat) ({ cls := "java/lang/String", name := "charAt", desc := "(I)C" } : Jvm.MethodName)) ∈ gw := gw_10 103 rfl rfl
theorem wr_3_70 : (Jvm.Cond.code ({ cls := "java/lang/String", name := "charAt", desc := "(I)C" } : Jvm.MethodName) prog_34_method_56_code (2 : Nat) (Option.some Jvm.ClassFile.FieldType.char)) ∈ gw := gw_3 70 rfl rfl
theorem wr_3_68 : (Jvm.Cond.instanceMethod ({ cls := "java/lang/String", name := "charAt", desc := "(I)C" } : Jvm.MethodName)) ∈ gw := gw_3 68 rfl rfl
theorem wr_3_69 : (Jvm.Cond.selects "java/lang/String" ({ cls := "java/lang/String", name := "charAt", desc := "(I)C" } : Jvm.MethodName) ({ cls := "java/lang/String", name := "charAt", desc := "(I)C" } : Jvm.MethodName)) ∈ gw := gw_3 69 rfl rfl
theorem dr_cX17_operation_52 : decode cX17_operation 52 = .ok (.bipush 32, 2) := by decide +kernel
theorem dr_cX17_operation_54 : decode cX17_operation 54 = .ok (.if_icmp .ne 7, 3) := by decide +kernel
theorem dr_cX17_operation_61 : decode cX17_operation 61 = .ok (.iconst 0, 1) := by decide +kernel
theorem dr_cX17_operation_62 : decode cX17_operation 62 = .ok (.iadd, 1) := by decide +kernel
theorem dr_cX17_operation_63 : decode cX17_operation 63 = .ok (.istore_n 2, 1) := by decide +kernel
theorem dr_cX17_operation_64 : decode cX17_operation 64 = .ok (.iinc 3 1, 3) := by decide +kernel
theorem dr_cX17_operation_67 : decode cX17_operation 67 = .ok (.goto (-27), 3) := by decide +kernel
theorem dr_cX17_operation_57 : decode cX17_operation 57 = .ok (.iconst 1, 1) := by decide +kernel
theorem dr_cX17_operation_58 : decode cX17_operation 58 = .ok (.goto 4, 3) := by decide +kernel
theorem dr_cX17_operation_34 : decode cX17_operation 34 = .ok (.iconst 0, 1) := by decide +kernel
theorem dr_cX17_operation_35 : decode cX17_operation 35 = .ok (.ireturn, 1) := by decide +kernel
abbrev ky_671871_Reader_breaks : gKey := (cX14_breaks, 3, "SpillForgeModel$Reader", none, [], "breaks", fun _ _ => True)
def pp_671871_Reader_breaks (D : va_G) (I : FieldType → ClassId) (P671851 : List Nat) (F671852 : Nat → va_E) (q671853 : Nat) (q671854 : Nat) (p671855 : Int32) (p671856 : Int32) (p671857 : Int32) (p671858 : Int32) (p671859 : Int32) (p671860 : Int32) (p671861 : Int32) (p671862 : Int32) (qo671863 : Nat) (p671864 : Int32) (p671865 : Int32) (p671866 : Int32) (qo671867 : Nat) (qo671868 : Nat) (p671869 : Int32) (f671870 : Nat → Int32) : Option Value → va_W → Nat → Nat → Prop := fun r w dc ds => ∃ (F671923 : Nat → va_E) (o671920 : Int32) (o671921 : Int32), r = none ∧ w = va_pl P671851 F671923 ∧ rFr [q671853] P671851 F671852 F671923 ∧ F671923 q671853 = .inr (19, [.ref q671854, .int p671857, .int p671858, .int p671859, .int p671860, .int p671861, .int p671862, .ref qo671863, .int o671920, .int o671921, .int p671866, .ref qo671867, .ref qo671868, .int p671869]) ∧ F671923 q671854 = .inl (I .byte, 8192, .inl f671870) ∧ dc ≤ 0 ∧ ds ≤ 0 ∧ gB o671920 0 8192 ∧ gB o671921 0 4 ∧ tr_RReader_breaks p671855 p671856 p671864 p671865 o671920 o671921
set_option maxRecDepth 100000 in
set_option maxHeartbeats 4000000 in
theorem cp_671871_Reader_breaks (l : Launch) (hl0 : l.stackTraces = false) (D : va_G) (I : FieldType → ClassId) (P671851 : List Nat) (F671852 : Nat → va_E) (q671853 : Nat) (q671854 : Nat) (p671855 : Int32) (p671856 : Int32) (p671857 : Int32) (p671858 : Int32) (p671859 : Int32) (p671860 : Int32) (p671861 : Int32) (p671862 : Int32) (qo671863 : Nat) (p671864 : Int32) (p671865 : Int32) (p671866 : Int32) (qo671867 : Nat) (qo671868 : Nat) (p671869 : Int32) (f671870 : Nat → Int32) (hmq671853 : q671853 ∈ P671851) (hmq671854 : q671854 ∈ P671851) (heq671853 : F671852 q671853 = .inr (19, [.ref q671854, .int p671857, .int p671858, .int p671859, .int p671860, .int p671861, .int p671862, .ref qo671863, .int p671864, .int p671865, .int p671866, .ref qo671867, .ref qo671868, .int p671869])) (heq671854 : F671852 q671854 = .inl (I .byte, 8192, .inl f671870)) (bp671855 : gB p671855 0 4) (bp671856 : gB p671856 0 8192) (bp671857 : gB p671857 0 8192) (bp671858 : gB p671858 0 8192) (bp671859 : gB p671859 0 6) (bp671860 : gB p671860 0 8192) (bp671862 : gB p671862 0 6) (bp671864 : gB p671864 (-1) 8192) (bp671865 : gB p671865 0 4) (bp671866 : gB p671866 0 1000000) (bp671869 : gB p671869 0 1000000) (bf671870 : gF f671870 (-128) 127) : CtA (gV D I) l yX14_breaks cX14_breaks 3 none 0 0 0 0 [.ref q671853, .int p671855, .int p671856] (va_pl P671851 F671852) (pp_671871_Reader_breaks D I P671851 F671852 q671853 q671854 p671855 p671856 p671857 p671858 p671859 p671860 p671861 p671862 qo671863 p671864 p671865 p671866 qo671867 qo671868 p671869 f671870) gNA := by
  refine CtA_of hl0 (by decide) (Nat.le_of_ble_eq_true rfl) ?_
  have bp671861 := gB_any p671861
  refine G_aload_n 0 dr_cX14_breaks_0 rfl ?_
  refine Gp_get 8 hmq671853 heq671853 dr_cX14_breaks_1 (gk_X14 D I) (Nat.le_of_ble_eq_true rfl) wr_9_44 rfl ?_
  refine G_if_lt 31 dr_cX14_breaks_4 (by decide +kernel) (fun hc671872 => ?_) (fun hc671872 => ?_)
  · have r671873 : p671864.toInt < 0 := gj_lt hc671872 (show Int32.toInt 0 = 0 by decide)
    have bp671864' : gB p671864 (-1) (-1) := ⟨by omega, by omega⟩
    refine G_aload_n 0 dr_cX14_breaks_31 rfl ?_
    refine G_iload_n 2 dr_cX14_breaks_32 rfl ?_
    refine Gp_put 8 hmq671853 heq671853 dr_cX14_breaks_33 (gk_X14 D I) (Nat.le_of_ble_eq_true rfl) wr_9_44 rfl rfl rfl (Nat.le_of_ble_eq_true rfl) (fun F671874 e671875 n671876 => ?_)
    have he671877 : F671874 q671854 = .inl (I .byte, 8192, .inl f671870) := (n671876 q671854 (rn_ao heq671854 heq671853)).trans heq671854
    have he671878 : F671874 q671853 = .inr (19, [.ref q671854, .int p671857, .int p671858, .int p671859, .int p671860, .int p671861, .int p671862, .ref qo671863, .int p671856, .int p671865, .int p671866, .ref qo671867, .ref qo671868, .int p671869]) := e671875
    have hfr671879 : rFr [q671853] P671851 F671852 F671874 := rFr_put (rFr_rf (W := []) (P := P671851) (F := F671852)) n671876
    refine G_aload_n 0 dr_cX14_breaks_36 rfl ?_
    refine G_iload_n 1 dr_cX14_breaks_37 rfl ?_
    refine Gp_put 9 hmq671853 he671878 dr_cX14_breaks_38 (gk_X14 D I) (Nat.le_of_ble_eq_true rfl) wr_9_46 rfl rfl rfl (Nat.le_of_ble_eq_true rfl) (fun F671880 e671881 n671882 => ?_)
    have he671883 : F671880 q671854 = .inl (I .byte, 8192, .inl f671870) := (n671882 q671854 (rn_ao he671877 he671878)).trans he671877
    have he671884 : F671880 q671853 = .inr (19, [.ref q671854, .int p671857, .int p671858, .int p671859, .int p671860, .int p671861, .int p671862, .ref qo671863, .int p671856, .int p671855, .int p671866, .ref qo671867, .ref qo671868, .int p671869]) := e671881
    have hfr671885 : rFr [q671853] P671851 F671852 F671880 := rFr_put' List.mem_cons_self hfr671879 n671882
    exact G_vretA dr_cX14_breaks_41 rfl (Nat.le_of_ble_eq_true rfl) (Nat.le_of_ble_eq_true rfl) ⟨F671880, p671856, p671855, rfl, rfl, hfr671885, he671884, he671883, (Nat.le_of_ble_eq_true rfl), (Nat.le_of_ble_eq_true rfl), bp671856, bp671855, (fun R c1 c2 c3 c4 c5 => c1 r671873)⟩
  · have r671886 : 0 ≤ p671864.toInt := gj_nlt hc671872 (show Int32.toInt 0 = 0 by decide)
    have bp671864' : gB p671864 0 8192 := ⟨by omega, by omega⟩
    refine G_iload_n 2 dr_cX14_breaks_7 rfl ?_
    refine G_aload_n 0 dr_cX14_breaks_8 rfl ?_
    refine Gp_get 8 hmq671853 heq671853 dr_cX14_breaks_9 (gk_X14 D I) (Nat.le_of_ble_eq_true rfl) wr_9_44 rfl ?_
    refine G_icmp_lt 31 dr_cX14_breaks_12 (by decide +kernel) (fun hc671887 => ?_) (fun hc671887 => ?_)
    · have r671888 : p671856.toInt < p671864.toInt := gC_lt hc671887
      have bp671856' : gB p671856 0 8191 := ⟨by omega, by omega⟩
      have bp671864'' : gB p671864 1 8192 := ⟨by omega, by omega⟩
      refine G_aload_n 0 dr_cX14_breaks_31 rfl ?_
      refine G_iload_n 2 dr_cX14_breaks_32 rfl ?_
      refine Gp_put 8 hmq671853 heq671853 dr_cX14_breaks_33 (gk_X14 D I) (Nat.le_of_ble_eq_true rfl) wr_9_44 rfl rfl rfl (Nat.le_of_ble_eq_true rfl) (fun F671889 e671890 n671891 => ?_)
      have he671892 : F671889 q671854 = .inl (I .byte, 8192, .inl f671870) := (n671891 q671854 (rn_ao heq671854 heq671853)).trans heq671854
      have he671893 : F671889 q671853 = .inr (19, [.ref q671854, .int p671857, .int p671858, .int p671859, .int p671860, .int p671861, .int p671862, .ref qo671863, .int p671856, .int p671865, .int p671866, .ref qo671867, .ref qo671868, .int p671869]) := e671890
      have hfr671894 : rFr [q671853] P671851 F671852 F671889 := rFr_put (rFr_rf (W := []) (P := P671851) (F := F671852)) n671891
      refine G_aload_n 0 dr_cX14_breaks_36 rfl ?_
      refine G_iload_n 1 dr_cX14_breaks_37 rfl ?_
      refine Gp_put 9 hmq671853 he671893 dr_cX14_breaks_38 (gk_X14 D I) (Nat.le_of_ble_eq_true rfl) wr_9_46 rfl rfl rfl (Nat.le_of_ble_eq_true rfl) (fun F671895 e671896 n671897 => ?_)
      have he671898 : F671895 q671854 = .inl (I .byte, 8192, .inl f671870) := (n671897 q671854 (rn_ao he671892 he671893)).trans he671892
      have he671899 : F671895 q671853 = .inr (19, [.ref q671854, .int p671857, .int p671858, .int p671859, .int p671860, .int p671861, .int p671862, .ref qo671863, .int p671856, .int p671855, .int p671866, .ref qo671867, .ref qo671868, .int p671869]) := e671896
      have hfr671900 : rFr [q671853] P671851 F671852 F671895 := rFr_put' List.mem_cons_self hfr671894 n671897
      exact G_vretA dr_cX14_breaks_41 rfl (Nat.le_of_ble_eq_true rfl) (Nat.le_of_ble_eq_true rfl) ⟨F671895, p671856, p671855, rfl, rfl, hfr671900, he671899, he671898, (Nat.le_of_ble_eq_true rfl), (Nat.le_of_ble_eq_true rfl), (gB_w bp671856' (by decide) (by decide)), bp671855, (fun R c1 c2 c3 c4 c5 => c2 r671886 r671888)⟩
    · have r671901 : p671864.toInt ≤ p671856.toInt := gC_nlt hc671887
      refine G_iload_n 2 dr_cX14_breaks_15 rfl ?_
      refine G_aload_n 0 dr_cX14_breaks_16 rfl ?_
      refine Gp_get 8 hmq671853 heq671853 dr_cX14_breaks_17 (gk_X14 D I) (Nat.le_of_ble_eq_true rfl) wr_9_44 rfl ?_
      refine G_icmp_ne 41 dr_cX14_breaks_20 (by decide +kernel) (fun hc671902 => ?_) (fun hc671902 => ?_)
      · have r671903 : p671856.toInt ≠ p671864.toInt := gC_ne hc671902
        exact G_vretA dr_cX14_breaks_41 rfl (Nat.le_of_ble_eq_true rfl) (Nat.le_of_ble_eq_true rfl) ⟨F671852, p671864, p671865, rfl, rfl, (rFr_v (rFr_rf (W := []) (P := P671851) (F := F671852)) (fun b hn => nm_n)), heq671853, heq671854, (Nat.le_of_ble_eq_true rfl), (Nat.le_of_ble_eq_true rfl), bp671864', bp671865, (fun R c1 c2 c3 c4 c5 => c3 r671886 r671901 r671903)⟩
      · have r671904 : p671856.toInt = p671864.toInt := gC_eq hc671902
        refine G_iload_n 1 dr_cX14_breaks_23 rfl ?_
        refine G_aload_n 0 dr_cX14_breaks_24 rfl ?_
        refine Gp_get 9 hmq671853 heq671853 dr_cX14_breaks_25 (gk_X14 D I) (Nat.le_of_ble_eq_true rfl) wr_9_46 rfl ?_
        refine G_icmp_ge 41 dr_cX14_breaks_28 (by decide +kernel) (fun hc671905 => ?_) (fun hc671905 => ?_)
        · have r671906 : p671865.toInt ≤ p671855.toInt := gC_le hc671905
          exact G_vretA dr_cX14_breaks_41 rfl (Nat.le_of_ble_eq_true rfl) (Nat.le_of_ble_eq_true rfl) ⟨F671852, p671864, p671865, rfl, rfl, (rFr_v (rFr_rf (W := []) (P := P671851) (F := F671852)) (fun b hn => nm_n)), heq671853, heq671854, (Nat.le_of_ble_eq_true rfl), (Nat.le_of_ble_eq_true rfl), bp671864', bp671865, (fun R c1 c2 c3 c4 c5 => c4 r671886 r671901 r671904 r671906)⟩
        · have r671907 : p671855.toInt < p671865.toInt := gC_nle hc671905
          have bp671855' : gB p671855 0 3 := ⟨by omega, by omega⟩
          have bp671865' : gB p671865 1 4 := ⟨by omega, by omega⟩
          refine G_aload_n 0 dr_cX14_breaks_31 rfl ?_
          refine G_iload_n 2 dr_cX14_breaks_32 rfl ?_
          refine Gp_put 8 hmq671853 heq671853 dr_cX14_breaks_33 (gk_X14 D I) (Nat.le_of_ble_eq_true rfl) wr_9_44 rfl rfl rfl (Nat.le_of_ble_eq_true rfl) (fun F671908 e671909 n671910 => ?_)
          have he671911 : F671908 q671854 = .inl (I .byte, 8192, .inl f671870) := (n671910 q671854 (rn_ao heq671854 heq671853)).trans heq671854
          have he671912 : F671908 q671853 = .inr (19, [.ref q671854, .int p671857, .int p671858, .int p671859, .int p671860, .int p671861, .int p671862, .ref qo671863, .int p671856, .int p671865, .int p671866, .ref qo671867, .ref qo671868, .int p671869]) := e671909
          have hfr671913 : rFr [q671853] P671851 F671852 F671908 := rFr_put (rFr_rf (W := []) (P := P671851) (F := F671852)) n671910
          refine G_aload_n 0 dr_cX14_breaks_36 rfl ?_
          refine G_iload_n 1 dr_cX14_breaks_37 rfl ?_
          refine Gp_put 9 hmq671853 he671912 dr_cX14_breaks_38 (gk_X14 D I) (Nat.le_of_ble_eq_true rfl) wr_9_46 rfl rfl rfl (Nat.le_of_ble_eq_true rfl) (fun F671914 e671915 n671916 => ?_)
          have he671917 : F671914 q671854 = .inl (I .byte, 8192, .inl f671870) := (n671916 q671854 (rn_ao he671911 he671912)).trans he671911
          have he671918 : F671914 q671853 = .inr (19, [.ref q671854, .int p671857, .int p671858, .int p671859, .int p671860, .int p671861, .int p671862, .ref qo671863, .int p671856, .int p671855, .int p671866, .ref qo671867, .ref qo671868, .int p671869]) := e671915
          have hfr671919 : rFr [q671853] P671851 F671852 F671914 := rFr_put' List.mem_cons_self hfr671913 n671916
          exact G_vretA dr_cX14_breaks_41 rfl (Nat.le_of_ble_eq_true rfl) (Nat.le_of_ble_eq_true rfl) ⟨F671914, p671856, p671855, rfl, rfl, hfr671919, he671918, he671917, (Nat.le_of_ble_eq_true rfl), (Nat.le_of_ble_eq_true rfl), bp671856, (gB_w bp671855' (by decide) (by decide)), (fun R c1 c2 c3 c4 c5 => c5 r671886 r671901 r671904 r671907)⟩
/- tr_RReader_operand: a.0...at, a.0...kind, a.0...place, a.0...value, a.1...a, a.1...b, a.1...regA, a.1...regB -/
def tr_RReader_operand (a2 : Int32) (a0_n : Int32) (a0_at : Int32) (a0_kind : Int32) (a0_value : Int32) (a1_a : Int32) (a1_b : Int32) (a1_regA : Int32) (a1_regB : Int32) (a0_t_v : Nat → Int32) (o1 : Int32) (o2 : Int32) (o3 : Int32) (o4 : Int32) (o5 : Int32) (o6 : Int32) (o7 : Int32) (o8 : Int32) (o9 : gTx) : Prop := ∀ R : (Int32) → (Int32) → (Int32) → (Int32) → (Int32) → (Int32) → (Int32) → (Int32) → (gTx) → Prop,
  (∀ (x1 : gTx) (x2 : Int32) (x3 : Int32) (x4 : Int32) (x5 : Int32), a0_kind.toInt ≠ 2 → a0_kind.toInt = 4 → a2.toInt = 0 → gB x2 0 8192 → gB x3 0 6 → gB x4 0 8192 → tr_RReader_next a0_n a0_at a0_kind a0_value a0_t_v x2 x3 x4 x5 x1 → R x2 x3 x4 x5 a0_value a1_b (0 : Int32) a1_regB x1) →
  (∀ (x1 : gTx) (x2 : Int32) (x3 : Int32) (x4 : Int32) (x5 : Int32), a0_kind.toInt ≠ 2 → a0_kind.toInt = 4 → a2.toInt ≠ 0 → gB x2 0 8192 → gB x3 0 6 → gB x4 0 8192 → tr_RReader_next a0_n a0_at a0_kind a0_value a0_t_v x2 x3 x4 x5 x1 → R x2 x3 x4 x5 a1_a a0_value a1_regA (0 : Int32) x1) →
  (∀ (x1 : gTx) (x2 : Int32) (x3 : Int32) (x4 : Int32) (x5 : Int32), a0_kind.toInt = 2 → a2.toInt = 0 → gB x2 0 8192 → gB x3 0 6 → gB x4 0 8192 → tr_RReader_next a0_n a0_at a0_kind a0_value a0_t_v x2 x3 x4 x5 x1 → R x2 x3 x4 x5 a0_value a1_b (1 : Int32) a1_regB x1) →
  (∀ (x1 : gTx) (x2 : Int32) (x3 : Int32) (x4 : Int32) (x5 : Int32), a0_kind.toInt = 2 → a2.toInt ≠ 0 → gB x2 0 8192 → gB x3 0 6 → gB x4 0 8192 → tr_RReader_next a0_n a0_at a0_kind a0_value a0_t_v x2 x3 x4 x5 x1 → R x2 x3 x4 x5 a1_a a0_value a1_regA (1 : Int32) x1) →
  R o1 o2 o3 o4 o5 o6 o7 o8 o9
/- tx_RReader_operand: throws -/
def tx_RReader_operand (a0_kind : Int32) : Prop := ∀ R : Prop,
  (a0_kind.toInt ≠ 2 → a0_kind.toInt ≠ 4 → R) →
  R
abbrev ky_671960_Reader_operand : gKey := (cX14_operand, 4, "SpillForgeModel$Reader", none, [], "operand", fun _ _ => True)
def pp_671960_Reader_operand (D : va_G) (I : FieldType → ClassId) (P671924 : List Nat) (F671925 : Nat → va_E) (q671926 : Nat) (q671927 : Nat) (q671928 : Nat) (p671929 : Int32) (p671930 : Int32) (p671931 : Int32) (p671932 : Int32) (p671933 : Int32) (p671934 : Int32) (p671935 : Int32) (qo671936 : Nat) (p671937 : Int32) (p671938 : Int32) (p671939 : Int32) (qo671940 : Nat) (qo671941 : Nat) (p671942 : Int32) (p671943 : Int32) (p671944 : Int32) (p671945 : Int32) (p671946 : Int32) (p671947 : Int32) (p671948 : Int32) (p671949 : Int32) (f671950 : Nat → Int32) (xt671951 : gTx) : Option Value → va_W → Nat → Nat → Prop := fun r w dc ds => ∃ (P672185 : List Nat) (F672186 : Nat → va_E) (o672176 : Int32) (o672177 : Int32) (o672178 : Int32) (o672179 : Int32) (q672180 : Nat) (o672181 : Int32) (o672182 : Int32) (o672183 : Int32) (o672184 : Int32) (xt672187 : gTx), r = none ∧ w = va_pl P672185 F672186 ∧ rSub P671924 P672185 ∧ rFr [q671927, q671926] P671924 F671925 F672186 ∧ F672186 q671927 = .inr (20, [.int p671943, .int p671944, .int o672181, .int o672182, .int p671947, .int o672183, .int o672184]) ∧ F672186 q671926 = .inr (19, [.ref q671928, .int p671930, .int o672176, .int o672177, .int o672178, .int o672179, .int p671932, .ref q672180, .int p671937, .int p671938, .int p671939, .ref qo671940, .ref qo671941, .int p671942]) ∧ F672186 q671928 = .inl (I .byte, 8192, .inl f671950) ∧ dc ≤ (16 * (o672176.toInt - p671931.toInt)).toNat ∧ ds ≤ (160 * (o672176.toInt - p671931.toInt)).toNat ∧ gB o672176 0 8192 ∧ gB o672177 0 6 ∧ gB o672178 0 8192 ∧ gB o672183 0 1 ∧ gB o672184 0 1 ∧ p671931.toInt ≤ o672176.toInt ∧ prP o672177 p671931 o672176 ∧ o672176.toInt ≤ p671930.toInt ∧ tP I P672185 F672186 o672177 q672180 qo671941 qo671940 xt672187 ∧ vP o672177 o672179 ∧ rwP o672183 o672181 ∧ rwP o672184 o672182 ∧ nzK p671932 ∧ tr_RReader_operand p671929 p671930 p671931 p671932 p671934 p671945 p671946 p671948 p671949 f671950 o672176 o672177 o672178 o672179 o672181 o672182 o672183 o672184 xt672187
def xp_671960_Reader_operand (D : va_G) (I : FieldType → ClassId) (P671924 : List Nat) (F671925 : Nat → va_E) (q671926 : Nat) (q671927 : Nat) (q671928 : Nat) (p671929 : Int32) (p671930 : Int32) (p671931 : Int32) (p671932 : Int32) (p671933 : Int32) (p671934 : Int32) (p671935 : Int32) (qo671936 : Nat) (p671937 : Int32) (p671938 : Int32) (p671939 : Int32) (qo671940 : Nat) (qo671941 : Nat) (p671942 : Int32) (p671943 : Int32) (p671944 : Int32) (p671945 : Int32) (p671946 : Int32) (p671947 : Int32) (p671948 : Int32) (p671949 : Int32) (f671950 : Nat → Int32) (xt671951 : gTx) : String → Nat → va_W → Nat → Nat → Prop := fun E q w dc ds => ∃ (P672189 : List Nat) (F672188 : Nat → va_E), E = "SpillForgeModel$Wrong" ∧ w = va_pl P672189 F672188 ∧ rSub P671924 P672189 ∧ rFr [] P671924 F671925 F672188 ∧ q ∈ P672189 ∧ q ∉ P671924 ∧ wrF F672188 q ∧ dc ≤ (16 * (p671930.toInt - p671931.toInt)).toNat + 1 ∧ ds ≤ (160 * (p671930.toInt - p671931.toInt)).toNat + 7 ∧ rkR (F672188 q671927) ∧ tx_RReader_operand p671932
set_option maxRecDepth 100000 in
set_option maxHeartbeats 4000000 in
theorem cp_671960_Reader_operand (l : Launch) (hl0 : l.stackTraces = false) (D : va_G) (I : FieldType → ClassId) (P671924 : List Nat) (F671925 : Nat → va_E) (q671926 : Nat) (q671927 : Nat) (q671928 : Nat) (p671929 : Int32) (p671930 : Int32) (p671931 : Int32) (p671932 : Int32) (p671933 : Int32) (p671934 : Int32) (p671935 : Int32) (qo671936 : Nat) (p671937 : Int32) (p671938 : Int32) (p671939 : Int32) (qo671940 : Nat) (qo671941 : Nat) (p671942 : Int32) (p671943 : Int32) (p671944 : Int32) (p671945 : Int32) (p671946 : Int32) (p671947 : Int32) (p671948 : Int32) (p671949 : Int32) (f671950 : Nat → Int32) (xt671951 : gTx) (hmq671926 : q671926 ∈ P671924) (hmq671927 : q671927 ∈ P671924) (hmq671928 : q671928 ∈ P671924) (heq671926 : F671925 q671926 = .inr (19, [.ref q671928, .int p671930, .int p671931, .int p671932, .int p671933, .int p671934, .int p671935, .ref qo671936, .int p671937, .int p671938, .int p671939, .ref qo671940, .ref qo671941, .int p671942])) (heq671927 : F671925 q671927 = .inr (20, [.int p671943, .int p671944, .int p671945, .int p671946, .int p671947, .int p671948, .int p671949])) (heq671928 : F671925 q671928 = .inl (I .byte, 8192, .inl f671950)) (bp671929 : gB p671929 0 1) (bp671930 : gB p671930 0 8192) (bp671931 : gB p671931 0 8192) (bp671932 : gB p671932 0 6) (bp671933 : gB p671933 0 8192) (bp671935 : gB p671935 0 6) (bp671937 : gB p671937 (-1) 8192) (bp671938 : gB p671938 0 4) (bp671939 : gB p671939 0 1000000) (bp671942 : gB p671942 0 1000000) (bp671943 : gB p671943 0 32) (bp671944 : gB p671944 0 1999) (bp671947 : gB p671947 0 1999) (bp671948 : gB p671948 0 1) (bp671949 : gB p671949 0 1) (bf671950 : gF f671950 (-128) 127) (x671952 : p671931.toInt ≤ p671930.toInt) (x671953 : qo671941 ∈ P671924) (x671954 : qo671940 ∈ P671924) (x671955 : tP I P671924 F671925 p671932 qo671936 qo671941 qo671940 xt671951) (x671956 : vP p671932 p671934) (x671957 : rwP p671948 p671945) (x671958 : rwP p671949 p671946) (x671959 : opP p671943) : CtA (gV D I) l yX14_operand cX14_operand 4 none 8 177 ((16 * (p671930.toInt - p671931.toInt)).toNat + 1) ((160 * (p671930.toInt - p671931.toInt)).toNat + 7) [.ref q671926, .ref q671927, .int p671929] (va_pl P671924 F671925) (pp_671960_Reader_operand D I P671924 F671925 q671926 q671927 q671928 p671929 p671930 p671931 p671932 p671933 p671934 p671935 qo671936 p671937 p671938 p671939 qo671940 qo671941 p671942 p671943 p671944 p671945 p671946 p671947 p671948 p671949 f671950 xt671951) (xp_671960_Reader_operand D I P671924 F671925 q671926 q671927 q671928 p671929 p671930 p671931 p671932 p671933 p671934 p671935 qo671936 p671937 p671938 p671939 qo671940 qo671941 p671942 p671943 p671944 p671945 p671946 p671947 p671948 p671949 f671950 xt671951) := by
  refine CtA_of hl0 (by decide) (Nat.le_of_ble_eq_true rfl) ?_
  have bp671934 := gB_any p671934
  have bp671945 := gB_any p671945
  have bp671946 := gB_any p671946
  refine G_aload_n 0 dr_cX14_operand_0 rfl ?_
  refine Gp_get 3 hmq671926 heq671926 dr_cX14_operand_1 (gk_X14 D I) (Nat.le_of_ble_eq_true rfl) wr_9_39 rfl ?_
  refine G_iconst 2 dr_cX14_operand_4 (by decide +kernel) ?_
  refine G_icmp_ne 12 dr_cX14_operand_5 (by decide +kernel) (fun hc671961 => ?_) (fun hc671961 => ?_)
  · have r671962 : p671932.toInt ≠ 2 := gj_neq hc671961 (show Int32.toInt 2 = 2 by decide)
    refine G_iconst 0 dr_cX14_operand_12 (by decide +kernel) ?_
    refine G_istore_n (L' := [(3, .int 0), (0, .ref q671926), (1, .ref q671927), (2, .int p671929)]) dr_cX14_operand_13 (Nat.le_of_ble_eq_true rfl) rfl ?_
    refine G_iload_n 0 dr_cX14_operand_14 rfl ?_
    refine G_if_ne 31 dr_cX14_operand_15 (by decide +kernel) (fun hc => absurd hc (by decide)) (fun _ => ?_)
    refine G_aload_n 1 dr_cX14_operand_18 rfl ?_
    refine Gp_get 3 hmq671926 heq671926 dr_cX14_operand_19 (gk_X14 D I) (Nat.le_of_ble_eq_true rfl) wr_9_39 rfl ?_
    refine G_iconst 4 dr_cX14_operand_22 (by decide +kernel) ?_
    refine G_icmp_eq 31 dr_cX14_operand_23 (by decide +kernel) (fun hc671963 => ?_) (fun hc671963 => ?_)
    · have r671964 : p671932.toInt = 4 := gj_eq hc671963 (show Int32.toInt 4 = 4 by decide)
      have bp671932' : gB p671932 4 4 := ⟨by omega, by omega⟩
      refine G_iload_n 3 dr_cX14_operand_31 rfl ?_
      refine G_if_eq 51 dr_cX14_operand_32 (by decide +kernel) (fun hc671965 => ?_) (fun hc671965 => ?_)
      · have r671966 : p671929.toInt = 0 := gj_eq hc671965 (show Int32.toInt 0 = 0 by decide)
        have bp671929' : gB p671929 0 0 := ⟨by omega, by omega⟩
        refine G_aload_n 2 dr_cX14_operand_51 rfl ?_
        refine G_aload_n 1 dr_cX14_operand_52 rfl ?_
        refine Gp_get 5 hmq671926 heq671926 dr_cX14_operand_53 (gk_X14 D I) (Nat.le_of_ble_eq_true rfl) wr_9_41 rfl ?_
        refine Gp_put 2 hmq671927 heq671927 dr_cX14_operand_56 (gk_X15 D I) (Nat.le_of_ble_eq_true rfl) wr_9_187 rfl rfl rfl (Nat.le_of_ble_eq_true rfl) (fun F671967 e671968 n671969 => ?_)
        have he671970 : F671967 q671926 = .inr (19, [.ref q671928, .int p671930, .int p671931, .int p671932, .int p671933, .int p671934, .int p671935, .ref qo671936, .int p671937, .int p671938, .int p671939, .ref qo671940, .ref qo671941, .int p671942]) := (n671969 q671926 (rn_oo heq671926 heq671927 (by decide))).trans heq671926
        have he671971 : F671967 q671928 = .inl (I .byte, 8192, .inl f671950) := (n671969 q671928 (rn_ao heq671928 heq671927)).trans heq671928
        have he671972 : F671967 q671927 = .inr (20, [.int p671943, .int p671944, .int p671934, .int p671946, .int p671947, .int p671948, .int p671949]) := e671968
        have hfr671973 : rFr [q671927] P671924 F671925 F671967 := rFr_put (rFr_rf (W := []) (P := P671924) (F := F671925)) n671969
        have tp671974 : tP I P671924 F671967 p671932 qo671936 qo671941 qo671940 xt671951 := tP_put x671955 heq671927 (by decide) n671969
        refine G_aload_n 2 dr_cX14_operand_59 rfl ?_
        refine G_iload_n 0 dr_cX14_operand_60 rfl ?_
        refine Gp_put 5 hmq671927 he671972 dr_cX14_operand_61 (gk_X15 D I) (Nat.le_of_ble_eq_true rfl) wr_9_198 rfl rfl rfl (Nat.le_of_ble_eq_true rfl) (fun F671975 e671976 n671977 => ?_)
        have he671978 : F671975 q671926 = .inr (19, [.ref q671928, .int p671930, .int p671931, .int p671932, .int p671933, .int p671934, .int p671935, .ref qo671936, .int p671937, .int p671938, .int p671939, .ref qo671940, .ref qo671941, .int p671942]) := (n671977 q671926 (rn_oo he671970 he671972 (by decide))).trans he671970
        have he671979 : F671975 q671928 = .inl (I .byte, 8192, .inl f671950) := (n671977 q671928 (rn_ao he671971 he671972)).trans he671971
        have he671980 : F671975 q671927 = .inr (20, [.int p671943, .int p671944, .int p671934, .int p671946, .int p671947, .int 0, .int p671949]) := e671976
        have hfr671981 : rFr [q671927] P671924 F671925 F671975 := rFr_put' List.mem_cons_self hfr671973 n671977
        have tp671982 : tP I P671924 F671975 p671932 qo671936 qo671941 qo671940 xt671951 := tP_put tp671974 he671972 (by decide) n671977
        refine G_aload_n 1 dr_cX14_operand_64 rfl ?_
        refine Gw_callV (As := []) (gV_ok D I) (cp_669625_Reader_next l hl0 D I P671924 F671975 q671926 q671928 p671930 p671931 p671932 p671933 p671934 p671935 qo671936 p671937 p671938 p671939 qo671940 qo671941 p671942 f671950 hmq671926 hmq671928 he671978 he671979 bp671930 bp671931 (gB_w bp671932' (by decide) (by decide)) bp671933 bp671935 bp671937 bp671938 bp671939 bp671942 bf671950 (by have qa0 : Int32.toInt 0 = 0 := (by decide); omega) x671953 x671954) dr_cX14_operand_65 ⟨wr_7_215, wr_1_32, wr_7_218, by decide, rfl, (Nat.le_of_ble_eq_true rfl), (Nat.le_of_ble_eq_true rfl)⟩ wr_7_217 wr_p_75 hmq671926 he671978 rfl (show 0 + ((16 * (p671930.toInt - p671931.toInt)).toNat) ≤ ((16 * (p671930.toInt - p671931.toInt)).toNat + 1) by first | omega | decide) (show 0 + ((160 * (p671930.toInt - p671931.toInt)).toNat) ≤ ((160 * (p671930.toInt - p671931.toInt)).toNat + 7) by first | omega | decide) (Nat.le_of_ble_eq_true rfl) (fun r671986 w671987 dc671983 ds671984 hp671985 => ?_) (fun _ _ _ _ _ z => z.elim)
        obtain ⟨P672000, F672001, o671988, o671989, o671990, o671991, q671992, xt671999, rfl, rfl, hsb672002, hfr672003, he672004, he672005, hdc, hds, bo671988, bo671989, bo671990, x671993, x671994, x671995, x671996, x671997, ht671998⟩ := hp671985
        have hm672006 : q671926 ∈ P672000 := hsb672002 q671926 hmq671926
        have hm672007 : q671927 ∈ P672000 := hsb672002 q671927 hmq671927
        have hm672008 : q671928 ∈ P672000 := hsb672002 q671928 hmq671928
        have hsb672009 : rSub P671924 P672000 := rSub_tr (rSub_rf (P := P671924)) hsb672002
        have he672010 : F672001 q671927 = .inr (20, [.int p671943, .int p671944, .int p671934, .int p671946, .int p671947, .int 0, .int p671949]) := (hfr672003 q671927 hmq671927 (nm_c (rn_oo he671980 he671978 (by decide)) nm_n)).trans he671980
        have hfr672011 : rFr [q671927, q671926] P671924 F671925 F672001 := rFr_call (rSub_rf (P := P671924)) hfr671981 hfr672003 (fun b hb hn => ⟨(nm_c (fun e => hn (e ▸ List.mem_cons_self)) nm_n), (nm_c (fun e => hn (e ▸ (List.mem_cons_of_mem _ List.mem_cons_self))) nm_n)⟩)
        have bo671991 := gB_any o671991
        change G _ _ _ _ _ _ _ _ _ _ _
        refine G_widen (cs' := (16 * (o671988.toInt - p671931.toInt)).toNat) (sl' := (160 * (o671988.toInt - p671931.toInt)).toNat) (by omega) (by omega) ?_
        exact G_vretA dr_cX14_operand_68 rfl (show (16 * (o671988.toInt - p671931.toInt)).toNat ≤ ((16 * (p671930.toInt - p671931.toInt)).toNat + 1) by omega) (show (160 * (o671988.toInt - p671931.toInt)).toNat ≤ ((160 * (p671930.toInt - p671931.toInt)).toNat + 7) by omega) ⟨P672000, F672001, o671988, o671989, o671990, o671991, q671992, p671934, p671946, 0, p671949, xt671999, rfl, rfl, hsb672009, hfr672011, he672010, he672004, he672005, (by omega), (by omega), bo671988, bo671989, bo671990, (gB_w (gBl (show Int32.toInt 0 = 0 by decide)) (by decide) (by decide)), bp671949, (by have qa0 : Int32.toInt 0 = 0 := (by decide); omega), x671994, (by have qa0 : Int32.toInt 0 = 0 := (by decide); omega), x671996, x671997, rwP_0, x671958, (show nzK p671932 by unfold nzK; omega), (fun R c1 c2 c3 c4 => c1 xt671999 o671988 o671989 o671990 o671991 r671962 r671964 r671966 bo671988 bo671989 bo671990 ht671998)⟩
      · have r672012 : p671929.toInt ≠ 0 := gj_neq hc671965 (show Int32.toInt 0 = 0 by decide)
        have bp671929' : gB p671929 1 1 := ⟨by omega, by omega⟩
        refine G_aload_n 2 dr_cX14_operand_35 rfl ?_
        refine G_aload_n 1 dr_cX14_operand_36 rfl ?_
        refine Gp_get 5 hmq671926 heq671926 dr_cX14_operand_37 (gk_X14 D I) (Nat.le_of_ble_eq_true rfl) wr_9_41 rfl ?_
        refine Gp_put 3 hmq671927 heq671927 dr_cX14_operand_40 (gk_X15 D I) (Nat.le_of_ble_eq_true rfl) wr_9_191 rfl rfl rfl (Nat.le_of_ble_eq_true rfl) (fun F672013 e672014 n672015 => ?_)
        have he672016 : F672013 q671926 = .inr (19, [.ref q671928, .int p671930, .int p671931, .int p671932, .int p671933, .int p671934, .int p671935, .ref qo671936, .int p671937, .int p671938, .int p671939, .ref qo671940, .ref qo671941, .int p671942]) := (n672015 q671926 (rn_oo heq671926 heq671927 (by decide))).trans heq671926
        have he672017 : F672013 q671928 = .inl (I .byte, 8192, .inl f671950) := (n672015 q671928 (rn_ao heq671928 heq671927)).trans heq671928
        have he672018 : F672013 q671927 = .inr (20, [.int p671943, .int p671944, .int p671945, .int p671934, .int p671947, .int p671948, .int p671949]) := e672014
        have hfr672019 : rFr [q671927] P671924 F671925 F672013 := rFr_put (rFr_rf (W := []) (P := P671924) (F := F671925)) n672015
        have tp672020 : tP I P671924 F672013 p671932 qo671936 qo671941 qo671940 xt671951 := tP_put x671955 heq671927 (by decide) n672015
        refine G_aload_n 2 dr_cX14_operand_43 rfl ?_
        refine G_iload_n 0 dr_cX14_operand_44 rfl ?_
        refine Gp_put 6 hmq671927 he672018 dr_cX14_operand_45 (gk_X15 D I) (Nat.le_of_ble_eq_true rfl) wr_9_201 rfl rfl rfl (Nat.le_of_ble_eq_true rfl) (fun F672021 e672022 n672023 => ?_)
        have he672024 : F672021 q671926 = .inr (19, [.ref q671928, .int p671930, .int p671931, .int p671932, .int p671933, .int p671934, .int p671935, .ref qo671936, .int p671937, .int p671938, .int p671939, .ref qo671940, .ref qo671941, .int p671942]) := (n672023 q671926 (rn_oo he672016 he672018 (by decide))).trans he672016
        have he672025 : F672021 q671928 = .inl (I .byte, 8192, .inl f671950) := (n672023 q671928 (rn_ao he672017 he672018)).trans he672017
        have he672026 : F672021 q671927 = .inr (20, [.int p671943, .int p671944, .int p671945, .int p671934, .int p671947, .int p671948, .int 0]) := e672022
        have hfr672027 : rFr [q671927] P671924 F671925 F672021 := rFr_put' List.mem_cons_self hfr672019 n672023
        have tp672028 : tP I P671924 F672021 p671932 qo671936 qo671941 qo671940 xt671951 := tP_put tp672020 he672018 (by decide) n672023
        refine G_goto 64 dr_cX14_operand_48 (by decide +kernel) ?_
        refine G_aload_n 1 dr_cX14_operand_64 rfl ?_
        refine Gw_callV (As := []) (gV_ok D I) (cp_669625_Reader_next l hl0 D I P671924 F672021 q671926 q671928 p671930 p671931 p671932 p671933 p671934 p671935 qo671936 p671937 p671938 p671939 qo671940 qo671941 p671942 f671950 hmq671926 hmq671928 he672024 he672025 bp671930 bp671931 (gB_w bp671932' (by decide) (by decide)) bp671933 bp671935 bp671937 bp671938 bp671939 bp671942 bf671950 (by have qa0 : Int32.toInt 0 = 0 := (by decide); omega) x671953 x671954) dr_cX14_operand_65 ⟨wr_7_215, wr_1_32, wr_7_218, by decide, rfl, (Nat.le_of_ble_eq_true rfl), (Nat.le_of_ble_eq_true rfl)⟩ wr_7_217 wr_p_75 hmq671926 he672024 rfl (show 0 + ((16 * (p671930.toInt - p671931.toInt)).toNat) ≤ ((16 * (p671930.toInt - p671931.toInt)).toNat + 1) by first | omega | decide) (show 0 + ((160 * (p671930.toInt - p671931.toInt)).toNat) ≤ ((160 * (p671930.toInt - p671931.toInt)).toNat + 7) by first | omega | decide) (Nat.le_of_ble_eq_true rfl) (fun r672032 w672033 dc672029 ds672030 hp672031 => ?_) (fun _ _ _ _ _ z => z.elim)
        obtain ⟨P672046, F672047, o672034, o672035, o672036, o672037, q672038, xt672045, rfl, rfl, hsb672048, hfr672049, he672050, he672051, hdc, hds, bo672034, bo672035, bo672036, x672039, x672040, x672041, x672042, x672043, ht672044⟩ := hp672031
        have hm672052 : q671926 ∈ P672046 := hsb672048 q671926 hmq671926
        have hm672053 : q671927 ∈ P672046 := hsb672048 q671927 hmq671927
        have hm672054 : q671928 ∈ P672046 := hsb672048 q671928 hmq671928
        have hsb672055 : rSub P671924 P672046 := rSub_tr (rSub_rf (P := P671924)) hsb672048
        have he672056 : F672047 q671927 = .inr (20, [.int p671943, .int p671944, .int p671945, .int p671934, .int p671947, .int p671948, .int 0]) := (hfr672049 q671927 hmq671927 (nm_c (rn_oo he672026 he672024 (by decide)) nm_n)).trans he672026
        have hfr672057 : rFr [q671927, q671926] P671924 F671925 F672047 := rFr_call (rSub_rf (P := P671924)) hfr672027 hfr672049 (fun b hb hn => ⟨(nm_c (fun e => hn (e ▸ List.mem_cons_self)) nm_n), (nm_c (fun e => hn (e ▸ (List.mem_cons_of_mem _ List.mem_cons_self))) nm_n)⟩)
        have bo672037 := gB_any o672037
        change G _ _ _ _ _ _ _ _ _ _ _
        refine G_widen (cs' := (16 * (o672034.toInt - p671931.toInt)).toNat) (sl' := (160 * (o672034.toInt - p671931.toInt)).toNat) (by omega) (by omega) ?_
        exact G_vretA dr_cX14_operand_68 rfl (show (16 * (o672034.toInt - p671931.toInt)).toNat ≤ ((16 * (p671930.toInt - p671931.toInt)).toNat + 1) by omega) (show (160 * (o672034.toInt - p671931.toInt)).toNat ≤ ((160 * (p671930.toInt - p671931.toInt)).toNat + 7) by omega) ⟨P672046, F672047, o672034, o672035, o672036, o672037, q672038, p671945, p671934, p671948, 0, xt672045, rfl, rfl, hsb672055, hfr672057, he672056, he672050, he672051, (by omega), (by omega), bo672034, bo672035, bo672036, bp671948, (gB_w (gBl (show Int32.toInt 0 = 0 by decide)) (by decide) (by decide)), (by have qa0 : Int32.toInt 0 = 0 := (by decide); omega), x672040, (by have qa0 : Int32.toInt 0 = 0 := (by decide); omega), x672042, x672043, x671957, rwP_0, (show nzK p671932 by unfold nzK; omega), (fun R c1 c2 c3 c4 => c2 xt672045 o672034 o672035 o672036 o672037 r671962 r671964 r672012 bo672034 bo672035 bo672036 ht672044)⟩
    · have r672058 : p671932.toInt ≠ 4 := gj_neq hc671963 (show Int32.toInt 4 = 4 by decide)
      refine G_aload_n 1 dr_cX14_operand_26 rfl ?_
      refine Gw_callV (As := []) (gV_ok D I) (cp_671365_Reader_no l hl0 D I P671924 F671925 q671926 q671928 p671930 p671931 p671932 p671933 p671934 p671935 qo671936 p671937 p671938 p671939 qo671940 qo671941 p671942 f671950 hmq671926 hmq671928 heq671926 heq671928 bp671930 bp671931 bp671932 bp671933 bp671935 bp671937 bp671938 bp671939 bp671942 bf671950) dr_cX14_operand_27 ⟨wr_9_97, wr_1_32, wr_9_100, by decide, rfl, (Nat.le_of_ble_eq_true rfl), (Nat.le_of_ble_eq_true rfl)⟩ wr_9_99 wr_p_81 hmq671926 heq671926 rfl (show 0 + 1 ≤ ((16 * (p671930.toInt - p671931.toInt)).toNat + 1) by first | omega | decide) (show 0 + 7 ≤ ((160 * (p671930.toInt - p671931.toInt)).toNat + 7) by first | omega | decide) (Nat.le_of_ble_eq_true rfl) (fun r672062 w672063 dc672059 ds672060 hp672061 => ?_) (fun _ _ _ _ _ z => z.elim)
      obtain ⟨P672065, F672066, q672064, rfl, rfl, hsb672067, hfr672068, he672069, he672070, he672071, hm672072, hq672073, hdc, hds⟩ := hp672061
      have hm672074 : q671926 ∈ P672065 := hsb672067 q671926 hmq671926
      have hm672075 : q671927 ∈ P672065 := hsb672067 q671927 hmq671927
      have hm672076 : q671928 ∈ P672065 := hsb672067 q671928 hmq671928
      have hq672077 : q672064 ∉ P671924 := fun z => hq672073 ((rSub_rf (P := P671924)) q672064 z)
      have hsb672078 : rSub P671924 P672065 := rSub_tr (rSub_rf (P := P671924)) hsb672067
      have he672079 : F672066 q671927 = .inr (20, [.int p671943, .int p671944, .int p671945, .int p671946, .int p671947, .int p671948, .int p671949]) := (hfr672068 q671927 hmq671927 nm_n).trans heq671927
      have hfr672080 : rFr [] P671924 F671925 F672066 := rFr_call (rSub_rf (P := P671924)) (rFr_rf (W := []) (P := P671924) (F := F671925)) hfr672068 (fun b hb hn => ⟨nm_n, nm_n⟩)
      have tp672081 : tP I P672065 F672066 p671932 qo671936 qo671941 qo671940 xt671951 := tP_new x671955 hsb672067 (fun b hb => hfr672068 b hb (fun z => by cases z)) (Or.inl rfl) (Or.inl rfl)
      change G _ _ _ _ _ _ _ (.ref q672064 :: _) _ _ _
      refine G_widen (cs' := 1) (sl' := 7) (by omega) (by omega) ?_
      exact Gp_athrow hm672072 he672071 rfl dr_cX14_operand_30 (GT_outA rfl (show 1 ≤ ((16 * (p671930.toInt - p671931.toInt)).toNat + 1) by omega) (show 7 ≤ ((160 * (p671930.toInt - p671931.toInt)).toNat + 7) by omega) ⟨P672065, F672066, rfl, rfl, hsb672078, hfr672080, hm672072, hq672077, ⟨_, _, _, _, _, _, _, he672071, by omega⟩, (by omega), (by omega), ⟨p671943, p671944, p671945, p671946, p671947, p671948, p671949, he672079, bp671943, bp671944, bp671947, bp671948, bp671949, x671959, x671957, x671958⟩, (fun R c1 => c1 r671962 r672058)⟩)
  · have r672082 : p671932.toInt = 2 := gj_eq hc671961 (show Int32.toInt 2 = 2 by decide)
    have bp671932' : gB p671932 2 2 := ⟨by omega, by omega⟩
    refine G_iconst 1 dr_cX14_operand_8 (by decide +kernel) ?_
    refine G_goto 13 dr_cX14_operand_9 (by decide +kernel) ?_
    refine G_istore_n (L' := [(3, .int 1), (0, .ref q671926), (1, .ref q671927), (2, .int p671929)]) dr_cX14_operand_13 (Nat.le_of_ble_eq_true rfl) rfl ?_
    refine G_iload_n 0 dr_cX14_operand_14 rfl ?_
    refine G_if_ne 31 dr_cX14_operand_15 (by decide +kernel) (fun _ => ?_) (fun hc => absurd hc (by decide))
    refine G_iload_n 3 dr_cX14_operand_31 rfl ?_
    refine G_if_eq 51 dr_cX14_operand_32 (by decide +kernel) (fun hc672083 => ?_) (fun hc672083 => ?_)
    · have r672084 : p671929.toInt = 0 := gj_eq hc672083 (show Int32.toInt 0 = 0 by decide)
      have bp671929' : gB p671929 0 0 := ⟨by omega, by omega⟩
      refine G_aload_n 2 dr_cX14_operand_51 rfl ?_
      refine G_aload_n 1 dr_cX14_operand_52 rfl ?_
      refine Gp_get 5 hmq671926 heq671926 dr_cX14_operand_53 (gk_X14 D I) (Nat.le_of_ble_eq_true rfl) wr_9_41 rfl ?_
      refine Gp_put 2 hmq671927 heq671927 dr_cX14_operand_56 (gk_X15 D I) (Nat.le_of_ble_eq_true rfl) wr_9_187 rfl rfl rfl (Nat.le_of_ble_eq_true rfl) (fun F672085 e672086 n672087 => ?_)
      have he672088 : F672085 q671926 = .inr (19, [.ref q671928, .int p671930, .int p671931, .int p671932, .int p671933, .int p671934, .int p671935, .ref qo671936, .int p671937, .int p671938, .int p671939, .ref qo671940, .ref qo671941, .int p671942]) := (n672087 q671926 (rn_oo heq671926 heq671927 (by decide))).trans heq671926
      have he672089 : F672085 q671928 = .inl (I .byte, 8192, .inl f671950) := (n672087 q671928 (rn_ao heq671928 heq671927)).trans heq671928
      have he672090 : F672085 q671927 = .inr (20, [.int p671943, .int p671944, .int p671934, .int p671946, .int p671947, .int p671948, .int p671949]) := e672086
      have hfr672091 : rFr [q671927] P671924 F671925 F672085 := rFr_put (rFr_rf (W := []) (P := P671924) (F := F671925)) n672087
      have tp672092 : tP I P671924 F672085 p671932 qo671936 qo671941 qo671940 xt671951 := tP_put x671955 heq671927 (by decide) n672087
      refine G_aload_n 2 dr_cX14_operand_59 rfl ?_
      refine G_iload_n 0 dr_cX14_operand_60 rfl ?_
      refine Gp_put 5 hmq671927 he672090 dr_cX14_operand_61 (gk_X15 D I) (Nat.le_of_ble_eq_true rfl) wr_9_198 rfl rfl rfl (Nat.le_of_ble_eq_true rfl) (fun F672093 e672094 n672095 => ?_)
      have he672096 : F672093 q671926 = .inr (19, [.ref q671928, .int p671930, .int p671931, .int p671932, .int p671933, .int p671934, .int p671935, .ref qo671936, .int p671937, .int p671938, .int p671939, .ref qo671940, .ref qo671941, .int p671942]) := (n672095 q671926 (rn_oo he672088 he672090 (by decide))).trans he672088
      have he672097 : F672093 q671928 = .inl (I .byte, 8192, .inl f671950) := (n672095 q671928 (rn_ao he672089 he672090)).trans he672089
      have he672098 : F672093 q671927 = .inr (20, [.int p671943, .int p671944, .int p671934, .int p671946, .int p671947, .int 1, .int p671949]) := e672094
      have hfr672099 : rFr [q671927] P671924 F671925 F672093 := rFr_put' List.mem_cons_self hfr672091 n672095
      have tp672100 : tP I P671924 F672093 p671932 qo671936 qo671941 qo671940 xt671951 := tP_put tp672092 he672090 (by decide) n672095
      refine G_aload_n 1 dr_cX14_operand_64 rfl ?_
      refine Gw_callV (As := []) (gV_ok D I) (cp_669625_Reader_next l hl0 D I P671924 F672093 q671926 q671928 p671930 p671931 p671932 p671933 p671934 p671935 qo671936 p671937 p671938 p671939 qo671940 qo671941 p671942 f671950 hmq671926 hmq671928 he672096 he672097 bp671930 bp671931 (gB_w bp671932' (by decide) (by decide)) bp671933 bp671935 bp671937 bp671938 bp671939 bp671942 bf671950 (by have qa0 : Int32.toInt 1 = 1 := (by decide); omega) x671953 x671954) dr_cX14_operand_65 ⟨wr_7_215, wr_1_32, wr_7_218, by decide, rfl, (Nat.le_of_ble_eq_true rfl), (Nat.le_of_ble_eq_true rfl)⟩ wr_7_217 wr_p_75 hmq671926 he672096 rfl (show 0 + ((16 * (p671930.toInt - p671931.toInt)).toNat) ≤ ((16 * (p671930.toInt - p671931.toInt)).toNat + 1) by first | omega | decide) (show 0 + ((160 * (p671930.toInt - p671931.toInt)).toNat) ≤ ((160 * (p671930.toInt - p671931.toInt)).toNat + 7) by first | omega | decide) (Nat.le_of_ble_eq_true rfl) (fun r672104 w672105 dc672101 ds672102 hp672103 => ?_) (fun _ _ _ _ _ z => z.elim)
      obtain ⟨P672118, F672119, o672106, o672107, o672108, o672109, q672110, xt672117, rfl, rfl, hsb672120, hfr672121, he672122, he672123, hdc, hds, bo672106, bo672107, bo672108, x672111, x672112, x672113, x672114, x672115, ht672116⟩ := hp672103
      have hm672124 : q671926 ∈ P672118 := hsb672120 q671926 hmq671926
      have hm672125 : q671927 ∈ P672118 := hsb672120 q671927 hmq671927
      have hm672126 : q671928 ∈ P672118 := hsb672120 q671928 hmq671928
      have hsb672127 : rSub P671924 P672118 := rSub_tr (rSub_rf (P := P671924)) hsb672120
      have he672128 : F672119 q671927 = .inr (20, [.int p671943, .int p671944, .int p671934, .int p671946, .int p671947, .int 1, .int p671949]) := (hfr672121 q671927 hmq671927 (nm_c (rn_oo he672098 he672096 (by decide)) nm_n)).trans he672098
      have hfr672129 : rFr [q671927, q671926] P671924 F671925 F672119 := rFr_call (rSub_rf (P := P671924)) hfr672099 hfr672121 (fun b hb hn => ⟨(nm_c (fun e => hn (e ▸ List.mem_cons_self)) nm_n), (nm_c (fun e => hn (e ▸ (List.mem_cons_of_mem _ List.mem_cons_self))) nm_n)⟩)
      have bo672109 := gB_any o672109
      change G _ _ _ _ _ _ _ _ _ _ _
      refine G_widen (cs' := (16 * (o672106.toInt - p671931.toInt)).toNat) (sl' := (160 * (o672106.toInt - p671931.toInt)).toNat) (by omega) (by omega) ?_
      exact G_vretA dr_cX14_operand_68 rfl (show (16 * (o672106.toInt - p671931.toInt)).toNat ≤ ((16 * (p671930.toInt - p671931.toInt)).toNat + 1) by omega) (show (160 * (o672106.toInt - p671931.toInt)).toNat ≤ ((160 * (p671930.toInt - p671931.toInt)).toNat + 7) by omega) ⟨P672118, F672119, o672106, o672107, o672108, o672109, q672110, p671934, p671946, 1, p671949, xt672117, rfl, rfl, hsb672127, hfr672129, he672128, he672122, he672123, (by omega), (by omega), bo672106, bo672107, bo672108, (gB_w (gBl (show Int32.toInt 1 = 1 by decide)) (by decide) (by decide)), bp671949, (by have qa0 : Int32.toInt 1 = 1 := (by decide); omega), x672112, (by have qa0 : Int32.toInt 1 = 1 := (by decide); omega), x672114, x672115, (rwP_1 x671956 (by omega)), x671958, (show nzK p671932 by unfold nzK; omega), (fun R c1 c2 c3 c4 => c3 xt672117 o672106 o672107 o672108 o672109 r672082 r672084 bo672106 bo672107 bo672108 ht672116)⟩
    · have r672130 : p671929.toInt ≠ 0 := gj_neq hc672083 (show Int32.toInt 0 = 0 by decide)
      have bp671929' : gB p671929 1 1 := ⟨by omega, by omega⟩
      refine G_aload_n 2 dr_cX14_operand_35 rfl ?_
      refine G_aload_n 1 dr_cX14_operand_36 rfl ?_
      refine Gp_get 5 hmq671926 heq671926 dr_cX14_operand_37 (gk_X14 D I) (Nat.le_of_ble_eq_true rfl) wr_9_41 rfl ?_
      refine Gp_put 3 hmq671927 heq671927 dr_cX14_operand_40 (gk_X15 D I) (Nat.le_of_ble_eq_true rfl) wr_9_191 rfl rfl rfl (Nat.le_of_ble_eq_true rfl) (fun F672131 e672132 n672133 => ?_)
      have he672134 : F672131 q671926 = .inr (19, [.ref q671928, .int p671930, .int p671931, .int p671932, .int p671933, .int p671934, .int p671935, .ref qo671936, .int p671937, .int p671938, .int p671939, .ref qo671940, .ref qo671941, .int p671942]) := (n672133 q671926 (rn_oo heq671926 heq671927 (by decide))).trans heq671926
      have he672135 : F672131 q671928 = .inl (I .byte, 8192, .inl f671950) := (n672133 q671928 (rn_ao heq671928 heq671927)).trans heq671928
      have he672136 : F672131 q671927 = .inr (20, [.int p671943, .int p671944, .int p671945, .int p671934, .int p671947, .int p671948, .int p671949]) := e672132
      have hfr672137 : rFr [q671927] P671924 F671925 F672131 := rFr_put (rFr_rf (W := []) (P := P671924) (F := F671925)) n672133
      have tp672138 : tP I P671924 F672131 p671932 qo671936 qo671941 qo671940 xt671951 := tP_put x671955 heq671927 (by decide) n672133
      refine G_aload_n 2 dr_cX14_operand_43 rfl ?_
      refine G_iload_n 0 dr_cX14_operand_44 rfl ?_
      refine Gp_put 6 hmq671927 he672136 dr_cX14_operand_45 (gk_X15 D I) (Nat.le_of_ble_eq_true rfl) wr_9_201 rfl rfl rfl (Nat.le_of_ble_eq_true rfl) (fun F672139 e672140 n672141 => ?_)
      have he672142 : F672139 q671926 = .inr (19, [.ref q671928, .int p671930, .int p671931, .int p671932, .int p671933, .int p671934, .int p671935, .ref qo671936, .int p671937, .int p671938, .int p671939, .ref qo671940, .ref qo671941, .int p671942]) := (n672141 q671926 (rn_oo he672134 he672136 (by decide))).trans he672134
      have he672143 : F672139 q671928 = .inl (I .byte, 8192, .inl f671950) := (n672141 q671928 (rn_ao he672135 he672136)).trans he672135
      have he672144 : F672139 q671927 = .inr (20, [.int p671943, .int p671944, .int p671945, .int p671934, .int p671947, .int p671948, .int 1]) := e672140
      have hfr672145 : rFr [q671927] P671924 F671925 F672139 := rFr_put' List.mem_cons_self hfr672137 n672141
      have tp672146 : tP I P671924 F672139 p671932 qo671936 qo671941 qo671940 xt671951 := tP_put tp672138 he672136 (by decide) n672141
      refine G_goto 64 dr_cX14_operand_48 (by decide +kernel) ?_
      refine G_aload_n 1 dr_cX14_operand_64 rfl ?_
      refine Gw_callV (As := []) (gV_ok D I) (cp_669625_Reader_next l hl0 D I P671924 F672139 q671926 q671928 p671930 p671931 p671932 p671933 p671934 p671935 qo671936 p671937 p671938 p671939 qo671940 qo671941 p671942 f671950 hmq671926 hmq671928 he672142 he672143 bp671930 bp671931 (gB_w bp671932' (by decide) (by decide)) bp671933 bp671935 bp671937 bp671938 bp671939 bp671942 bf671950 (by have qa0 : Int32.toInt 1 = 1 := (by decide); omega) x671953 x671954) dr_cX14_operand_65 ⟨wr_7_215, wr_1_32, wr_7_218, by decide, rfl, (Nat.le_of_ble_eq_true rfl), (Nat.le_of_ble_eq_true rfl)⟩ wr_7_217 wr_p_75 hmq671926 he672142 rfl (show 0 + ((16 * (p671930.toInt - p671931.toInt)).toNat) ≤ ((16 * (p671930.toInt - p671931.toInt)).toNat + 1) by first | omega | decide) (show 0 + ((160 * (p671930.toInt - p671931.toInt)).toNat) ≤ ((160 * (p671930.toInt - p671931.toInt)).toNat + 7) by first | omega | decide) (Nat.le_of_ble_eq_true rfl) (fun r672150 w672151 dc672147 ds672148 hp672149 => ?_) (fun _ _ _ _ _ z => z.elim)
      obtain ⟨P672164, F672165, o672152, o672153, o672154, o672155, q672156, xt672163, rfl, rfl, hsb672166, hfr672167, he672168, he672169, hdc, hds, bo672152, bo672153, bo672154, x672157, x672158, x672159, x672160, x672161, ht672162⟩ := hp672149
      have hm672170 : q671926 ∈ P672164 := hsb672166 q671926 hmq671926
      have hm672171 : q671927 ∈ P672164 := hsb672166 q671927 hmq671927
      have hm672172 : q671928 ∈ P672164 := hsb672166 q671928 hmq671928
      have hsb672173 : rSub P671924 P672164 := rSub_tr (rSub_rf (P := P671924)) hsb672166
      have he672174 : F672165 q671927 = .inr (20, [.int p671943, .int p671944, .int p671945, .int p671934, .int p671947, .int p671948, .int 1]) := (hfr672167 q671927 hmq671927 (nm_c (rn_oo he672144 he672142 (by decide)) nm_n)).trans he672144
      have hfr672175 : rFr [q671927, q671926] P671924 F671925 F672165 := rFr_call (rSub_rf (P := P671924)) hfr672145 hfr672167 (fun b hb hn => ⟨(nm_c (fun e => hn (e ▸ List.mem_cons_self)) nm_n), (nm_c (fun e => hn (e ▸ (List.mem_cons_of_mem _ List.mem_cons_self))) nm_n)⟩)
      have bo672155 := gB_any o672155
      change G _ _ _ _ _ _ _ _ _ _ _
      refine G_widen (cs' := (16 * (o672152.toInt - p671931.toInt)).toNat) (sl' := (160 * (o672152.toInt - p671931.toInt)).toNat) (by omega) (by omega) ?_
      exact G_vretA dr_cX14_operand_68 rfl (show (16 * (o672152.toInt - p671931.toInt)).toNat ≤ ((16 * (p671930.toInt - p671931.toInt)).toNat + 1) by omega) (show (160 * (o672152.toInt - p671931.toInt)).toNat ≤ ((160 * (p671930.toInt - p671931.toInt)).toNat + 7) by omega) ⟨P672164, F672165, o672152, o672153, o672154, o672155, q672156, p671945, p671934, p671948, 1, xt672163, rfl, rfl, hsb672173, hfr672175, he672174, he672168, he672169, (by omega), (by omega), bo672152, bo672153, bo672154, bp671948, (gB_w (gBl (show Int32.toInt 1 = 1 by decide)) (by decide) (by decide)), (by have qa0 : Int32.toInt 1 = 1 := (by decide); omega), x672158, (by have qa0 : Int32.toInt 1 = 1 := (by decide); omega), x672160, x672161, x671957, (rwP_1 x671956 (by omega)), (show nzK p671932 by unfold nzK; omega), (fun R c1 c2 c3 c4 => c4 xt672163 o672152 o672153 o672154 o672155 r672082 r672130 bo672152 bo672153 bo672154 ht672162)⟩
/- tr_RStringLatin1_charAt2: result -/
def tr_RStringLatin1_charAt2 (bs : List Int32) (a1 : Int32) (o1 : Int32) : Prop := ∀ R : (Int32) → Prop,
  (∀ (x1 : Int32) (x2 : Int32) (x3 : Int32) (x4 : Int32), x1.toInt = (bs.length : Int) → tr_RString_checkIndex a1 x1 → x2 = bs.getD a1.toNatClampNeg 0 → x3 = x2 &&& (255 : Int32) → x4 = (x3.toUInt32 % 65536).toInt32 → R x4) →
  R o1
abbrev ky_672369_StringLatin1_charAt : gKey := (cJ1_charAt_3b067, 2, "java/lang/StringLatin1", (some FieldType.char), [], "charAt", fun _ _ => True)
def pp_672369_StringLatin1_charAt (D : va_G) (I : FieldType → ClassId) (P672363 : List Nat) (F672364 : Nat → va_E) (qs672365 : Nat) (bs672366 : List Int32) (p672367 : Int32) : Option Value → va_W → Nat → Nat → Prop := fun r w dc ds => ∃ (o672380 : Int32), r = some (.int o672380) ∧ w = va_pl P672363 F672364 ∧ dc ≤ 0 ∧ ds ≤ 0 ∧ gB o672380 0 255 ∧ chP (fun j => bs672366.getD j 0) p672367 o672380 ∧ tr_RStringLatin1_charAt2 bs672366 p672367 o672380
set_option maxRecDepth 100000 in
set_option maxHeartbeats 4000000 in
theorem cp_672369_StringLatin1_charAt (l : Launch) (hl0 : l.stackTraces = false) (D : va_G) (I : FieldType → ClassId) (P672363 : List Nat) (F672364 : Nat → va_E) (qs672365 : Nat) (bs672366 : List Int32) (p672367 : Int32) (hbs672366 : ∀ A s H, (gV D I).2.2.2.1 A s H → va_T .byte qs672365 bs672366.length (fun j => .int (bs672366.getD j 0)) A s H) (nbs672366 : (bs672366.length : Int) ≤ 65535) (lbs672366 : gLB bs672366) (bp672367 : gB p672367 0 16777215) (x672368 : p672367.toInt < (bs672366.length : Int)) : CtA (gV D I) l yJ1_charAt_3b067 cJ1_charAt_3b067 2 (some FieldType.char) 2 43 0 0 [.ref qs672365, .int p672367] (va_pl P672363 F672364) (pp_672369_StringLatin1_charAt D I P672363 F672364 qs672365 bs672366 p672367) gNA := by
  refine CtA_ofF hl0 (by decide +kernel) (Nat.le_of_ble_eq_true rfl) ?_
  refine G_iload_n 1 dr_cJ1_charAt_3b067_0 rfl ?_
  refine G_aload_n 0 dr_cJ1_charAt_3b067_1 rfl ?_
  refine G_klen dr_cJ1_charAt_3b067_2 hbs672366 (G_nam fun z672370 hz672370 => ?_)
  have ez672370 : z672370.toInt = (bs672366.length : Int) := gI_ofN hz672370 nbs672366
  have bz672370 : gB z672370 0 65535 := ⟨by omega, by omega⟩
  refine Gw_callS (As := [.int p672367, .int z672370]) (gV_ok D I) (cp_655718_String_checkIndex l hl0 D I P672363 F672364 p672367 z672370 (gB_w bp672367 (by decide) (by decide)) (gB_w bz672370 (by decide) (by decide)) (by omega)) dr_cJ1_charAt_3b067_3 ⟨wr_3_78, wr_1_21, wr_3_80, by decide, rfl, (Nat.le_of_ble_eq_true rfl), (Nat.le_of_ble_eq_true rfl)⟩ wr_3_79 (show 0 + 0 ≤ 0 by first | omega | decide) (show 0 + 0 ≤ 0 by first | omega | decide) (Nat.le_of_ble_eq_true rfl) (fun r672374 w672375 dc672371 ds672372 hp672373 => ?_) (fun _ _ _ _ _ z => z.elim)
  obtain ⟨rfl, rfl, hdc, hds, ht672376⟩ := hp672373
  change G _ _ _ _ _ _ _ _ _ _ _
  refine G_widen (cs' := 0) (sl' := 0) (by omega) (by omega) ?_
  refine G_aload_n 0 dr_cJ1_charAt_3b067_6 rfl ?_
  refine G_iload_n 1 dr_cJ1_charAt_3b067_7 rfl ?_
  refine G_kbald (f := fun j => bs672366.getD j 0) dr_cJ1_charAt_3b067_8 hbs672366 (gB_inr (by omega) (by omega)) (G_nam fun z672377 hz672377 => ?_)
  have bz672377 : gB z672377 (-2147483648) 2147483647 := gB_any z672377
  refine G_sipush 255 dr_cJ1_charAt_3b067_9 (by decide +kernel) ?_
  refine G_iand dr_cJ1_charAt_3b067_12 (G_nam fun z672378 hz672378 => ?_)
  have bz672378 : gB z672378 0 255 := gB_and hz672378 (gBl (show Int32.toInt 255 = 255 by decide)) (by decide)
  refine G_i2c dr_cJ1_charAt_3b067_13 (G_nam fun z672379 hz672379 => ?_)
  have ez672379 : z672379.toInt = z672378.toInt := gI_i2c hz672379 (by omega) (by omega)
  have bz672379 : gB z672379 0 255 := ⟨by omega, by omega⟩
  exact G_zretA FieldType.char dr_cJ1_charAt_3b067_14 rfl (gN_char (gB_w bz672379 (by decide) (by decide))) (Nat.le_of_ble_eq_true rfl) (Nat.le_of_ble_eq_true rfl) ⟨z672379, rfl, rfl, (Nat.le_of_ble_eq_true rfl), (Nat.le_of_ble_eq_true rfl), bz672379, (chP_of (by assumption) (by assumption) (by omega) (chb lbs672366 (by assumption))), (fun R c1 => c1 z672370 z672377 z672378 z672379 ez672370 ht672376 hz672377 hz672378 hz672379)⟩
/- tr_RString_charAt2: result -/
def tr_RString_charAt2 (bs : List Int32) (a1 : Int32) (o1 : Int32) : Prop := ∀ R : (Int32) → Prop,
  (∀ (x1 : Int32), gB x1 0 255 → tr_RStringLatin1_charAt2 bs a1 x1 → R x1) →
  R o1
abbrev ky_672357_String_charAt : gKey := (cJ0_charAt_5068e, 2, "java/lang/String", (some FieldType.char), [], "charAt", fun _ _ => True)
def pp_672357_String_charAt (D : va_G) (I : FieldType → ClassId) (P672350 : List Nat) (F672351 : Nat → va_E) (qs672352 : Nat) (qb672353 : Nat) (bs672354 : List Int32) (p672355 : Int32) : Option Value → va_W → Nat → Nat → Prop := fun r w dc ds => ∃ (o672389 : Int32), r = some (.int o672389) ∧ w = va_pl P672350 F672351 ∧ dc ≤ 0 ∧ ds ≤ 0 ∧ gB o672389 0 255 ∧ chP (fun j => bs672354.getD j 0) p672355 o672389 ∧ tr_RString_charAt2 bs672354 p672355 o672389
set_option maxRecDepth 100000 in
set_option maxHeartbeats 4000000 in
theorem cp_672357_String_charAt (l : Launch) (hl0 : l.stackTraces = false) (D : va_G) (I : FieldType → ClassId) (P672350 : List Nat) (F672351 : Nat → va_E) (qs672352 : Nat) (qb672353 : Nat) (bs672354 : List Int32) (p672355 : Int32) (hbs672354 : ∀ A s H, (gV D I).2.2.2.1 A s H → gSC qs672352 qb672353 bs672354 A s H) (nbs672354 : (bs672354.length : Int) ≤ 65535) (lbs672354 : gLB bs672354) (bp672355 : gB p672355 0 65535) (x672356 : p672355.toInt < (bs672354.length : Int)) : CtA (gV D I) l yJ0_charAt_5068e cJ0_charAt_5068e 2 (some FieldType.char) 3 64 0 0 [.ref qs672352, .int p672355] (va_pl P672350 F672351) (pp_672357_String_charAt D I P672350 F672351 qs672352 qb672353 bs672354 p672355) gNA := by
  refine CtA_ofF hl0 (by decide +kernel) (Nat.le_of_ble_eq_true rfl) ?_
  refine G_aload_n 0 dr_cJ0_charAt_5068e_0 rfl ?_
  refine Gw_callVk (As := []) (gV_ok D I) (cp_657399_String_isLatin1 l hl0 D I P672350 F672351 qs672352 qb672353 bs672354 hbs672354 nbs672354 lbs672354) dr_cJ0_charAt_5068e_1 ⟨wr_3_71, wr_1_21, wr_3_74, by decide, rfl, (Nat.le_of_ble_eq_true rfl), (Nat.le_of_ble_eq_true rfl)⟩ wr_3_72 wr_3_73 (fun _ _ _ h => (hbs672354 _ _ _ h).1) (show 0 + 0 ≤ 0 by first | omega | decide) (show 0 + 0 ≤ 0 by first | omega | decide) (Nat.le_of_ble_eq_true rfl) (fun r672361 w672362 dc672358 ds672359 hp672360 => ?_) (fun _ _ _ _ _ z => z.elim)
  obtain ⟨rfl, rfl, hdc, hds⟩ := hp672360
  change G _ _ _ _ _ _ _ (.int 1 :: _) _ _ _
  refine G_widen (cs' := 0) (sl' := 0) (by omega) (by omega) ?_
  refine G_if_eq 16 dr_cJ0_charAt_5068e_4 (by decide +kernel) (fun hc => absurd hc (by decide)) (fun _ => ?_)
  refine G_aload_n 0 dr_cJ0_charAt_5068e_7 rfl ?_
  refine G_kget dr_cJ0_charAt_5068e_8 wr_8_182 (fun _ _ _ h => (hbs672354 _ _ _ h).2.2.1) ?_
  refine G_iload_n 1 dr_cJ0_charAt_5068e_11 rfl ?_
  refine Gw_callS (As := [.ref qb672353, .int p672355]) (gV_ok D I) (cp_672369_StringLatin1_charAt l hl0 D I P672350 F672351 qb672353 bs672354 p672355 (fun _ _ _ h => (hbs672354 _ _ _ h).2.2.2) (by omega) lbs672354 (gB_w bp672355 (by decide) (by decide)) (by omega)) dr_cJ0_charAt_5068e_12 ⟨wr_3_75, wr_1_28, wr_3_77, by decide, rfl, (Nat.le_of_ble_eq_true rfl), (Nat.le_of_ble_eq_true rfl)⟩ wr_3_76 (show 0 + 0 ≤ 0 by first | omega | decide) (show 0 + 0 ≤ 0 by first | omega | decide) (Nat.le_of_ble_eq_true rfl) (fun r672384 w672385 dc672381 ds672382 hp672383 => ?_) (fun _ _ _ _ _ z => z.elim)
  obtain ⟨o672386, rfl, rfl, hdc, hds, bo672386, x672387, ht672388⟩ := hp672383
  change G _ _ _ _ _ _ _ (.int o672386 :: _) _ _ _
  refine G_widen (cs' := 0) (sl' := 0) (by omega) (by omega) ?_
  exact G_zretA FieldType.char dr_cJ0_charAt_5068e_15 rfl (gN_char (gB_w bo672386 (by decide) (by decide))) (Nat.le_of_ble_eq_true rfl) (Nat.le_of_ble_eq_true rfl) ⟨o672386, rfl, rfl, (Nat.le_of_ble_eq_true rfl), (Nat.le_of_ble_eq_true rfl), bo672386, x672387, (fun R c1 => c1 o672386 bo672386 ht672388)⟩
/- tl_RModel_operation_40: l3, l2; out: l2 -/
def tl_RModel_operation_40 (c1 : Int32) (s1 : Int32) (s2 : Int32) (k : Nat) (e1 : Int32) : Prop := ∀ R : (Int32) → (Int32) → Nat → (Int32) → Prop,
  (∀ (l3_1 : Int32) (l2_1 : Int32), gB l3_1 0 16777215 → c1.toInt ≤ l3_1.toInt → R l3_1 l2_1 70 l2_1) →
  (∀ (l3_1 : Int32) (l2_1 : Int32) (x1 : Int32) (x2 : Int32) (x3 : Int32) (k : Nat) (e1 : Int32), gB l3_1 0 16777215 → l3_1.toInt < c1.toInt → gB x1 0 255 → tr_RString_charAt2 sb_42 l3_1 x1 → x1.toInt ≠ 32 → x2.toInt = l2_1.toInt + 0 → x3.toInt = l3_1.toInt + 1 → R x3 x2 k e1 → R l3_1 l2_1 k e1) →
  (∀ (l3_1 : Int32) (l2_1 : Int32) (x1 : Int32) (x2 : Int32) (x3 : Int32) (k : Nat) (e1 : Int32), gB l3_1 0 16777215 → l3_1.toInt < c1.toInt → gB x1 0 255 → tr_RString_charAt2 sb_42 l3_1 x1 → x1.toInt = 32 → x2.toInt = l2_1.toInt + 1 → x3.toInt = l3_1.toInt + 1 → R x3 x2 k e1 → R l3_1 l2_1 k e1) →
  R s1 s2 k e1
/- tr_RModel_operation: result -/
def tr_RModel_operation (a0_value_v : Nat → Int32) (a0_value_n : Nat) (o1 : Int32) : Prop := ∀ R : (Int32) → Prop,
  (∀ (x1 : Int32) (x2 : Nat → Int32) (x3 : Int32) (x4 : Nat → Int32) (x5 : Int32) (x6 : Nat → Int32) (x7 : Nat) (x8 : Nat → Int32) (x9 : Int32) (x10 : Int32), gB x1 0 16777216 → (tr_RStringBuilder_append4 sb_43 (0 : Int32) (fun _ => 0) 16 x1 x2) → gB x3 0 16777216 → tr_RStringBuilder_append3 x1 x2 16 a0_value_v a0_value_n x3 x4 → gB x5 0 16777216 → tr_RStringBuilder_append4 sb_43 x3 x4 16 x5 x6 → tr_RStringBuilder_toString x5 x6 16 x7 x8 → gB x9 (-2147483646) 16777215 → tr_RString_indexOf sb_42 x8 x7 x9 → 0 ≤ x9.toInt → tl_RModel_operation_40 x9 (0 : Int32) (1 : Int32) 70 x10 → R x10) →
  (∀ (x1 : Int32) (x2 : Nat → Int32) (x3 : Int32) (x4 : Nat → Int32) (x5 : Int32) (x6 : Nat → Int32) (x7 : Nat) (x8 : Nat → Int32) (x9 : Int32), gB x1 0 16777216 → (tr_RStringBuilder_append4 sb_43 (0 : Int32) (fun _ => 0) 16 x1 x2) → gB x3 0 16777216 → tr_RStringBuilder_append3 x1 x2 16 a0_value_v a0_value_n x3 x4 → gB x5 0 16777216 → tr_RStringBuilder_append4 sb_43 x3 x4 16 x5 x6 → tr_RStringBuilder_toString x5 x6 16 x7 x8 → gB x9 (-2147483646) 16777215 → tr_RString_indexOf sb_42 x8 x7 x9 → x9.toInt < 0 → R (0 : Int32)) →
  R o1
abbrev ky_672200_SpillForgeModel_operation : gKey := (cX17_operation, 4, "SpillForgeModel", (some FieldType.int), [], "operation", fun _ _ => True)
def pp_672200_SpillForgeModel_operation (D : va_G) (I : FieldType → ClassId) (P672190 : List Nat) (F672191 : Nat → va_E) (q672192 : Nat) (q672193 : Nat) (p672194 : Int32) (p672195 : Int32) (f672196 : Nat → Int32) (n672197 : Nat) : Option Value → va_W → Nat → Nat → Prop := fun r w dc ds => ∃ (P672555 : List Nat) (F672556 : Nat → va_E) (o672554 : Int32), r = some (.int o672554) ∧ w = va_pl P672555 F672556 ∧ rSub P672190 P672555 ∧ rFr [] P672190 F672191 F672556 ∧ F672556 q672192 = .inr (0, [.ref q672193, .int 0, .int p672194, .int p672195]) ∧ F672556 q672193 = .inl (I .byte, n672197, .inl f672196) ∧ dc ≤ 8 ∧ ds ≤ 64 ∧ gB o672554 0 14 ∧ 0 ≤ o672554.toInt ∧ o672554.toInt ≤ 14 ∧ tr_RModel_operation f672196 n672197 o672554
set_option maxRecDepth 100000 in
set_option maxHeartbeats 4000000 in
theorem cp_672200_SpillForgeModel_operation (l : Launch) (hl0 : l.stackTraces = false) (D : va_G) (I : FieldType → ClassId) (P672190 : List Nat) (F672191 : Nat → va_E) (q672192 : Nat) (q672193 : Nat) (p672194 : Int32) (p672195 : Int32) (f672196 : Nat → Int32) (n672197 : Nat) (hmq672192 : q672192 ∈ P672190) (hmq672193 : q672193 ∈ P672190) (heq672192 : F672191 q672192 = .inr (0, [.ref q672193, .int 0, .int p672194, .int p672195])) (heq672193 : F672191 q672193 = .inl (I .byte, n672197, .inl f672196)) (bp672195 : gB p672195 0 1) (bf672196 : gF f672196 (-128) 127) (x672198 : (n672197 : Int) ≤ 2) (x672199 : ((n672197 : Int) ≤ 16777216)) : CtA (gV D I) l yX17_operation cX17_operation 4 (some FieldType.int) 6 132 8 64 [.ref q672192] (va_pl P672190 F672191) (pp_672200_SpillForgeModel_operation D I P672190 F672191 q672192 q672193 p672194 p672195 f672196 n672197) gNA := by
  refine CtA_of hl0 (by decide) (Nat.le_of_ble_eq_true rfl) ?_
  have bp672194 := gB_any p672194
  refine G_ldcK (a := D.2 1000 42) dr_cX17_operation_0 (fun _ _ _ h => gx_vk 42 rfl rfl h) ?_
  have hl42_672200 : (sb_42.length : Int) = 34 := rfl
  refine G_new [.null, .int 0, .int 0, .int 0] dr_cX17_operation_2 (gk_J4 D I) wr_7_43 wr_7_44 wr_1_20 (gfs_J4) (show 0 + 1 ≤ 8 by first | omega | decide) (show 0 + 4 ≤ 64 by first | omega | decide) (fun q672202 => Gp_in (fun P672203 F672204 hq672205 hP672206 e672207 n672208 => ?_))
  refine G_widen (cs' := 1) (sl' := 4) (by omega) (by omega) ?_
  have he672209 : F672204 q672192 = .inr (0, [.ref q672193, .int 0, .int p672194, .int p672195]) := (n672208 q672192 (fun h => hq672205 (h ▸ hmq672192))).trans heq672192
  have he672210 : F672204 q672193 = .inl (I .byte, n672197, .inl f672196) := (n672208 q672193 (fun h => hq672205 (h ▸ hmq672193))).trans heq672193
  have he672211 : F672204 q672202 = .inr (1, [.null, .int 0, .int 0, .int 0]) := e672207
  have hm672212 : q672192 ∈ P672203 := (hP672206 q672192).mpr (Or.inl hmq672192)
  have hm672213 : q672193 ∈ P672203 := (hP672206 q672193).mpr (Or.inl hmq672193)
  have hm672214 : q672202 ∈ P672203 := (hP672206 q672202).mpr (Or.inr rfl)
  have hq672215 : q672202 ∉ P672190 := fun z => hq672205 ((rSub_rf (P := P672190)) q672202 z)
  have hfr672216 : rFr [] P672190 F672191 F672204 := rFr_new (rSub_rf (P := P672190)) hq672205 (rFr_rf (W := []) (P := P672190) (F := F672191)) n672208
  have hsb672217 : rSub P672190 P672203 := rSub_new (rSub_rf (P := P672190)) hP672206
  refine G_dup dr_cX17_operation_5 rfl ?_
  refine Gw_callI (As := []) (gV_ok D I) (cp_656210_StringBuilder_init l hl0 D I P672203 F672204 q672202 0 0 hm672214 he672211 (gB_w (gBl (show Int32.toInt 0 = 0 by decide)) (by decide) (by decide)) (gB_w (gBl (show Int32.toInt 0 = 0 by decide)) (by decide) (by decide))) dr_cX17_operation_6 ⟨wr_7_45, wr_1_20, wr_7_47, by decide, rfl, (Nat.le_of_ble_eq_true rfl), (Nat.le_of_ble_eq_true rfl)⟩ wr_7_46 rfl (show 1 + 1 ≤ 8 by first | omega | decide) (show 4 + 16 ≤ 64 by first | omega | decide) (Nat.le_of_ble_eq_true rfl) (fun r672221 w672222 dc672218 ds672219 hp672220 => ?_)
  obtain ⟨P672224, F672225, q672223, rfl, rfl, hsb672226, hfr672227, he672228, he672229, hm672230, hq672231, hdc, hds⟩ := hp672220
  have hm672232 : q672192 ∈ P672224 := hsb672226 q672192 hm672212
  have hm672233 : q672193 ∈ P672224 := hsb672226 q672193 hm672213
  have hm672234 : q672202 ∈ P672224 := hsb672226 q672202 hm672214
  have hq672235 : q672223 ∉ P672190 := fun z => hq672231 (hsb672217 q672223 z)
  have hsb672236 : rSub P672190 P672224 := rSub_tr hsb672217 hsb672226
  have he672237 : F672225 q672192 = .inr (0, [.ref q672193, .int 0, .int p672194, .int p672195]) := (hfr672227 q672192 hm672212 (nm_c (fun h => hq672215 (h ▸ hmq672192)) nm_n)).trans he672209
  have he672238 : F672225 q672193 = .inl (I .byte, n672197, .inl f672196) := (hfr672227 q672193 hm672213 (nm_c (fun h => hq672215 (h ▸ hmq672193)) nm_n)).trans he672210
  have hfr672239 : rFr [] P672190 F672191 F672225 := rFr_call hsb672217 hfr672216 hfr672227 (fun b hb hn => ⟨nm_n, (nm_c (fun e => hq672215 (e ▸ hb)) nm_n)⟩)
  change G _ _ _ _ _ _ _ _ _ _ _
  refine G_widen (cs' := 2) (sl' := 20) (by omega) (by omega) ?_
  refine G_ldcK (a := D.2 1000 43) dr_cX17_operation_9 (fun _ _ _ h => gx_vk 43 rfl rfl h) ?_
  have hl43_672239 : (sb_43.length : Int) = 1 := rfl
  refine Gw_callV (As := [.ref (D.2 1000 43)]) (gV_ok D I) (cp_656512_StringBuilder_append l hl0 D I P672224 F672225 q672202 q672223 (D.2 1000 43) (D.2 1001 43) sb_43 0 0 (fun _ => 0) 16 hm672234 hm672230 he672228 he672229 (gx_sc 43 rfl rfl) (by omega) (by decide +kernel) (gB_w (gBl (show Int32.toInt 0 = 0 by decide)) (by decide) (by decide)) (gB_w (gBl (show Int32.toInt 0 = 0 by decide)) (by decide) (by decide)) (gF_w gF_0 (by decide) (by decide)) (by have qa0 : Int32.toInt 0 = 0 := (by decide); omega) (by have qa0 : Int32.toInt 0 = 0 := (by decide); omega)) dr_cX17_operation_11 ⟨wr_10_100, wr_1_20, wr_8_143, by decide, rfl, (Nat.le_of_ble_eq_true rfl), (Nat.le_of_ble_eq_true rfl)⟩ wr_8_141 wr_8_142 hm672234 he672228 rfl (show 2 + 0 ≤ 8 by first | omega | decide) (show 20 + 0 ≤ 64 by first | omega | decide) (Nat.le_of_ble_eq_true rfl) (fun r672244 w672245 dc672241 ds672242 hp672243 => ?_) (fun _ _ _ _ _ z => z.elim)
  obtain ⟨F672252, o672246, f672247, rfl, rfl, hfr672254, he672255, he672256, hdc, hds, bo672246, bf672247, x672248, x672249, x672250, ht672251⟩ := hp672243
  have he672257 : F672252 q672192 = .inr (0, [.ref q672193, .int 0, .int p672194, .int p672195]) := (hfr672254 q672192 hm672232 (nm_c (fun h => hq672215 (h ▸ hmq672192)) (nm_c (fun h => hq672235 (h ▸ hmq672192)) nm_n))).trans he672237
  have he672258 : F672252 q672193 = .inl (I .byte, n672197, .inl f672196) := (hfr672254 q672193 hm672233 (nm_c (fun h => hq672215 (h ▸ hmq672193)) (nm_c (fun h => hq672235 (h ▸ hmq672193)) nm_n))).trans he672238
  have hfr672259 : rFr [] P672190 F672191 F672252 := rFr_call hsb672236 hfr672239 hfr672254 (fun b hb hn => ⟨nm_n, (nm_c (fun e => hq672215 (e ▸ hb)) (nm_c (fun e => hq672235 (e ▸ hb)) nm_n))⟩)
  rw [show Int32.toInt 0 = 0 from by decide] at x672248
  rw [show Int32.toInt 0 = 0 from by decide] at x672249
  rw [show Int32.toInt 0 = 0 from by decide] at x672250
  change G _ _ _ _ _ _ _ (.ref q672202 :: _) _ _ _
  refine G_widen (cs' := 2) (sl' := 20) (by omega) (by omega) ?_
  refine G_aload_n 0 dr_cX17_operation_14 rfl ?_
  refine Gw_callV (As := [.ref q672192]) (gV_ok D I) (cp_656284_StringBuilder_append l hl0 D I P672224 F672252 q672202 q672192 q672223 q672193 0 o672246 p672194 p672195 f672247 16 f672196 n672197 hm672234 hm672232 hm672230 hm672233 he672255 he672257 he672256 he672258 (fun h => hq672235 (h ▸ hmq672193)) (gB_w (gBl (show Int32.toInt 0 = 0 by decide)) (by decide) (by decide)) bo672246 bp672195 bf672247 bf672196 (by have qa0 : Int32.toInt 0 = 0 := (by decide); omega) (by have qa0 : Int32.toInt 0 = 0 := (by decide); omega) (by have qa0 : Int32.toInt 0 = 0 := (by decide); omega)) dr_cX17_operation_15 ⟨wr_10_100, wr_1_20, wr_8_143, by decide, rfl, (Nat.le_of_ble_eq_true rfl), (Nat.le_of_ble_eq_true rfl)⟩ wr_8_141 wr_8_142 hm672234 he672255 rfl (show 2 + 0 ≤ 8 by first | omega | decide) (show 20 + 0 ≤ 64 by first | omega | decide) (Nat.le_of_ble_eq_true rfl) (fun r672263 w672264 dc672260 ds672261 hp672262 => ?_) (fun _ _ _ _ _ z => z.elim)
  obtain ⟨F672271, o672265, f672266, rfl, rfl, hfr672273, he672274, he672275, he672276, he672277, hdc, hds, bo672265, bf672266, x672267, x672268, x672269, ht672270⟩ := hp672262
  have hfr672278 : rFr [] P672190 F672191 F672271 := rFr_call hsb672236 hfr672259 hfr672273 (fun b hb hn => ⟨nm_n, (nm_c (fun e => hq672215 (e ▸ hb)) (nm_c (fun e => hq672235 (e ▸ hb)) nm_n))⟩)
  change G _ _ _ _ _ _ _ (.ref q672202 :: _) _ _ _
  refine G_widen (cs' := 2) (sl' := 20) (by omega) (by omega) ?_
  refine G_ldcK (a := D.2 1000 43) dr_cX17_operation_18 (fun _ _ _ h => gx_vk 43 rfl rfl h) ?_
  have hl43_672278 : (sb_43.length : Int) = 1 := rfl
  refine Gw_callV (As := [.ref (D.2 1000 43)]) (gV_ok D I) (cp_656512_StringBuilder_append l hl0 D I P672224 F672271 q672202 q672223 (D.2 1000 43) (D.2 1001 43) sb_43 0 o672265 f672266 16 hm672234 hm672230 he672274 he672276 (gx_sc 43 rfl rfl) (by omega) (by decide +kernel) (gB_w (gBl (show Int32.toInt 0 = 0 by decide)) (by decide) (by decide)) bo672265 bf672266 (by have qa0 : Int32.toInt 0 = 0 := (by decide); omega) (by have qa0 : Int32.toInt 0 = 0 := (by decide); omega)) dr_cX17_operation_20 ⟨wr_10_100, wr_1_20, wr_8_143, by decide, rfl, (Nat.le_of_ble_eq_true rfl), (Nat.le_of_ble_eq_true rfl)⟩ wr_8_141 wr_8_142 hm672234 he672274 rfl (show 2 + 0 ≤ 8 by first | omega | decide) (show 20 + 0 ≤ 64 by first | omega | decide) (Nat.le_of_ble_eq_true rfl) (fun r672283 w672284 dc672280 ds672281 hp672282 => ?_) (fun _ _ _ _ _ z => z.elim)
  obtain ⟨F672291, o672285, f672286, rfl, rfl, hfr672293, he672294, he672295, hdc, hds, bo672285, bf672286, x672287, x672288, x672289, ht672290⟩ := hp672282
  have he672296 : F672291 q672192 = .inr (0, [.ref q672193, .int 0, .int p672194, .int p672195]) := (hfr672293 q672192 hm672232 (nm_c (fun h => hq672215 (h ▸ hmq672192)) (nm_c (fun h => hq672235 (h ▸ hmq672192)) nm_n))).trans he672275
  have he672297 : F672291 q672193 = .inl (I .byte, n672197, .inl f672196) := (hfr672293 q672193 hm672233 (nm_c (fun h => hq672215 (h ▸ hmq672193)) (nm_c (fun h => hq672235 (h ▸ hmq672193)) nm_n))).trans he672277
  have hfr672298 : rFr [] P672190 F672191 F672291 := rFr_call hsb672236 hfr672278 hfr672293 (fun b hb hn => ⟨nm_n, (nm_c (fun e => hq672215 (e ▸ hb)) (nm_c (fun e => hq672235 (e ▸ hb)) nm_n))⟩)
  change G _ _ _ _ _ _ _ (.ref q672202 :: _) _ _ _
  refine G_widen (cs' := 2) (sl' := 20) (by omega) (by omega) ?_
  refine Gw_callV (As := []) (gV_ok D I) (cp_656985_StringBuilder_toString l hl0 D I P672224 F672291 q672202 q672223 0 o672285 f672286 16 hm672234 hm672230 he672294 he672295 (gB_w (gBl (show Int32.toInt 0 = 0 by decide)) (by decide) (by decide)) bo672285 bf672286 (by have qa0 : Int32.toInt 0 = 0 := (by decide); omega) (by have qa0 : Int32.toInt 0 = 0 := (by decide); omega)) dr_cX17_operation_23 ⟨wr_10_101, wr_1_20, wr_8_69, by decide, rfl, (Nat.le_of_ble_eq_true rfl), (Nat.le_of_ble_eq_true rfl)⟩ wr_8_67 wr_8_68 hm672234 he672294 rfl (show 2 + 2 ≤ 8 by first | omega | decide) (show 20 + (o672285.toInt.toNat + 4) ≤ 64 by first | omega | decide) (Nat.le_of_ble_eq_true rfl) (fun r672302 w672303 dc672299 ds672300 hp672301 => ?_) (fun _ _ _ _ _ z => z.elim)
  obtain ⟨P672311, F672312, q672304, q672305, n672306, f672307, rfl, rfl, hsb672313, hfr672314, he672315, he672316, he672317, he672318, hm672319, hq672320, hm672321, hq672322, hdc, hds, bf672307, x672308, x672309, ht672310⟩ := hp672301
  have hm672323 : q672192 ∈ P672311 := hsb672313 q672192 hm672232
  have hm672324 : q672193 ∈ P672311 := hsb672313 q672193 hm672233
  have hm672325 : q672202 ∈ P672311 := hsb672313 q672202 hm672234
  have hm672326 : q672223 ∈ P672311 := hsb672313 q672223 hm672230
  have hq672327 : q672304 ∉ P672190 := fun z => hq672320 (hsb672236 q672304 z)
  have hq672328 : q672305 ∉ P672190 := fun z => hq672322 (hsb672236 q672305 z)
  have hsb672329 : rSub P672190 P672311 := rSub_tr hsb672236 hsb672313
  have he672330 : F672312 q672192 = .inr (0, [.ref q672193, .int 0, .int p672194, .int p672195]) := (hfr672314 q672192 hm672232 nm_n).trans he672296
  have he672331 : F672312 q672193 = .inl (I .byte, n672197, .inl f672196) := (hfr672314 q672193 hm672233 nm_n).trans he672297
  have hfr672332 : rFr [] P672190 F672191 F672312 := rFr_call hsb672236 hfr672298 hfr672314 (fun b hb hn => ⟨nm_n, nm_n⟩)
  have hne672333 : q672223 ≠ q672305 := fun h => hq672322 (h ▸ hm672230)
  change G _ _ _ _ _ _ _ (.ref q672304 :: _) _ _ _
  refine G_widen (cs' := 4) (sl' := 20 + (o672285.toInt.toNat + 4)) (by omega) (by omega) ?_
  refine Gw_callVk (As := [.ref q672304]) (gV_ok D I) (cp_657444_String_indexOf l hl0 D I P672311 F672312 q672304 q672305 (D.2 1000 42) (D.2 1001 42) sb_42 0 0 f672307 n672306 hm672319 hm672321 he672315 he672318 (gx_sc 42 rfl rfl) (by omega) (by decide +kernel) (gB_w (gBl (show Int32.toInt 0 = 0 by decide)) (by decide) (by decide)) bf672307 (by have qa0 : Int32.toInt 0 = 0 := (by decide); omega) (by have qa0 : Int32.toInt 0 = 0 := (by decide); omega)) dr_cX17_operation_26 ⟨wr_10_102, wr_1_21, wr_8_199, by decide, rfl, (Nat.le_of_ble_eq_true rfl), (Nat.le_of_ble_eq_true rfl)⟩ wr_8_197 wr_8_198 (fun _ _ _ h => ((gx_sc 42 rfl rfl) _ _ _ h).1) (show 4 + 0 ≤ 8 by first | omega | decide) (show 20 + (o672285.toInt.toNat + 4) + 0 ≤ 64 by first | omega | decide) (Nat.le_of_ble_eq_true rfl) (fun r672337 w672338 dc672334 ds672335 hp672336 => ?_) (fun _ _ _ _ _ z => z.elim)
  obtain ⟨o672339, rfl, rfl, hdc, hds, bo672339, x672340, x672341, ht672342⟩ := hp672336
  change G _ _ _ _ _ _ _ (.int o672339 :: _) _ _ _
  refine G_widen (cs' := 4) (sl' := 20 + (o672285.toInt.toNat + 4) + 0) (by omega) (by omega) ?_
  refine G_istore_n (L' := [(1, .int o672339), (0, .ref q672192)]) dr_cX17_operation_29 (Nat.le_of_ble_eq_true rfl) rfl ?_
  refine G_iload_n 0 dr_cX17_operation_30 rfl ?_
  refine G_if_ge 36 dr_cX17_operation_31 (by decide +kernel) (fun hc672343 => ?_) (fun hc672343 => ?_)
  · have r672344 : 0 ≤ o672339.toInt := gj_leL hc672343 (show Int32.toInt 0 = 0 by decide)
    have bo672339' : gB o672339 0 16777215 := ⟨by omega, by omega⟩
    have x672345 : o672339.toInt ≤ 30 := opA x672250 x672268 x672288 x672309 x672341 (by omega) (by omega) rfl (by omega) (by omega) (by omega) (by omega) (by omega)
    refine G_iconst 1 dr_cX17_operation_36 (by decide +kernel) ?_
    refine G_istore_n (L' := [(2, .int 1), (1, .int o672339), (0, .ref q672192)]) dr_cX17_operation_37 (Nat.le_of_ble_eq_true rfl) rfl ?_
    refine G_iconst 0 dr_cX17_operation_38 (by decide +kernel) ?_
    refine G_istore_n (L' := [(3, .int 0), (2, .int 1), (1, .int o672339), (0, .ref q672192)]) dr_cX17_operation_39 (Nat.le_of_ble_eq_true rfl) rfl ?_
    have hlp40_672530 : ∀ (n40_672530 : Nat) (g672527 : Int32) (g672528 : Int32), gB g672527 0 16777215 → opI g672527 g672528 → g672527.toInt ≤ o672339.toInt → (∀ (k : Nat) (e1 : Int32), tl_RModel_operation_40 o672339 g672527 g672528 k e1 → tl_RModel_operation_40 o672339 (0 : Int32) (1 : Int32) k e1) → ((16777216 : Int) - g672527.toInt).toNat < n40_672530 → G (gV D I) l (gRm 6 132 8 64) (gMA (gV D I) (pp_672200_SpillForgeModel_operation D I P672190 F672191 q672192 q672193 p672194 p672195 f672196 n672197) gNA 8 64) ky_672200_SpillForgeModel_operation 40 [(3, .int g672527), (2, .int g672528), (1, .int o672339), (0, .ref q672192)] [] (va_pl P672311 F672312) 4 (20 + (o672285.toInt.toNat + 4) + 0) := by
      intro n40_672530
      induction n40_672530 with
      | zero => intro g672527 g672528 bg672527 x672529 x672530 kt40_672530 hm40_672530; exact absurd hm40_672530 (Nat.not_lt_zero _)
      | succ n40_672530 ih40_672530 =>
        intro g672527 g672528 bg672527 x672529 x672530 kt40_672530 hm40_672530
        have bg672528 := gB_any g672528
        refine G_iload_n 0 dr_cX17_operation_40 rfl ?_
        refine G_iload_n 2 dr_cX17_operation_41 rfl ?_
        refine G_icmp_ge 70 dr_cX17_operation_42 (by decide +kernel) (fun hc672531 => ?_) (fun hc672531 => ?_)
        · have r672532 : o672339.toInt ≤ g672527.toInt := gC_le hc672531
          have hx672533 : tl_RModel_operation_40 o672339 (0 : Int32) (1 : Int32) 70 g672528 := kt40_672530 70 g672528 (fun R c1 c2 c3 => c1 g672527 g672528 bg672527 r672532)
          have bx672534 : gB g672528 1 14 := opI_b x672529 (by omega)
          refine G_iload_n 1 dr_cX17_operation_70 rfl ?_
          exact G_iretA dr_cX17_operation_71 rfl (Nat.le_of_ble_eq_true rfl) (show 20 + (o672285.toInt.toNat + 4) + 0 ≤ 64 by omega) ⟨P672311, F672312, g672528, rfl, rfl, hsb672329, hfr672332, he672330, he672331, (Nat.le_of_ble_eq_true rfl), (by omega), (gB_w bx672534 (by decide) (by decide)), (by have qa0 : Int32.toInt 0 = 0 := (by decide); omega), (by have qa0 : Int32.toInt 0 = 0 := (by decide); omega), (fun R c1 c2 => c1 o672246 f672247 o672265 f672266 o672285 f672286 n672306 f672307 o672339 g672528 bo672246 ht672251 bo672265 ht672270 bo672285 ht672290 ht672310 bo672339 ht672342 r672344 hx672533)⟩
        · have r672535 : g672527.toInt < o672339.toInt := gC_nle hc672531
          have bg672527' : gB g672527 0 16777214 := ⟨by omega, by omega⟩
          have bo672339'' : gB o672339 1 16777215 := ⟨by omega, by omega⟩
          have bx672536 : gB g672528 1 14 := opI_b x672529 (by omega)
          refine G_iload_n 1 dr_cX17_operation_45 rfl ?_
          refine G_ldcK (a := D.2 1000 42) dr_cX17_operation_46 (fun _ _ _ h => gx_vk 42 rfl rfl h) ?_
          have hl42_672536 : (sb_42.length : Int) = 34 := rfl
          refine G_iload_n 0 dr_cX17_operation_48 rfl ?_
          refine Gw_callVk (As := [.int g672527]) (gV_ok D I) (cp_672357_String_charAt l hl0 D I P672311 F672312 (D.2 1000 42) (D.2 1001 42) sb_42 g672527 (gx_sc 42 rfl rfl) (by omega) (by decide +kernel) ⟨by omega, by omega⟩ (by have qa0 : Int32.toInt 0 = 0 := (by decide); omega)) dr_cX17_operation_49 ⟨wr_10_103, wr_1_21, wr_3_70, by decide, rfl, (Nat.le_of_ble_eq_true rfl), (Nat.le_of_ble_eq_true rfl)⟩ wr_3_68 wr_3_69 (fun _ _ _ h => ((gx_sc 42 rfl rfl) _ _ _ h).1) (show 4 + 0 ≤ 8 by first | omega | decide) (show 20 + (o672285.toInt.toNat + 4) + 0 + 0 ≤ 64 by first | omega | decide) (Nat.le_of_ble_eq_true rfl) (fun r672541 w672542 dc672538 ds672539 hp672540 => ?_) (fun _ _ _ _ _ z => z.elim)
          obtain ⟨o672543, rfl, rfl, hdc, hds, bo672543, x672544, ht672545⟩ := hp672540
          change G _ _ _ _ _ _ _ (.int o672543 :: _) _ _ _
          refine G_widen (cs' := 4) (sl' := 20 + (o672285.toInt.toNat + 4) + 0 + 0) (by omega) (by omega) ?_
          refine G_bipush 32 dr_cX17_operation_52 (by decide +kernel) ?_
          refine G_icmp_ne 61 dr_cX17_operation_54 (by decide +kernel) (fun hc672546 => ?_) (fun hc672546 => ?_)
          · have r672547 : o672543.toInt ≠ 32 := gj_neq hc672546 (show Int32.toInt 32 = 32 by decide)
            refine G_iconst 0 dr_cX17_operation_61 (by decide +kernel) ?_
            refine G_iadd dr_cX17_operation_62 (G_nam fun z672548 hz672548 => ?_)
            have ez672548 : z672548.toInt = g672528.toInt + 0 := by rw [gI_add hz672548 bx672536 (gBl (show Int32.toInt 0 = 0 by decide)) (by decide) (by decide), show Int32.toInt 0 = 0 from by decide]
            have bz672548 : gB z672548 1 14 := gB_add (gI_add hz672548 bx672536 (gBl (show Int32.toInt 0 = 0 by decide)) (by decide) (by decide)) bx672536 (gBl (show Int32.toInt 0 = 0 by decide)) (by decide) (by decide)
            refine G_istore_n (L' := [(2, .int z672548), (3, .int g672527), (1, .int o672339), (0, .ref q672192)]) dr_cX17_operation_63 (Nat.le_of_ble_eq_true rfl) rfl ?_
            obtain ⟨z672549, hz672549⟩ : ∃ z : Int32, z = g672527 + Int32.ofInt 1 := ⟨_, rfl⟩
            have ez672549 : z672549.toInt = g672527.toInt + 1 := gI_inc hz672549 (by decide) bg672527' (by decide) (by decide)
            have bz672549 : gB z672549 1 16777215 := ⟨by omega, by omega⟩
            refine G_iinc (L' := [(3, .int z672549), (2, .int z672548), (1, .int o672339), (0, .ref q672192)]) z672549 1 dr_cX17_operation_64 rfl hz672549.symm (Nat.le_of_ble_eq_true rfl) rfl ?_
            refine G_goto 40 dr_cX17_operation_67 (by decide +kernel) ?_
            exact ih40_672530 z672549 z672548 (gB_w bz672549 (by decide) (by decide)) (by have qa0 : Int32.toInt 0 = 0 := (by decide); have qa1 : Int32.toInt 1 = 1 := (by decide); first | exact opI_st (d := 1) x672529 (by omega) (by omega) (by omega) x672544 (Or.inl ⟨by omega, rfl⟩) | exact opI_st (d := 0) x672529 (by omega) (by omega) (by omega) x672544 (Or.inr ⟨by omega, rfl⟩)) (by have qa0 : Int32.toInt 0 = 0 := (by decide); omega) (fun k e1 ht => kt40_672530 k e1 (fun R c1 c2 c3 => c2 g672527 g672528 o672543 z672548 z672549 k e1 bg672527 r672535 bo672543 ht672545 r672547 ez672548 ez672549 (ht R c1 c2 c3))) (by have qa0 : Int32.toInt 0 = 0 := (by decide); omega)
          · have r672550 : o672543.toInt = 32 := gj_eq hc672546 (show Int32.toInt 32 = 32 by decide)
            have bo672543' : gB o672543 32 32 := ⟨by omega, by omega⟩
            refine G_iconst 1 dr_cX17_operation_57 (by decide +kernel) ?_
            refine G_goto 62 dr_cX17_operation_58 (by decide +kernel) ?_
            refine G_iadd dr_cX17_operation_62 (G_nam fun z672551 hz672551 => ?_)
            have ez672551 : z672551.toInt = g672528.toInt + 1 := by rw [gI_add hz672551 bx672536 (gBl (show Int32.toInt 1 = 1 by decide)) (by decide) (by decide), show Int32.toInt 1 = 1 from by decide]
            have bz672551 : gB z672551 2 15 := gB_add (gI_add hz672551 bx672536 (gBl (show Int32.toInt 1 = 1 by decide)) (by decide) (by decide)) bx672536 (gBl (show Int32.toInt 1 = 1 by decide)) (by decide) (by decide)
            refine G_istore_n (L' := [(2, .int z672551), (3, .int g672527), (1, .int o672339), (0, .ref q672192)]) dr_cX17_operation_63 (Nat.le_of_ble_eq_true rfl) rfl ?_
            obtain ⟨z672552, hz672552⟩ : ∃ z : Int32, z = g672527 + Int32.ofInt 1 := ⟨_, rfl⟩
            have ez672552 : z672552.toInt = g672527.toInt + 1 := gI_inc hz672552 (by decide) bg672527' (by decide) (by decide)
            have bz672552 : gB z672552 1 16777215 := ⟨by omega, by omega⟩
            refine G_iinc (L' := [(3, .int z672552), (2, .int z672551), (1, .int o672339), (0, .ref q672192)]) z672552 1 dr_cX17_operation_64 rfl hz672552.symm (Nat.le_of_ble_eq_true rfl) rfl ?_
            refine G_goto 40 dr_cX17_operation_67 (by decide +kernel) ?_
            exact ih40_672530 z672552 z672551 (gB_w bz672552 (by decide) (by decide)) (by have qa0 : Int32.toInt 0 = 0 := (by decide); have qa1 : Int32.toInt 1 = 1 := (by decide); first | exact opI_st (d := 1) x672529 (by omega) (by omega) (by omega) x672544 (Or.inl ⟨by omega, rfl⟩) | exact opI_st (d := 0) x672529 (by omega) (by omega) (by omega) x672544 (Or.inr ⟨by omega, rfl⟩)) (by have qa0 : Int32.toInt 0 = 0 := (by decide); omega) (fun k e1 ht => kt40_672530 k e1 (fun R c1 c2 c3 => c3 g672527 g672528 o672543 z672551 z672552 k e1 bg672527 r672535 bo672543 ht672545 r672550 ez672551 ez672552 (ht R c1 c2 c3))) (by have qa0 : Int32.toInt 0 = 0 := (by decide); omega)
    exact hlp40_672530 (((16777216 : Int) - 0).toNat + 1) 0 1 (gB_w (gBl (show Int32.toInt 0 = 0 by decide)) (by decide) (by decide)) opI_0 (by have qa0 : Int32.toInt 0 = 0 := (by decide); have qa1 : Int32.toInt 1 = 1 := (by decide); omega) (fun k e1 ht => ht) (Nat.lt_succ_self _)
  · have r672553 : o672339.toInt < 0 := gj_nleL hc672343 (show Int32.toInt 0 = 0 by decide)
    have bo672339' : gB o672339 (-2147483646) (-1) := ⟨by omega, by omega⟩
    refine G_iconst 0 dr_cX17_operation_34 (by decide +kernel) ?_
    exact G_iretA dr_cX17_operation_35 rfl (Nat.le_of_ble_eq_true rfl) (show 20 + (o672285.toInt.toNat + 4) + 0 ≤ 64 by omega) ⟨P672311, F672312, 0, rfl, rfl, hsb672329, hfr672332, he672330, he672331, (Nat.le_of_ble_eq_true rfl), (by omega), (gB_w (gBl (show Int32.toInt 0 = 0 by decide)) (by decide) (by decide)), (by have qa0 : Int32.toInt 0 = 0 := (by decide); omega), (by have qa0 : Int32.toInt 0 = 0 := (by decide); omega), (fun R c1 c2 => c2 o672246 f672247 o672265 f672266 o672285 f672286 n672306 f672307 o672339 bo672246 ht672251 bo672265 ht672270 bo672285 ht672290 ht672310 bo672339 ht672342 r672553)⟩
/- tr_RArrays_copyOf4: a.2.[] -/
def tr_RArrays_copyOf4 (a1 : Int32) (a0_v : Nat → Int32) (a0_n : Nat) (o1 : Nat → Int32) : Prop := ∀ R : (Nat → Int32) → Prop,
  (∀ (x1 : Int32) (x2 : Int32) (x3 : Int32) (x4 : Nat → Int32), x1.toInt = (a0_n : Nat) → a1.toInt ≠ x1.toInt → x2.toInt = (a0_n : Nat) → (x2.toInt ≥ x3.toInt ∧ a1.toInt ≥ x3.toInt ∧ (x3.toInt = x2.toInt ∨ x3.toInt = a1.toInt)) → (x4 = va_cpy a0_v (fun _ => 0) (0 : Int32).toNatClampNeg (0 : Int32).toNatClampNeg x3.toNatClampNeg) → R x4) →
  R o1
