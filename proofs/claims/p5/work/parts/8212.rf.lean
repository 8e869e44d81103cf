theorem dr_cX14_breaks_0 : decode cX14_breaks 0 = .ok (.aload_n 0, 1) := by decide +kernel
theorem dr_cX14_breaks_1 : decode cX14_breaks 1 = .ok (.getfield 17, 3) := by decide +kernel
theorem wr_9_40 : (Jvm.Cond.fieldLink "SpillForgeModel$Reader" (17 : Nat) "SpillForgeModel$Reader" "rulePlace" "I") ∈ gw := gw_9 40 rfl rfl
theorem dr_cX14_breaks_4 : decode cX14_breaks 4 = .ok (.ifCond .lt 27, 3) := by decide +kernel
theorem dr_cX14_breaks_31 : decode cX14_breaks 31 = .ok (.aload_n 0, 1) := by decide +kernel
theorem dr_cX14_breaks_32 : decode cX14_breaks 32 = .ok (.iload_n 2, 1) := by decide +kernel
theorem dr_cX14_breaks_33 : decode cX14_breaks 33 = .ok (.putfield 17, 3) := by decide +kernel
theorem dr_cX14_breaks_36 : decode cX14_breaks 36 = .ok (.aload_n 0, 1) := by decide +kernel
theorem dr_cX14_breaks_37 : decode cX14_breaks 37 = .ok (.iload_n 1, 1) := by decide +kernel
theorem dr_cX14_breaks_38 : decode cX14_breaks 38 = .ok (.putfield 140, 3) := by decide +kernel
theorem wr_9_42 : (Jvm.Cond.fieldLink "SpillForgeModel$Reader" (140 : Nat) "SpillForgeModel$Reader" "rule" "I") ∈ gw := gw_9 42 rfl rfl
theorem dr_cX14_breaks_41 : decode cX14_breaks 41 = .ok (.return_, 1) := by decide +kernel
theorem dr_cX14_breaks_7 : decode cX14_breaks 7 = .ok (.iload_n 2, 1) := by decide +kernel
theorem dr_cX14_breaks_8 : decode cX14_breaks 8 = .ok (.aload_n 0, 1) := by decide +kernel
theorem dr_cX14_breaks_9 : decode cX14_breaks 9 = .ok (.getfield 17, 3) := by decide +kernel
theorem dr_cX14_breaks_12 : decode cX14_breaks 12 = .ok (.if_icmp .lt 19, 3) := by decide +kernel
theorem dr_cX14_breaks_15 : decode cX14_breaks 15 = .ok (.iload_n 2, 1) := by decide +kernel
theorem dr_cX14_breaks_16 : decode cX14_breaks 16 = .ok (.aload_n 0, 1) := by decide +kernel
theorem dr_cX14_breaks_17 : decode cX14_breaks 17 = .ok (.getfield 17, 3) := by decide +kernel
theorem dr_cX14_breaks_20 : decode cX14_breaks 20 = .ok (.if_icmp .ne 21, 3) := by decide +kernel
theorem dr_cX14_breaks_23 : decode cX14_breaks 23 = .ok (.iload_n 1, 1) := by decide +kernel
theorem dr_cX14_breaks_24 : decode cX14_breaks 24 = .ok (.aload_n 0, 1) := by decide +kernel
theorem dr_cX14_breaks_25 : decode cX14_breaks 25 = .ok (.getfield 140, 3) := by decide +kernel
theorem dr_cX14_breaks_28 : decode cX14_breaks 28 = .ok (.if_icmp .ge 13, 3) := by decide +kernel
theorem dr_cX14_operand_0 : decode cX14_operand 0 = .ok (.aload_n 0, 1) := by decide +kernel
theorem dr_cX14_operand_1 : decode cX14_operand 1 = .ok (.getfield 38, 3) := by decide +kernel
theorem dr_cX14_operand_4 : decode cX14_operand 4 = .ok (.iconst 2, 1) := by decide +kernel
theorem dr_cX14_operand_5 : decode cX14_operand 5 = .ok (.if_icmp .ne 7, 3) := by decide +kernel
theorem dr_cX14_operand_12 : decode cX14_operand 12 = .ok (.iconst 0, 1) := by decide +kernel
theorem dr_cX14_operand_13 : decode cX14_operand 13 = .ok (.istore_n 3, 1) := by decide +kernel
theorem dr_cX14_operand_14 : decode cX14_operand 14 = .ok (.iload_n 3, 1) := by decide +kernel
theorem dr_cX14_operand_15 : decode cX14_operand 15 = .ok (.ifCond .ne 16, 3) := by decide +kernel
theorem dr_cX14_operand_18 : decode cX14_operand 18 = .ok (.aload_n 0, 1) := by decide +kernel
theorem dr_cX14_operand_19 : decode cX14_operand 19 = .ok (.getfield 38, 3) := by decide +kernel
theorem dr_cX14_operand_22 : decode cX14_operand 22 = .ok (.iconst 4, 1) := by decide +kernel
theorem dr_cX14_operand_23 : decode cX14_operand 23 = .ok (.if_icmp .eq 8, 3) := by decide +kernel
theorem dr_cX14_operand_31 : decode cX14_operand 31 = .ok (.iload_n 2, 1) := by decide +kernel
theorem dr_cX14_operand_32 : decode cX14_operand 32 = .ok (.ifCond .eq 19, 3) := by decide +kernel
theorem dr_cX14_operand_51 : decode cX14_operand 51 = .ok (.aload_n 1, 1) := by decide +kernel
theorem dr_cX14_operand_52 : decode cX14_operand 52 = .ok (.aload_n 0, 1) := by decide +kernel
theorem dr_cX14_operand_53 : decode cX14_operand 53 = .ok (.getfield 80, 3) := by decide +kernel
theorem dr_cX14_operand_56 : decode cX14_operand 56 = .ok (.putfield 214, 3) := by decide +kernel
theorem wr_9_183 : (Jvm.Cond.fieldLink "SpillForgeModel$Reader" (214 : Nat) "SpillForgeModel$Row" "a" "I") ∈ gw := gw_9 183 rfl rfl
theorem dr_cX14_operand_59 : decode cX14_operand 59 = .ok (.aload_n 1, 1) := by decide +kernel
theorem dr_cX14_operand_60 : decode cX14_operand 60 = .ok (.iload_n 3, 1) := by decide +kernel
theorem dr_cX14_operand_61 : decode cX14_operand 61 = .ok (.putfield 217, 3) := by decide +kernel
theorem wr_9_194 : (Jvm.Cond.fieldLink "SpillForgeModel$Reader" (217 : Nat) "SpillForgeModel$Row" "regA" "Z") ∈ gw := gw_9 194 rfl rfl
theorem dr_cX14_operand_64 : decode cX14_operand 64 = .ok (.aload_n 0, 1) := by decide +kernel
theorem dr_cX14_operand_65 : decode cX14_operand 65 = .ok (.invokevirtual 35, 3) := by decide +kernel
theorem dr_cX14_operand_68 : decode cX14_operand 68 = .ok (.return_, 1) := by decide +kernel
theorem dr_cX14_operand_35 : decode cX14_operand 35 = .ok (.aload_n 1, 1) := by decide +kernel
theorem dr_cX14_operand_36 : decode cX14_operand 36 = .ok (.aload_n 0, 1) := by decide +kernel
theorem dr_cX14_operand_37 : decode cX14_operand 37 = .ok (.getfield 80, 3) := by decide +kernel
theorem dr_cX14_operand_40 : decode cX14_operand 40 = .ok (.putfield 205, 3) := by decide +kernel
theorem wr_9_187 : (Jvm.Cond.fieldLink "SpillForgeModel$Reader" (205 : Nat) "SpillForgeModel$Row" "b" "I") ∈ gw := gw_9 187 rfl rfl
theorem dr_cX14_operand_43 : decode cX14_operand 43 = .ok (.aload_n 1, 1) := by decide +kernel
theorem dr_cX14_operand_44 : decode cX14_operand 44 = .ok (.iload_n 3, 1) := by decide +kernel
theorem dr_cX14_operand_45 : decode cX14_operand 45 = .ok (.putfield 210, 3) := by decide +kernel
theorem wr_9_197 : (Jvm.Cond.fieldLink "SpillForgeModel$Reader" (210 : Nat) "SpillForgeModel$Row" "regB" "Z") ∈ gw := gw_9 197 rfl rfl
theorem dr_cX14_operand_48 : decode cX14_operand 48 = .ok (.goto 16, 3) := by decide +kernel
theorem dr_cX14_operand_26 : decode cX14_operand 26 = .ok (.aload_n 0, 1) := by decide +kernel
theorem dr_cX14_operand_27 : decode cX14_operand 27 = .ok (.invokevirtual 136, 3) := by decide +kernel
theorem dr_cX14_operand_30 : decode cX14_operand 30 = .ok (.athrow, 1) := by decide +kernel
theorem dr_cX14_operand_8 : decode cX14_operand 8 = .ok (.iconst 1, 1) := by decide +kernel
theorem dr_cX14_operand_9 : decode cX14_operand 9 = .ok (.goto 4, 3) := by decide +kernel
theorem dr_cX17_operation_0 : decode cX17_operation 0 = .ok (.ldc 3, 2) := by decide +kernel
theorem dr_cX17_operation_2 : decode cX17_operation 2 = .ok (.new 5, 3) := by decide +kernel
theorem wr_7_43 : (Jvm.Cond.classLink "SpillForgeModel" (5 : Nat) "java/lang/StringBuilder") ∈ gw := gw_7 43 rfl rfl
theorem dr_cX17_operation_5 : decode cX17_operation 5 = .ok (.dup, 1) := by decide +kernel
theorem dr_cX17_operation_6 : decode cX17_operation 6 = .ok (.invokespecial 7, 3) := by decide +kernel
theorem wr_7_45 : (Jvm.Cond.methodLink "SpillForgeModel" (7 : Nat) ({ cls := "java/lang/StringBuilder", name := "<init>", desc := "()V" } : Jvm.MethodName)) ∈ gw := gw_7 45 rfl rfl
theorem dr_cX17_operation_9 : decode cX17_operation 9 = .ok (.ldc 11, 2) := by decide +kernel
theorem dr_cX17_operation_11 : decode cX17_operation 11 = .ok (.invokevirtual 13, 3) := by decide +kernel
theorem wr_10_96 : (Jvm.Cond.methodLink "SpillForgeModel" (13 : Nat) ({ cls := "java/lang/StringBuilder", name := "append", desc := "(Ljava/lang/String;)Ljava/lang/StringBuilder;" } : Jvm.MethodName)) ∈ gw := gw_10 96 rfl rfl
theorem dr_cX17_operation_14 : decode cX17_operation 14 = .ok (.aload_n 0, 1) := by decide +kernel
theorem dr_cX17_operation_15 : decode cX17_operation 15 = .ok (.invokevirtual 13, 3) := by decide +kernel
theorem dr_cX17_operation_18 : decode cX17_operation 18 = .ok (.ldc 11, 2) := by decide +kernel
theorem dr_cX17_operation_20 : decode cX17_operation 20 = .ok (.invokevirtual 13, 3) := by decide +kernel
theorem dr_cX17_operation_23 : decode cX17_operation 23 = .ok (.invokevirtual 17, 3) := by decide +kernel
theorem wr_10_97 : (Jvm.Cond.methodLink "SpillForgeModel" (17 : Nat) ({ cls := "java/lang/StringBuilder", name := "toString", desc := "()Ljava/lang/String;" } : Jvm.MethodName)) ∈ gw := gw_10 97 rfl rfl
theorem dr_cX17_operation_26 : decode cX17_operation 26 = .ok (.invokevirtual 21, 3) := by decide +kernel
theorem wr_10_98 : (Jvm.Cond.methodLink "SpillForgeModel" (21 : Nat) ({ cls := "java/lang/String", name := "indexOf", desc := "(Ljava/lang/String;)I" } : Jvm.MethodName)) ∈ gw := gw_10 98 rfl rfl
theorem dr_cX17_operation_29 : decode cX17_operation 29 = .ok (.istore_n 1, 1) := by decide +kernel
theorem dr_cX17_operation_30 : decode cX17_operation 30 = .ok (.iload_n 1, 1) := by decide +kernel
theorem dr_cX17_operation_31 : decode cX17_operation 31 = .ok (.ifCond .ge 5, 3) := by decide +kernel
theorem dr_cX17_operation_36 : decode cX17_operation 36 = .ok (.iconst 1, 1) := by decide +kernel
theorem dr_cX17_operation_37 : decode cX17_operation 37 = .ok (.istore_n 2, 1) := by decide +kernel
theorem dr_cX17_operation_38 : decode cX17_operation 38 = .ok (.iconst 0, 1) := by decide +kernel
theorem dr_cX17_operation_39 : decode cX17_operation 39 = .ok (.istore_n 3, 1) := by decide +kernel
theorem dr_cX17_operation_40 : decode cX17_operation 40 = .ok (.iload_n 3, 1) := by decide +kernel
theorem dr_cX17_operation_41 : decode cX17_operation 41 = .ok (.iload_n 1, 1) := by decide +kernel
theorem dr_cX17_operation_42 : decode cX17_operation 42 = .ok (.if_icmp .ge 28, 3) := by decide +kernel
theorem dr_cX17_operation_70 : decode cX17_operation 70 = .ok (.iload_n 2, 1) := by decide +kernel
theorem dr_cX17_operation_71 : decode cX17_operation 71 = .ok (.ireturn, 1) := by decide +kernel
theorem dr_cX17_operation_45 : decode cX17_operation 45 = .ok (.iload_n 2, 1) := by decide +kernel
theorem dr_cX17_operation_46 : decode cX17_operation 46 = .ok (.ldc 3, 2) := by decide +kernel
theorem dr_cX17_operation_48 : decode cX17_operation 48 = .ok (.iload_n 3, 1) := by decide +kernel
theorem dr_cX17_operation_49 : decode cX17_operation 49 = .ok (.invokevirtual 27, 3) := by decide +kernel
theorem wr_10_99 : (Jvm.Cond.methodLink "SpillForgeModel" (27 : Nat) ({ cls := "java/lang/String", name := "charAt", desc := "(I)C" } : Jvm.MethodName)) ∈ gw := gw_10 99 rfl rfl
theorem wr_3_70 : (Jvm.Cond.code ({ cls := "java/lang/String", name := "charAt", desc := "(I)C" } : Jvm.MethodName) prog_34_method_56_code (2 : Nat) (Option.some Jvm.ClassFile.FieldType.char)) ∈ gw := gw_3 70 rfl rfl
theorem wr_3_68 : (Jvm.Cond.instanceMethod ({ cls := "java/lang/String", name := "charAt", desc := "(I)C" } : Jvm.MethodName)) ∈ gw := gw_3 68 rfl rfl
theorem wr_3_69 : (Jvm.Cond.selects "java/lang/String" ({ cls := "java/lang/String", name := "charAt", desc := "(I)C" } : Jvm.MethodName) ({ cls := "java/lang/String", name := "charAt", desc := "(I)C" } : Jvm.MethodName)) ∈ gw := gw_3 69 rfl rfl
theorem dr_cX17_operation_52 : decode cX17_operation 52 = .ok (.bipush 32, 2) := by decide +kernel
theorem dr_cX17_operation_54 : decode cX17_operation 54 = .ok (.if_icmp .ne 7, 3) := by decide +kernel
theorem dr_cX17_operation_61 : decode cX17_operation 61 = .ok (.iconst 0, 1) := by decide +kernel
theorem dr_cX17_operation_62 : decode cX17_operation 62 = .ok (.iadd, 1) := by decide +kernel
theorem dr_cX17_operation_63 : decode cX17_operation 63 = .ok (.istore_n 2, 1) := by decide +kernel
theorem dr_cX17_operation_64 : decode cX17_operation 64 = .ok (.iinc 3 1, 3) := by decide +kernel
theorem dr_cX17_operation_67 : decode cX17_operation 67 = .ok (.goto (-27), 3) := by decide +kernel
theorem dr_cX17_operation_57 : decode cX17_operation 57 = .ok (.iconst 1, 1) := by decide +kernel
theorem dr_cX17_operation_58 : decode cX17_operation 58 = .ok (.goto 4, 3) := by decide +kernel
theorem dr_cX17_operation_34 : decode cX17_operation 34 = .ok (.iconst 0, 1) := by decide +kernel
theorem dr_cX17_operation_35 : decode cX17_operation 35 = .ok (.ireturn, 1) := by decide +kernel
abbrev ky_655783_Reader_breaks : gKey := (cX14_breaks, 3, "SpillForgeModel$Reader", none, [], "breaks", fun _ _ => True)
def pp_655783_Reader_breaks (D : va_G) (I : FieldType → ClassId) (P655763 : List Nat) (F655764 : Nat → va_E) (q655765 : Nat) (q655766 : Nat) (p655767 : Int32) (p655768 : Int32) (p655769 : Int32) (p655770 : Int32) (p655771 : Int32) (p655772 : Int32) (p655773 : Int32) (p655774 : Int32) (qo655775 : Nat) (p655776 : Int32) (p655777 : Int32) (p655778 : Int32) (qo655779 : Nat) (qo655780 : Nat) (p655781 : Int32) (f655782 : Nat → Int32) : Option Value → va_W → Nat → Nat → Prop := fun r w dc ds => ∃ (F655835 : Nat → va_E) (o655832 : Int32) (o655833 : Int32), r = none ∧ w = va_pl P655763 F655835 ∧ rFr [q655765] P655763 F655764 F655835 ∧ F655835 q655765 = .inr (19, [.ref q655766, .int p655769, .int p655770, .int p655771, .int p655772, .int p655773, .int p655774, .ref qo655775, .int o655832, .int o655833, .int p655778, .ref qo655779, .ref qo655780, .int p655781]) ∧ F655835 q655766 = .inl (I .byte, 8192, .inl f655782) ∧ dc ≤ 0 ∧ ds ≤ 0 ∧ gB o655832 0 8192 ∧ gB o655833 0 4
set_option maxRecDepth 100000 in
set_option maxHeartbeats 4000000 in
theorem cp_655783_Reader_breaks (l : Launch) (hl0 : l.stackTraces = false) (D : va_G) (I : FieldType → ClassId) (P655763 : List Nat) (F655764 : Nat → va_E) (q655765 : Nat) (q655766 : Nat) (p655767 : Int32) (p655768 : Int32) (p655769 : Int32) (p655770 : Int32) (p655771 : Int32) (p655772 : Int32) (p655773 : Int32) (p655774 : Int32) (qo655775 : Nat) (p655776 : Int32) (p655777 : Int32) (p655778 : Int32) (qo655779 : Nat) (qo655780 : Nat) (p655781 : Int32) (f655782 : Nat → Int32) (hmq655765 : q655765 ∈ P655763) (hmq655766 : q655766 ∈ P655763) (heq655765 : F655764 q655765 = .inr (19, [.ref q655766, .int p655769, .int p655770, .int p655771, .int p655772, .int p655773, .int p655774, .ref qo655775, .int p655776, .int p655777, .int p655778, .ref qo655779, .ref qo655780, .int p655781])) (heq655766 : F655764 q655766 = .inl (I .byte, 8192, .inl f655782)) (bp655767 : gB p655767 0 4) (bp655768 : gB p655768 0 8192) (bp655769 : gB p655769 0 8192) (bp655770 : gB p655770 0 8192) (bp655771 : gB p655771 0 6) (bp655772 : gB p655772 0 8192) (bp655774 : gB p655774 0 6) (bp655776 : gB p655776 (-1) 8192) (bp655777 : gB p655777 0 4) (bp655778 : gB p655778 0 1000000) (bp655781 : gB p655781 0 1000000) (bf655782 : gF f655782 (-128) 127) : CtA (gV D I) l yX14_breaks cX14_breaks 3 none 0 0 0 0 [.ref q655765, .int p655767, .int p655768] (va_pl P655763 F655764) (pp_655783_Reader_breaks D I P655763 F655764 q655765 q655766 p655767 p655768 p655769 p655770 p655771 p655772 p655773 p655774 qo655775 p655776 p655777 p655778 qo655779 qo655780 p655781 f655782) gNA := by
  refine CtA_of hl0 (by decide) (Nat.le_of_ble_eq_true rfl) ?_
  have bp655773 := gB_any p655773
  refine G_aload_n 0 dr_cX14_breaks_0 rfl ?_
  refine Gp_get 8 hmq655765 heq655765 dr_cX14_breaks_1 (gk_X14 D I) (Nat.le_of_ble_eq_true rfl) wr_9_40 rfl ?_
  refine G_if_lt 31 dr_cX14_breaks_4 (by decide +kernel) (fun hc655784 => ?_) (fun hc655784 => ?_)
  · have r655785 : p655776.toInt < 0 := gj_lt hc655784 (show Int32.toInt 0 = 0 by decide)
    have bp655776' : gB p655776 (-1) (-1) := ⟨by omega, by omega⟩
    refine G_aload_n 0 dr_cX14_breaks_31 rfl ?_
    refine G_iload_n 2 dr_cX14_breaks_32 rfl ?_
    refine Gp_put 8 hmq655765 heq655765 dr_cX14_breaks_33 (gk_X14 D I) (Nat.le_of_ble_eq_true rfl) wr_9_40 rfl rfl rfl (Nat.le_of_ble_eq_true rfl) (fun F655786 e655787 n655788 => ?_)
    have he655789 : F655786 q655766 = .inl (I .byte, 8192, .inl f655782) := (n655788 q655766 (rn_ao heq655766 heq655765)).trans heq655766
    have he655790 : F655786 q655765 = .inr (19, [.ref q655766, .int p655769, .int p655770, .int p655771, .int p655772, .int p655773, .int p655774, .ref qo655775, .int p655768, .int p655777, .int p655778, .ref qo655779, .ref qo655780, .int p655781]) := e655787
    have hfr655791 : rFr [q655765] P655763 F655764 F655786 := rFr_put (rFr_rf (W := []) (P := P655763) (F := F655764)) n655788
    refine G_aload_n 0 dr_cX14_breaks_36 rfl ?_
    refine G_iload_n 1 dr_cX14_breaks_37 rfl ?_
    refine Gp_put 9 hmq655765 he655790 dr_cX14_breaks_38 (gk_X14 D I) (Nat.le_of_ble_eq_true rfl) wr_9_42 rfl rfl rfl (Nat.le_of_ble_eq_true rfl) (fun F655792 e655793 n655794 => ?_)
    have he655795 : F655792 q655766 = .inl (I .byte, 8192, .inl f655782) := (n655794 q655766 (rn_ao he655789 he655790)).trans he655789
    have he655796 : F655792 q655765 = .inr (19, [.ref q655766, .int p655769, .int p655770, .int p655771, .int p655772, .int p655773, .int p655774, .ref qo655775, .int p655768, .int p655767, .int p655778, .ref qo655779, .ref qo655780, .int p655781]) := e655793
    have hfr655797 : rFr [q655765] P655763 F655764 F655792 := rFr_put' List.mem_cons_self hfr655791 n655794
    exact G_vretA dr_cX14_breaks_41 rfl (Nat.le_of_ble_eq_true rfl) (Nat.le_of_ble_eq_true rfl) ⟨F655792, p655768, p655767, rfl, rfl, hfr655797, he655796, he655795, (Nat.le_of_ble_eq_true rfl), (Nat.le_of_ble_eq_true rfl), bp655768, bp655767⟩
  · have r655798 : 0 ≤ p655776.toInt := gj_nlt hc655784 (show Int32.toInt 0 = 0 by decide)
    have bp655776' : gB p655776 0 8192 := ⟨by omega, by omega⟩
    refine G_iload_n 2 dr_cX14_breaks_7 rfl ?_
    refine G_aload_n 0 dr_cX14_breaks_8 rfl ?_
    refine Gp_get 8 hmq655765 heq655765 dr_cX14_breaks_9 (gk_X14 D I) (Nat.le_of_ble_eq_true rfl) wr_9_40 rfl ?_
    refine G_icmp_lt 31 dr_cX14_breaks_12 (by decide +kernel) (fun hc655799 => ?_) (fun hc655799 => ?_)
    · have r655800 : p655768.toInt < p655776.toInt := gC_lt hc655799
      have bp655768' : gB p655768 0 8191 := ⟨by omega, by omega⟩
      have bp655776'' : gB p655776 1 8192 := ⟨by omega, by omega⟩
      refine G_aload_n 0 dr_cX14_breaks_31 rfl ?_
      refine G_iload_n 2 dr_cX14_breaks_32 rfl ?_
      refine Gp_put 8 hmq655765 heq655765 dr_cX14_breaks_33 (gk_X14 D I) (Nat.le_of_ble_eq_true rfl) wr_9_40 rfl rfl rfl (Nat.le_of_ble_eq_true rfl) (fun F655801 e655802 n655803 => ?_)
      have he655804 : F655801 q655766 = .inl (I .byte, 8192, .inl f655782) := (n655803 q655766 (rn_ao heq655766 heq655765)).trans heq655766
      have he655805 : F655801 q655765 = .inr (19, [.ref q655766, .int p655769, .int p655770, .int p655771, .int p655772, .int p655773, .int p655774, .ref qo655775, .int p655768, .int p655777, .int p655778, .ref qo655779, .ref qo655780, .int p655781]) := e655802
      have hfr655806 : rFr [q655765] P655763 F655764 F655801 := rFr_put (rFr_rf (W := []) (P := P655763) (F := F655764)) n655803
      refine G_aload_n 0 dr_cX14_breaks_36 rfl ?_
      refine G_iload_n 1 dr_cX14_breaks_37 rfl ?_
      refine Gp_put 9 hmq655765 he655805 dr_cX14_breaks_38 (gk_X14 D I) (Nat.le_of_ble_eq_true rfl) wr_9_42 rfl rfl rfl (Nat.le_of_ble_eq_true rfl) (fun F655807 e655808 n655809 => ?_)
      have he655810 : F655807 q655766 = .inl (I .byte, 8192, .inl f655782) := (n655809 q655766 (rn_ao he655804 he655805)).trans he655804
      have he655811 : F655807 q655765 = .inr (19, [.ref q655766, .int p655769, .int p655770, .int p655771, .int p655772, .int p655773, .int p655774, .ref qo655775, .int p655768, .int p655767, .int p655778, .ref qo655779, .ref qo655780, .int p655781]) := e655808
      have hfr655812 : rFr [q655765] P655763 F655764 F655807 := rFr_put' List.mem_cons_self hfr655806 n655809
      exact G_vretA dr_cX14_breaks_41 rfl (Nat.le_of_ble_eq_true rfl) (Nat.le_of_ble_eq_true rfl) ⟨F655807, p655768, p655767, rfl, rfl, hfr655812, he655811, he655810, (Nat.le_of_ble_eq_true rfl), (Nat.le_of_ble_eq_true rfl), (gB_w bp655768' (by decide) (by decide)), bp655767⟩
    · have r655813 : p655776.toInt ≤ p655768.toInt := gC_nlt hc655799
      refine G_iload_n 2 dr_cX14_breaks_15 rfl ?_
      refine G_aload_n 0 dr_cX14_breaks_16 rfl ?_
      refine Gp_get 8 hmq655765 heq655765 dr_cX14_breaks_17 (gk_X14 D I) (Nat.le_of_ble_eq_true rfl) wr_9_40 rfl ?_
      refine G_icmp_ne 41 dr_cX14_breaks_20 (by decide +kernel) (fun hc655814 => ?_) (fun hc655814 => ?_)
      · have r655815 : p655768.toInt ≠ p655776.toInt := gC_ne hc655814
        exact G_vretA dr_cX14_breaks_41 rfl (Nat.le_of_ble_eq_true rfl) (Nat.le_of_ble_eq_true rfl) ⟨F655764, p655776, p655777, rfl, rfl, (rFr_v (rFr_rf (W := []) (P := P655763) (F := F655764)) (fun b hn => nm_n)), heq655765, heq655766, (Nat.le_of_ble_eq_true rfl), (Nat.le_of_ble_eq_true rfl), bp655776', bp655777⟩
      · have r655816 : p655768.toInt = p655776.toInt := gC_eq hc655814
        refine G_iload_n 1 dr_cX14_breaks_23 rfl ?_
        refine G_aload_n 0 dr_cX14_breaks_24 rfl ?_
        refine Gp_get 9 hmq655765 heq655765 dr_cX14_breaks_25 (gk_X14 D I) (Nat.le_of_ble_eq_true rfl) wr_9_42 rfl ?_
        refine G_icmp_ge 41 dr_cX14_breaks_28 (by decide +kernel) (fun hc655817 => ?_) (fun hc655817 => ?_)
        · have r655818 : p655777.toInt ≤ p655767.toInt := gC_le hc655817
          exact G_vretA dr_cX14_breaks_41 rfl (Nat.le_of_ble_eq_true rfl) (Nat.le_of_ble_eq_true rfl) ⟨F655764, p655776, p655777, rfl, rfl, (rFr_v (rFr_rf (W := []) (P := P655763) (F := F655764)) (fun b hn => nm_n)), heq655765, heq655766, (Nat.le_of_ble_eq_true rfl), (Nat.le_of_ble_eq_true rfl), bp655776', bp655777⟩
        · have r655819 : p655767.toInt < p655777.toInt := gC_nle hc655817
          have bp655767' : gB p655767 0 3 := ⟨by omega, by omega⟩
          have bp655777' : gB p655777 1 4 := ⟨by omega, by omega⟩
          refine G_aload_n 0 dr_cX14_breaks_31 rfl ?_
          refine G_iload_n 2 dr_cX14_breaks_32 rfl ?_
          refine Gp_put 8 hmq655765 heq655765 dr_cX14_breaks_33 (gk_X14 D I) (Nat.le_of_ble_eq_true rfl) wr_9_40 rfl rfl rfl (Nat.le_of_ble_eq_true rfl) (fun F655820 e655821 n655822 => ?_)
          have he655823 : F655820 q655766 = .inl (I .byte, 8192, .inl f655782) := (n655822 q655766 (rn_ao heq655766 heq655765)).trans heq655766
          have he655824 : F655820 q655765 = .inr (19, [.ref q655766, .int p655769, .int p655770, .int p655771, .int p655772, .int p655773, .int p655774, .ref qo655775, .int p655768, .int p655777, .int p655778, .ref qo655779, .ref qo655780, .int p655781]) := e655821
          have hfr655825 : rFr [q655765] P655763 F655764 F655820 := rFr_put (rFr_rf (W := []) (P := P655763) (F := F655764)) n655822
          refine G_aload_n 0 dr_cX14_breaks_36 rfl ?_
          refine G_iload_n 1 dr_cX14_breaks_37 rfl ?_
          refine Gp_put 9 hmq655765 he655824 dr_cX14_breaks_38 (gk_X14 D I) (Nat.le_of_ble_eq_true rfl) wr_9_42 rfl rfl rfl (Nat.le_of_ble_eq_true rfl) (fun F655826 e655827 n655828 => ?_)
          have he655829 : F655826 q655766 = .inl (I .byte, 8192, .inl f655782) := (n655828 q655766 (rn_ao he655823 he655824)).trans he655823
          have he655830 : F655826 q655765 = .inr (19, [.ref q655766, .int p655769, .int p655770, .int p655771, .int p655772, .int p655773, .int p655774, .ref qo655775, .int p655768, .int p655767, .int p655778, .ref qo655779, .ref qo655780, .int p655781]) := e655827
          have hfr655831 : rFr [q655765] P655763 F655764 F655826 := rFr_put' List.mem_cons_self hfr655825 n655828
          exact G_vretA dr_cX14_breaks_41 rfl (Nat.le_of_ble_eq_true rfl) (Nat.le_of_ble_eq_true rfl) ⟨F655826, p655768, p655767, rfl, rfl, hfr655831, he655830, he655829, (Nat.le_of_ble_eq_true rfl), (Nat.le_of_ble_eq_true rfl), bp655768, (gB_w bp655767' (by decide) (by decide))⟩
abbrev ky_655871_Reader_operand : gKey := (cX14_operand, 4, "SpillForgeModel$Reader", none, [], "operand", fun _ _ => True)
def pp_655871_Reader_operand (D : va_G) (I : FieldType → ClassId) (P655836 : List Nat) (F655837 : Nat → va_E) (q655838 : Nat) (q655839 : Nat) (q655840 : Nat) (p655841 : Int32) (p655842 : Int32) (p655843 : Int32) (p655844 : Int32) (p655845 : Int32) (p655846 : Int32) (p655847 : Int32) (qo655848 : Nat) (p655849 : Int32) (p655850 : Int32) (p655851 : Int32) (qo655852 : Nat) (qo655853 : Nat) (p655854 : Int32) (p655855 : Int32) (p655856 : Int32) (p655857 : Int32) (p655858 : Int32) (p655859 : Int32) (p655860 : Int32) (p655861 : Int32) (f655862 : Nat → Int32) : Option Value → va_W → Nat → Nat → Prop := fun r w dc ds => ∃ (P656088 : List Nat) (F656089 : Nat → va_E) (o656079 : Int32) (o656080 : Int32) (o656081 : Int32) (o656082 : Int32) (q656083 : Nat) (o656084 : Int32) (o656085 : Int32) (o656086 : Int32) (o656087 : Int32), r = none ∧ w = va_pl P656088 F656089 ∧ rSub P655836 P656088 ∧ rFr [q655839, q655838] P655836 F655837 F656089 ∧ F656089 q655839 = .inr (20, [.int p655855, .int p655856, .int o656084, .int o656085, .int p655859, .int o656086, .int o656087]) ∧ F656089 q655838 = .inr (19, [.ref q655840, .int p655842, .int o656079, .int o656080, .int o656081, .int o656082, .int p655844, .ref q656083, .int p655849, .int p655850, .int p655851, .ref qo655852, .ref qo655853, .int p655854]) ∧ F656089 q655840 = .inl (I .byte, 8192, .inl f655862) ∧ dc ≤ (16 * (o656079.toInt - p655843.toInt)).toNat ∧ ds ≤ (160 * (o656079.toInt - p655843.toInt)).toNat ∧ gB o656079 0 8192 ∧ gB o656080 0 6 ∧ gB o656081 0 8192 ∧ gB o656086 0 1 ∧ gB o656087 0 1 ∧ p655843.toInt ≤ o656079.toInt ∧ prP o656080 p655843 o656079 ∧ o656079.toInt ≤ p655842.toInt ∧ tP I P656088 F656089 o656080 q656083 qo655853 qo655852 ∧ vP o656080 o656082 ∧ rwP o656086 o656084 ∧ rwP o656087 o656085 ∧ nzK p655844
def xp_655871_Reader_operand (D : va_G) (I : FieldType → ClassId) (P655836 : List Nat) (F655837 : Nat → va_E) (q655838 : Nat) (q655839 : Nat) (q655840 : Nat) (p655841 : Int32) (p655842 : Int32) (p655843 : Int32) (p655844 : Int32) (p655845 : Int32) (p655846 : Int32) (p655847 : Int32) (qo655848 : Nat) (p655849 : Int32) (p655850 : Int32) (p655851 : Int32) (qo655852 : Nat) (qo655853 : Nat) (p655854 : Int32) (p655855 : Int32) (p655856 : Int32) (p655857 : Int32) (p655858 : Int32) (p655859 : Int32) (p655860 : Int32) (p655861 : Int32) (f655862 : Nat → Int32) : String → Nat → va_W → Nat → Nat → Prop := fun E q w dc ds => ∃ (P656091 : List Nat) (F656090 : Nat → va_E), E = "SpillForgeModel$Wrong" ∧ w = va_pl P656091 F656090 ∧ rSub P655836 P656091 ∧ rFr [] P655836 F655837 F656090 ∧ q ∈ P656091 ∧ q ∉ P655836 ∧ wrF F656090 q ∧ dc ≤ (16 * (p655842.toInt - p655843.toInt)).toNat + 1 ∧ ds ≤ (160 * (p655842.toInt - p655843.toInt)).toNat + 7 ∧ rkR (F656090 q655839)
set_option maxRecDepth 100000 in
set_option maxHeartbeats 4000000 in
theorem cp_655871_Reader_operand (l : Launch) (hl0 : l.stackTraces = false) (D : va_G) (I : FieldType → ClassId) (P655836 : List Nat) (F655837 : Nat → va_E) (q655838 : Nat) (q655839 : Nat) (q655840 : Nat) (p655841 : Int32) (p655842 : Int32) (p655843 : Int32) (p655844 : Int32) (p655845 : Int32) (p655846 : Int32) (p655847 : Int32) (qo655848 : Nat) (p655849 : Int32) (p655850 : Int32) (p655851 : Int32) (qo655852 : Nat) (qo655853 : Nat) (p655854 : Int32) (p655855 : Int32) (p655856 : Int32) (p655857 : Int32) (p655858 : Int32) (p655859 : Int32) (p655860 : Int32) (p655861 : Int32) (f655862 : Nat → Int32) (hmq655838 : q655838 ∈ P655836) (hmq655839 : q655839 ∈ P655836) (hmq655840 : q655840 ∈ P655836) (heq655838 : F655837 q655838 = .inr (19, [.ref q655840, .int p655842, .int p655843, .int p655844, .int p655845, .int p655846, .int p655847, .ref qo655848, .int p655849, .int p655850, .int p655851, .ref qo655852, .ref qo655853, .int p655854])) (heq655839 : F655837 q655839 = .inr (20, [.int p655855, .int p655856, .int p655857, .int p655858, .int p655859, .int p655860, .int p655861])) (heq655840 : F655837 q655840 = .inl (I .byte, 8192, .inl f655862)) (bp655841 : gB p655841 0 1) (bp655842 : gB p655842 0 8192) (bp655843 : gB p655843 0 8192) (bp655844 : gB p655844 0 6) (bp655845 : gB p655845 0 8192) (bp655847 : gB p655847 0 6) (bp655849 : gB p655849 (-1) 8192) (bp655850 : gB p655850 0 4) (bp655851 : gB p655851 0 1000000) (bp655854 : gB p655854 0 1000000) (bp655855 : gB p655855 0 32) (bp655856 : gB p655856 0 1999) (bp655859 : gB p655859 0 1999) (bp655860 : gB p655860 0 1) (bp655861 : gB p655861 0 1) (bf655862 : gF f655862 (-128) 127) (x655863 : p655843.toInt ≤ p655842.toInt) (x655864 : qo655853 ∈ P655836) (x655865 : qo655852 ∈ P655836) (x655866 : tP I P655836 F655837 p655844 qo655848 qo655853 qo655852) (x655867 : vP p655844 p655846) (x655868 : rwP p655860 p655857) (x655869 : rwP p655861 p655858) (x655870 : opP p655855) : CtA (gV D I) l yX14_operand cX14_operand 4 none 8 177 ((16 * (p655842.toInt - p655843.toInt)).toNat + 1) ((160 * (p655842.toInt - p655843.toInt)).toNat + 7) [.ref q655838, .ref q655839, .int p655841] (va_pl P655836 F655837) (pp_655871_Reader_operand D I P655836 F655837 q655838 q655839 q655840 p655841 p655842 p655843 p655844 p655845 p655846 p655847 qo655848 p655849 p655850 p655851 qo655852 qo655853 p655854 p655855 p655856 p655857 p655858 p655859 p655860 p655861 f655862) (xp_655871_Reader_operand D I P655836 F655837 q655838 q655839 q655840 p655841 p655842 p655843 p655844 p655845 p655846 p655847 qo655848 p655849 p655850 p655851 qo655852 qo655853 p655854 p655855 p655856 p655857 p655858 p655859 p655860 p655861 f655862) := by
  refine CtA_of hl0 (by decide) (Nat.le_of_ble_eq_true rfl) ?_
  have bp655846 := gB_any p655846
  have bp655857 := gB_any p655857
  have bp655858 := gB_any p655858
  refine G_aload_n 0 dr_cX14_operand_0 rfl ?_
  refine Gp_get 3 hmq655838 heq655838 dr_cX14_operand_1 (gk_X14 D I) (Nat.le_of_ble_eq_true rfl) wr_9_35 rfl ?_
  refine G_iconst 2 dr_cX14_operand_4 (by decide +kernel) ?_
  refine G_icmp_ne 12 dr_cX14_operand_5 (by decide +kernel) (fun hc655872 => ?_) (fun hc655872 => ?_)
  · have r655873 : p655844.toInt ≠ 2 := gj_neq hc655872 (show Int32.toInt 2 = 2 by decide)
    refine G_iconst 0 dr_cX14_operand_12 (by decide +kernel) ?_
    refine G_istore_n (L' := [(3, .int 0), (0, .ref q655838), (1, .ref q655839), (2, .int p655841)]) dr_cX14_operand_13 (Nat.le_of_ble_eq_true rfl) rfl ?_
    refine G_iload_n 0 dr_cX14_operand_14 rfl ?_
    refine G_if_ne 31 dr_cX14_operand_15 (by decide +kernel) (fun hc => absurd hc (by decide)) (fun _ => ?_)
    refine G_aload_n 1 dr_cX14_operand_18 rfl ?_
    refine Gp_get 3 hmq655838 heq655838 dr_cX14_operand_19 (gk_X14 D I) (Nat.le_of_ble_eq_true rfl) wr_9_35 rfl ?_
    refine G_iconst 4 dr_cX14_operand_22 (by decide +kernel) ?_
    refine G_icmp_eq 31 dr_cX14_operand_23 (by decide +kernel) (fun hc655874 => ?_) (fun hc655874 => ?_)
    · have r655875 : p655844.toInt = 4 := gj_eq hc655874 (show Int32.toInt 4 = 4 by decide)
      have bp655844' : gB p655844 4 4 := ⟨by omega, by omega⟩
      refine G_iload_n 3 dr_cX14_operand_31 rfl ?_
      refine G_if_eq 51 dr_cX14_operand_32 (by decide +kernel) (fun hc655876 => ?_) (fun hc655876 => ?_)
      · have r655877 : p655841.toInt = 0 := gj_eq hc655876 (show Int32.toInt 0 = 0 by decide)
        have bp655841' : gB p655841 0 0 := ⟨by omega, by omega⟩
        refine G_aload_n 2 dr_cX14_operand_51 rfl ?_
        refine G_aload_n 1 dr_cX14_operand_52 rfl ?_
        refine Gp_get 5 hmq655838 heq655838 dr_cX14_operand_53 (gk_X14 D I) (Nat.le_of_ble_eq_true rfl) wr_9_37 rfl ?_
        refine Gp_put 2 hmq655839 heq655839 dr_cX14_operand_56 (gk_X15 D I) (Nat.le_of_ble_eq_true rfl) wr_9_183 rfl rfl rfl (Nat.le_of_ble_eq_true rfl) (fun F655878 e655879 n655880 => ?_)
        have he655881 : F655878 q655838 = .inr (19, [.ref q655840, .int p655842, .int p655843, .int p655844, .int p655845, .int p655846, .int p655847, .ref qo655848, .int p655849, .int p655850, .int p655851, .ref qo655852, .ref qo655853, .int p655854]) := (n655880 q655838 (rn_oo heq655838 heq655839 (by decide))).trans heq655838
        have he655882 : F655878 q655840 = .inl (I .byte, 8192, .inl f655862) := (n655880 q655840 (rn_ao heq655840 heq655839)).trans heq655840
        have he655883 : F655878 q655839 = .inr (20, [.int p655855, .int p655856, .int p655846, .int p655858, .int p655859, .int p655860, .int p655861]) := e655879
        have hfr655884 : rFr [q655839] P655836 F655837 F655878 := rFr_put (rFr_rf (W := []) (P := P655836) (F := F655837)) n655880
        have tp655885 : tP I P655836 F655878 p655844 qo655848 qo655853 qo655852 := tP_put x655866 heq655839 (by decide) n655880
        refine G_aload_n 2 dr_cX14_operand_59 rfl ?_
        refine G_iload_n 0 dr_cX14_operand_60 rfl ?_
        refine Gp_put 5 hmq655839 he655883 dr_cX14_operand_61 (gk_X15 D I) (Nat.le_of_ble_eq_true rfl) wr_9_194 rfl rfl rfl (Nat.le_of_ble_eq_true rfl) (fun F655886 e655887 n655888 => ?_)
        have he655889 : F655886 q655838 = .inr (19, [.ref q655840, .int p655842, .int p655843, .int p655844, .int p655845, .int p655846, .int p655847, .ref qo655848, .int p655849, .int p655850, .int p655851, .ref qo655852, .ref qo655853, .int p655854]) := (n655888 q655838 (rn_oo he655881 he655883 (by decide))).trans he655881
        have he655890 : F655886 q655840 = .inl (I .byte, 8192, .inl f655862) := (n655888 q655840 (rn_ao he655882 he655883)).trans he655882
        have he655891 : F655886 q655839 = .inr (20, [.int p655855, .int p655856, .int p655846, .int p655858, .int p655859, .int 0, .int p655861]) := e655887
        have hfr655892 : rFr [q655839] P655836 F655837 F655886 := rFr_put' List.mem_cons_self hfr655884 n655888
        have tp655893 : tP I P655836 F655886 p655844 qo655848 qo655853 qo655852 := tP_put tp655885 he655883 (by decide) n655888
        refine G_aload_n 1 dr_cX14_operand_64 rfl ?_
        refine Gw_callV (As := []) (gV_ok D I) (cp_653656_Reader_next l hl0 D I P655836 F655886 q655838 q655840 p655842 p655843 p655844 p655845 p655846 p655847 qo655848 p655849 p655850 p655851 qo655852 qo655853 p655854 f655862 hmq655838 hmq655840 he655889 he655890 bp655842 bp655843 (gB_w bp655844' (by decide) (by decide)) bp655845 bp655847 bp655849 bp655850 bp655851 bp655854 bf655862 (by have qa0 : Int32.toInt 0 = 0 := (by decide); omega) x655864 x655865) dr_cX14_operand_65 ⟨wr_7_211, wr_1_32, wr_7_214, by decide, rfl, (Nat.le_of_ble_eq_true rfl), (Nat.le_of_ble_eq_true rfl)⟩ wr_7_213 wr_p_75 hmq655838 he655889 rfl (show 0 + ((16 * (p655842.toInt - p655843.toInt)).toNat) ≤ ((16 * (p655842.toInt - p655843.toInt)).toNat + 1) by first | omega | decide) (show 0 + ((160 * (p655842.toInt - p655843.toInt)).toNat) ≤ ((160 * (p655842.toInt - p655843.toInt)).toNat + 7) by first | omega | decide) (Nat.le_of_ble_eq_true rfl) (fun r655897 w655898 dc655894 ds655895 hp655896 => ?_) (fun _ _ _ _ _ z => z.elim)
        obtain ⟨P655909, F655910, o655899, o655900, o655901, o655902, q655903, rfl, rfl, hsb655911, hfr655912, he655913, he655914, hdc, hds, bo655899, bo655900, bo655901, x655904, x655905, x655906, x655907, x655908⟩ := hp655896
        have hm655915 : q655838 ∈ P655909 := hsb655911 q655838 hmq655838
        have hm655916 : q655839 ∈ P655909 := hsb655911 q655839 hmq655839
        have hm655917 : q655840 ∈ P655909 := hsb655911 q655840 hmq655840
        have hsb655918 : rSub P655836 P655909 := rSub_tr (rSub_rf (P := P655836)) hsb655911
        have he655919 : F655910 q655839 = .inr (20, [.int p655855, .int p655856, .int p655846, .int p655858, .int p655859, .int 0, .int p655861]) := (hfr655912 q655839 hmq655839 (nm_c (rn_oo he655891 he655889 (by decide)) nm_n)).trans he655891
        have hfr655920 : rFr [q655839, q655838] P655836 F655837 F655910 := rFr_call (rSub_rf (P := P655836)) hfr655892 hfr655912 (fun b hb hn => ⟨(nm_c (fun e => hn (e ▸ List.mem_cons_self)) nm_n), (nm_c (fun e => hn (e ▸ (List.mem_cons_of_mem _ List.mem_cons_self))) nm_n)⟩)
        have bo655902 := gB_any o655902
        change G _ _ _ _ _ _ _ _ _ _ _
        refine G_widen (cs' := (16 * (o655899.toInt - p655843.toInt)).toNat) (sl' := (160 * (o655899.toInt - p655843.toInt)).toNat) (by omega) (by omega) ?_
        exact G_vretA dr_cX14_operand_68 rfl (show (16 * (o655899.toInt - p655843.toInt)).toNat ≤ ((16 * (p655842.toInt - p655843.toInt)).toNat + 1) by omega) (show (160 * (o655899.toInt - p655843.toInt)).toNat ≤ ((160 * (p655842.toInt - p655843.toInt)).toNat + 7) by omega) ⟨P655909, F655910, o655899, o655900, o655901, o655902, q655903, p655846, p655858, 0, p655861, rfl, rfl, hsb655918, hfr655920, he655919, he655913, he655914, (by omega), (by omega), bo655899, bo655900, bo655901, (gB_w (gBl (show Int32.toInt 0 = 0 by decide)) (by decide) (by decide)), bp655861, (by have qa0 : Int32.toInt 0 = 0 := (by decide); omega), x655905, (by have qa0 : Int32.toInt 0 = 0 := (by decide); omega), x655907, x655908, rwP_0, x655869, (show nzK p655844 by unfold nzK; omega)⟩
      · have r655921 : p655841.toInt ≠ 0 := gj_neq hc655876 (show Int32.toInt 0 = 0 by decide)
        have bp655841' : gB p655841 1 1 := ⟨by omega, by omega⟩
        refine G_aload_n 2 dr_cX14_operand_35 rfl ?_
        refine G_aload_n 1 dr_cX14_operand_36 rfl ?_
        refine Gp_get 5 hmq655838 heq655838 dr_cX14_operand_37 (gk_X14 D I) (Nat.le_of_ble_eq_true rfl) wr_9_37 rfl ?_
        refine Gp_put 3 hmq655839 heq655839 dr_cX14_operand_40 (gk_X15 D I) (Nat.le_of_ble_eq_true rfl) wr_9_187 rfl rfl rfl (Nat.le_of_ble_eq_true rfl) (fun F655922 e655923 n655924 => ?_)
        have he655925 : F655922 q655838 = .inr (19, [.ref q655840, .int p655842, .int p655843, .int p655844, .int p655845, .int p655846, .int p655847, .ref qo655848, .int p655849, .int p655850, .int p655851, .ref qo655852, .ref qo655853, .int p655854]) := (n655924 q655838 (rn_oo heq655838 heq655839 (by decide))).trans heq655838
        have he655926 : F655922 q655840 = .inl (I .byte, 8192, .inl f655862) := (n655924 q655840 (rn_ao heq655840 heq655839)).trans heq655840
        have he655927 : F655922 q655839 = .inr (20, [.int p655855, .int p655856, .int p655857, .int p655846, .int p655859, .int p655860, .int p655861]) := e655923
        have hfr655928 : rFr [q655839] P655836 F655837 F655922 := rFr_put (rFr_rf (W := []) (P := P655836) (F := F655837)) n655924
        have tp655929 : tP I P655836 F655922 p655844 qo655848 qo655853 qo655852 := tP_put x655866 heq655839 (by decide) n655924
        refine G_aload_n 2 dr_cX14_operand_43 rfl ?_
        refine G_iload_n 0 dr_cX14_operand_44 rfl ?_
        refine Gp_put 6 hmq655839 he655927 dr_cX14_operand_45 (gk_X15 D I) (Nat.le_of_ble_eq_true rfl) wr_9_197 rfl rfl rfl (Nat.le_of_ble_eq_true rfl) (fun F655930 e655931 n655932 => ?_)
        have he655933 : F655930 q655838 = .inr (19, [.ref q655840, .int p655842, .int p655843, .int p655844, .int p655845, .int p655846, .int p655847, .ref qo655848, .int p655849, .int p655850, .int p655851, .ref qo655852, .ref qo655853, .int p655854]) := (n655932 q655838 (rn_oo he655925 he655927 (by decide))).trans he655925
        have he655934 : F655930 q655840 = .inl (I .byte, 8192, .inl f655862) := (n655932 q655840 (rn_ao he655926 he655927)).trans he655926
        have he655935 : F655930 q655839 = .inr (20, [.int p655855, .int p655856, .int p655857, .int p655846, .int p655859, .int p655860, .int 0]) := e655931
        have hfr655936 : rFr [q655839] P655836 F655837 F655930 := rFr_put' List.mem_cons_self hfr655928 n655932
        have tp655937 : tP I P655836 F655930 p655844 qo655848 qo655853 qo655852 := tP_put tp655929 he655927 (by decide) n655932
        refine G_goto 64 dr_cX14_operand_48 (by decide +kernel) ?_
        refine G_aload_n 1 dr_cX14_operand_64 rfl ?_
        refine Gw_callV (As := []) (gV_ok D I) (cp_653656_Reader_next l hl0 D I P655836 F655930 q655838 q655840 p655842 p655843 p655844 p655845 p655846 p655847 qo655848 p655849 p655850 p655851 qo655852 qo655853 p655854 f655862 hmq655838 hmq655840 he655933 he655934 bp655842 bp655843 (gB_w bp655844' (by decide) (by decide)) bp655845 bp655847 bp655849 bp655850 bp655851 bp655854 bf655862 (by have qa0 : Int32.toInt 0 = 0 := (by decide); omega) x655864 x655865) dr_cX14_operand_65 ⟨wr_7_211, wr_1_32, wr_7_214, by decide, rfl, (Nat.le_of_ble_eq_true rfl), (Nat.le_of_ble_eq_true rfl)⟩ wr_7_213 wr_p_75 hmq655838 he655933 rfl (show 0 + ((16 * (p655842.toInt - p655843.toInt)).toNat) ≤ ((16 * (p655842.toInt - p655843.toInt)).toNat + 1) by first | omega | decide) (show 0 + ((160 * (p655842.toInt - p655843.toInt)).toNat) ≤ ((160 * (p655842.toInt - p655843.toInt)).toNat + 7) by first | omega | decide) (Nat.le_of_ble_eq_true rfl) (fun r655941 w655942 dc655938 ds655939 hp655940 => ?_) (fun _ _ _ _ _ z => z.elim)
        obtain ⟨P655953, F655954, o655943, o655944, o655945, o655946, q655947, rfl, rfl, hsb655955, hfr655956, he655957, he655958, hdc, hds, bo655943, bo655944, bo655945, x655948, x655949, x655950, x655951, x655952⟩ := hp655940
        have hm655959 : q655838 ∈ P655953 := hsb655955 q655838 hmq655838
        have hm655960 : q655839 ∈ P655953 := hsb655955 q655839 hmq655839
        have hm655961 : q655840 ∈ P655953 := hsb655955 q655840 hmq655840
        have hsb655962 : rSub P655836 P655953 := rSub_tr (rSub_rf (P := P655836)) hsb655955
        have he655963 : F655954 q655839 = .inr (20, [.int p655855, .int p655856, .int p655857, .int p655846, .int p655859, .int p655860, .int 0]) := (hfr655956 q655839 hmq655839 (nm_c (rn_oo he655935 he655933 (by decide)) nm_n)).trans he655935
        have hfr655964 : rFr [q655839, q655838] P655836 F655837 F655954 := rFr_call (rSub_rf (P := P655836)) hfr655936 hfr655956 (fun b hb hn => ⟨(nm_c (fun e => hn (e ▸ List.mem_cons_self)) nm_n), (nm_c (fun e => hn (e ▸ (List.mem_cons_of_mem _ List.mem_cons_self))) nm_n)⟩)
        have bo655946 := gB_any o655946
        change G _ _ _ _ _ _ _ _ _ _ _
        refine G_widen (cs' := (16 * (o655943.toInt - p655843.toInt)).toNat) (sl' := (160 * (o655943.toInt - p655843.toInt)).toNat) (by omega) (by omega) ?_
        exact G_vretA dr_cX14_operand_68 rfl (show (16 * (o655943.toInt - p655843.toInt)).toNat ≤ ((16 * (p655842.toInt - p655843.toInt)).toNat + 1) by omega) (show (160 * (o655943.toInt - p655843.toInt)).toNat ≤ ((160 * (p655842.toInt - p655843.toInt)).toNat + 7) by omega) ⟨P655953, F655954, o655943, o655944, o655945, o655946, q655947, p655857, p655846, p655860, 0, rfl, rfl, hsb655962, hfr655964, he655963, he655957, he655958, (by omega), (by omega), bo655943, bo655944, bo655945, bp655860, (gB_w (gBl (show Int32.toInt 0 = 0 by decide)) (by decide) (by decide)), (by have qa0 : Int32.toInt 0 = 0 := (by decide); omega), x655949, (by have qa0 : Int32.toInt 0 = 0 := (by decide); omega), x655951, x655952, x655868, rwP_0, (show nzK p655844 by unfold nzK; omega)⟩
    · have r655965 : p655844.toInt ≠ 4 := gj_neq hc655874 (show Int32.toInt 4 = 4 by decide)
      refine G_aload_n 1 dr_cX14_operand_26 rfl ?_
      refine Gw_callV (As := []) (gV_ok D I) (cp_655287_Reader_no l hl0 D I P655836 F655837 q655838 q655840 p655842 p655843 p655844 p655845 p655846 p655847 qo655848 p655849 p655850 p655851 qo655852 qo655853 p655854 f655862 hmq655838 hmq655840 heq655838 heq655840 bp655842 bp655843 bp655844 bp655845 bp655847 bp655849 bp655850 bp655851 bp655854 bf655862) dr_cX14_operand_27 ⟨wr_9_93, wr_1_32, wr_9_96, by decide, rfl, (Nat.le_of_ble_eq_true rfl), (Nat.le_of_ble_eq_true rfl)⟩ wr_9_95 wr_p_81 hmq655838 heq655838 rfl (show 0 + 1 ≤ ((16 * (p655842.toInt - p655843.toInt)).toNat + 1) by first | omega | decide) (show 0 + 7 ≤ ((160 * (p655842.toInt - p655843.toInt)).toNat + 7) by first | omega | decide) (Nat.le_of_ble_eq_true rfl) (fun r655969 w655970 dc655966 ds655967 hp655968 => ?_) (fun _ _ _ _ _ z => z.elim)
      obtain ⟨P655972, F655973, q655971, rfl, rfl, hsb655974, hfr655975, he655976, he655977, he655978, hm655979, hq655980, hdc, hds⟩ := hp655968
      have hm655981 : q655838 ∈ P655972 := hsb655974 q655838 hmq655838
      have hm655982 : q655839 ∈ P655972 := hsb655974 q655839 hmq655839
      have hm655983 : q655840 ∈ P655972 := hsb655974 q655840 hmq655840
      have hq655984 : q655971 ∉ P655836 := fun z => hq655980 ((rSub_rf (P := P655836)) q655971 z)
      have hsb655985 : rSub P655836 P655972 := rSub_tr (rSub_rf (P := P655836)) hsb655974
      have he655986 : F655973 q655839 = .inr (20, [.int p655855, .int p655856, .int p655857, .int p655858, .int p655859, .int p655860, .int p655861]) := (hfr655975 q655839 hmq655839 nm_n).trans heq655839
      have hfr655987 : rFr [] P655836 F655837 F655973 := rFr_call (rSub_rf (P := P655836)) (rFr_rf (W := []) (P := P655836) (F := F655837)) hfr655975 (fun b hb hn => ⟨nm_n, nm_n⟩)
      have tp655988 : tP I P655972 F655973 p655844 qo655848 qo655853 qo655852 := tP_new x655866 hsb655974 (fun b hb => hfr655975 b hb (fun z => by cases z)) (Or.inl rfl) (Or.inl rfl)
      change G _ _ _ _ _ _ _ (.ref q655971 :: _) _ _ _
      refine G_widen (cs' := 1) (sl' := 7) (by omega) (by omega) ?_
      exact Gp_athrow hm655979 he655978 rfl dr_cX14_operand_30 (GT_outA rfl (show 1 ≤ ((16 * (p655842.toInt - p655843.toInt)).toNat + 1) by omega) (show 7 ≤ ((160 * (p655842.toInt - p655843.toInt)).toNat + 7) by omega) ⟨P655972, F655973, rfl, rfl, hsb655985, hfr655987, hm655979, hq655984, ⟨_, _, _, _, _, _, _, he655978, by omega⟩, (by omega), (by omega), ⟨p655855, p655856, p655857, p655858, p655859, p655860, p655861, he655986, bp655855, bp655856, bp655859, bp655860, bp655861, x655870, x655868, x655869⟩⟩)
  · have r655989 : p655844.toInt = 2 := gj_eq hc655872 (show Int32.toInt 2 = 2 by decide)
    have bp655844' : gB p655844 2 2 := ⟨by omega, by omega⟩
    refine G_iconst 1 dr_cX14_operand_8 (by decide +kernel) ?_
    refine G_goto 13 dr_cX14_operand_9 (by decide +kernel) ?_
    refine G_istore_n (L' := [(3, .int 1), (0, .ref q655838), (1, .ref q655839), (2, .int p655841)]) dr_cX14_operand_13 (Nat.le_of_ble_eq_true rfl) rfl ?_
    refine G_iload_n 0 dr_cX14_operand_14 rfl ?_
    refine G_if_ne 31 dr_cX14_operand_15 (by decide +kernel) (fun _ => ?_) (fun hc => absurd hc (by decide))
    refine G_iload_n 3 dr_cX14_operand_31 rfl ?_
    refine G_if_eq 51 dr_cX14_operand_32 (by decide +kernel) (fun hc655990 => ?_) (fun hc655990 => ?_)
    · have r655991 : p655841.toInt = 0 := gj_eq hc655990 (show Int32.toInt 0 = 0 by decide)
      have bp655841' : gB p655841 0 0 := ⟨by omega, by omega⟩
      refine G_aload_n 2 dr_cX14_operand_51 rfl ?_
      refine G_aload_n 1 dr_cX14_operand_52 rfl ?_
      refine Gp_get 5 hmq655838 heq655838 dr_cX14_operand_53 (gk_X14 D I) (Nat.le_of_ble_eq_true rfl) wr_9_37 rfl ?_
      refine Gp_put 2 hmq655839 heq655839 dr_cX14_operand_56 (gk_X15 D I) (Nat.le_of_ble_eq_true rfl) wr_9_183 rfl rfl rfl (Nat.le_of_ble_eq_true rfl) (fun F655992 e655993 n655994 => ?_)
      have he655995 : F655992 q655838 = .inr (19, [.ref q655840, .int p655842, .int p655843, .int p655844, .int p655845, .int p655846, .int p655847, .ref qo655848, .int p655849, .int p655850, .int p655851, .ref qo655852, .ref qo655853, .int p655854]) := (n655994 q655838 (rn_oo heq655838 heq655839 (by decide))).trans heq655838
      have he655996 : F655992 q655840 = .inl (I .byte, 8192, .inl f655862) := (n655994 q655840 (rn_ao heq655840 heq655839)).trans heq655840
      have he655997 : F655992 q655839 = .inr (20, [.int p655855, .int p655856, .int p655846, .int p655858, .int p655859, .int p655860, .int p655861]) := e655993
      have hfr655998 : rFr [q655839] P655836 F655837 F655992 := rFr_put (rFr_rf (W := []) (P := P655836) (F := F655837)) n655994
      have tp655999 : tP I P655836 F655992 p655844 qo655848 qo655853 qo655852 := tP_put x655866 heq655839 (by decide) n655994
      refine G_aload_n 2 dr_cX14_operand_59 rfl ?_
      refine G_iload_n 0 dr_cX14_operand_60 rfl ?_
      refine Gp_put 5 hmq655839 he655997 dr_cX14_operand_61 (gk_X15 D I) (Nat.le_of_ble_eq_true rfl) wr_9_194 rfl rfl rfl (Nat.le_of_ble_eq_true rfl) (fun F656000 e656001 n656002 => ?_)
      have he656003 : F656000 q655838 = .inr (19, [.ref q655840, .int p655842, .int p655843, .int p655844, .int p655845, .int p655846, .int p655847, .ref qo655848, .int p655849, .int p655850, .int p655851, .ref qo655852, .ref qo655853, .int p655854]) := (n656002 q655838 (rn_oo he655995 he655997 (by decide))).trans he655995
      have he656004 : F656000 q655840 = .inl (I .byte, 8192, .inl f655862) := (n656002 q655840 (rn_ao he655996 he655997)).trans he655996
      have he656005 : F656000 q655839 = .inr (20, [.int p655855, .int p655856, .int p655846, .int p655858, .int p655859, .int 1, .int p655861]) := e656001
      have hfr656006 : rFr [q655839] P655836 F655837 F656000 := rFr_put' List.mem_cons_self hfr655998 n656002
      have tp656007 : tP I P655836 F656000 p655844 qo655848 qo655853 qo655852 := tP_put tp655999 he655997 (by decide) n656002
      refine G_aload_n 1 dr_cX14_operand_64 rfl ?_
      refine Gw_callV (As := []) (gV_ok D I) (cp_653656_Reader_next l hl0 D I P655836 F656000 q655838 q655840 p655842 p655843 p655844 p655845 p655846 p655847 qo655848 p655849 p655850 p655851 qo655852 qo655853 p655854 f655862 hmq655838 hmq655840 he656003 he656004 bp655842 bp655843 (gB_w bp655844' (by decide) (by decide)) bp655845 bp655847 bp655849 bp655850 bp655851 bp655854 bf655862 (by have qa0 : Int32.toInt 1 = 1 := (by decide); omega) x655864 x655865) dr_cX14_operand_65 ⟨wr_7_211, wr_1_32, wr_7_214, by decide, rfl, (Nat.le_of_ble_eq_true rfl), (Nat.le_of_ble_eq_true rfl)⟩ wr_7_213 wr_p_75 hmq655838 he656003 rfl (show 0 + ((16 * (p655842.toInt - p655843.toInt)).toNat) ≤ ((16 * (p655842.toInt - p655843.toInt)).toNat + 1) by first | omega | decide) (show 0 + ((160 * (p655842.toInt - p655843.toInt)).toNat) ≤ ((160 * (p655842.toInt - p655843.toInt)).toNat + 7) by first | omega | decide) (Nat.le_of_ble_eq_true rfl) (fun r656011 w656012 dc656008 ds656009 hp656010 => ?_) (fun _ _ _ _ _ z => z.elim)
      obtain ⟨P656023, F656024, o656013, o656014, o656015, o656016, q656017, rfl, rfl, hsb656025, hfr656026, he656027, he656028, hdc, hds, bo656013, bo656014, bo656015, x656018, x656019, x656020, x656021, x656022⟩ := hp656010
      have hm656029 : q655838 ∈ P656023 := hsb656025 q655838 hmq655838
      have hm656030 : q655839 ∈ P656023 := hsb656025 q655839 hmq655839
      have hm656031 : q655840 ∈ P656023 := hsb656025 q655840 hmq655840
      have hsb656032 : rSub P655836 P656023 := rSub_tr (rSub_rf (P := P655836)) hsb656025
      have he656033 : F656024 q655839 = .inr (20, [.int p655855, .int p655856, .int p655846, .int p655858, .int p655859, .int 1, .int p655861]) := (hfr656026 q655839 hmq655839 (nm_c (rn_oo he656005 he656003 (by decide)) nm_n)).trans he656005
      have hfr656034 : rFr [q655839, q655838] P655836 F655837 F656024 := rFr_call (rSub_rf (P := P655836)) hfr656006 hfr656026 (fun b hb hn => ⟨(nm_c (fun e => hn (e ▸ List.mem_cons_self)) nm_n), (nm_c (fun e => hn (e ▸ (List.mem_cons_of_mem _ List.mem_cons_self))) nm_n)⟩)
      have bo656016 := gB_any o656016
      change G _ _ _ _ _ _ _ _ _ _ _
      refine G_widen (cs' := (16 * (o656013.toInt - p655843.toInt)).toNat) (sl' := (160 * (o656013.toInt - p655843.toInt)).toNat) (by omega) (by omega) ?_
      exact G_vretA dr_cX14_operand_68 rfl (show (16 * (o656013.toInt - p655843.toInt)).toNat ≤ ((16 * (p655842.toInt - p655843.toInt)).toNat + 1) by omega) (show (160 * (o656013.toInt - p655843.toInt)).toNat ≤ ((160 * (p655842.toInt - p655843.toInt)).toNat + 7) by omega) ⟨P656023, F656024, o656013, o656014, o656015, o656016, q656017, p655846, p655858, 1, p655861, rfl, rfl, hsb656032, hfr656034, he656033, he656027, he656028, (by omega), (by omega), bo656013, bo656014, bo656015, (gB_w (gBl (show Int32.toInt 1 = 1 by decide)) (by decide) (by decide)), bp655861, (by have qa0 : Int32.toInt 1 = 1 := (by decide); omega), x656019, (by have qa0 : Int32.toInt 1 = 1 := (by decide); omega), x656021, x656022, (rwP_1 x655867 (by omega)), x655869, (show nzK p655844 by unfold nzK; omega)⟩
    · have r656035 : p655841.toInt ≠ 0 := gj_neq hc655990 (show Int32.toInt 0 = 0 by decide)
      have bp655841' : gB p655841 1 1 := ⟨by omega, by omega⟩
      refine G_aload_n 2 dr_cX14_operand_35 rfl ?_
      refine G_aload_n 1 dr_cX14_operand_36 rfl ?_
      refine Gp_get 5 hmq655838 heq655838 dr_cX14_operand_37 (gk_X14 D I) (Nat.le_of_ble_eq_true rfl) wr_9_37 rfl ?_
      refine Gp_put 3 hmq655839 heq655839 dr_cX14_operand_40 (gk_X15 D I) (Nat.le_of_ble_eq_true rfl) wr_9_187 rfl rfl rfl (Nat.le_of_ble_eq_true rfl) (fun F656036 e656037 n656038 => ?_)
      have he656039 : F656036 q655838 = .inr (19, [.ref q655840, .int p655842, .int p655843, .int p655844, .int p655845, .int p655846, .int p655847, .ref qo655848, .int p655849, .int p655850, .int p655851, .ref qo655852, .ref qo655853, .int p655854]) := (n656038 q655838 (rn_oo heq655838 heq655839 (by decide))).trans heq655838
      have he656040 : F656036 q655840 = .inl (I .byte, 8192, .inl f655862) := (n656038 q655840 (rn_ao heq655840 heq655839)).trans heq655840
      have he656041 : F656036 q655839 = .inr (20, [.int p655855, .int p655856, .int p655857, .int p655846, .int p655859, .int p655860, .int p655861]) := e656037
      have hfr656042 : rFr [q655839] P655836 F655837 F656036 := rFr_put (rFr_rf (W := []) (P := P655836) (F := F655837)) n656038
      have tp656043 : tP I P655836 F656036 p655844 qo655848 qo655853 qo655852 := tP_put x655866 heq655839 (by decide) n656038
      refine G_aload_n 2 dr_cX14_operand_43 rfl ?_
      refine G_iload_n 0 dr_cX14_operand_44 rfl ?_
      refine Gp_put 6 hmq655839 he656041 dr_cX14_operand_45 (gk_X15 D I) (Nat.le_of_ble_eq_true rfl) wr_9_197 rfl rfl rfl (Nat.le_of_ble_eq_true rfl) (fun F656044 e656045 n656046 => ?_)
      have he656047 : F656044 q655838 = .inr (19, [.ref q655840, .int p655842, .int p655843, .int p655844, .int p655845, .int p655846, .int p655847, .ref qo655848, .int p655849, .int p655850, .int p655851, .ref qo655852, .ref qo655853, .int p655854]) := (n656046 q655838 (rn_oo he656039 he656041 (by decide))).trans he656039
      have he656048 : F656044 q655840 = .inl (I .byte, 8192, .inl f655862) := (n656046 q655840 (rn_ao he656040 he656041)).trans he656040
      have he656049 : F656044 q655839 = .inr (20, [.int p655855, .int p655856, .int p655857, .int p655846, .int p655859, .int p655860, .int 1]) := e656045
      have hfr656050 : rFr [q655839] P655836 F655837 F656044 := rFr_put' List.mem_cons_self hfr656042 n656046
      have tp656051 : tP I P655836 F656044 p655844 qo655848 qo655853 qo655852 := tP_put tp656043 he656041 (by decide) n656046
      refine G_goto 64 dr_cX14_operand_48 (by decide +kernel) ?_
      refine G_aload_n 1 dr_cX14_operand_64 rfl ?_
      refine Gw_callV (As := []) (gV_ok D I) (cp_653656_Reader_next l hl0 D I P655836 F656044 q655838 q655840 p655842 p655843 p655844 p655845 p655846 p655847 qo655848 p655849 p655850 p655851 qo655852 qo655853 p655854 f655862 hmq655838 hmq655840 he656047 he656048 bp655842 bp655843 (gB_w bp655844' (by decide) (by decide)) bp655845 bp655847 bp655849 bp655850 bp655851 bp655854 bf655862 (by have qa0 : Int32.toInt 1 = 1 := (by decide); omega) x655864 x655865) dr_cX14_operand_65 ⟨wr_7_211, wr_1_32, wr_7_214, by decide, rfl, (Nat.le_of_ble_eq_true rfl), (Nat.le_of_ble_eq_true rfl)⟩ wr_7_213 wr_p_75 hmq655838 he656047 rfl (show 0 + ((16 * (p655842.toInt - p655843.toInt)).toNat) ≤ ((16 * (p655842.toInt - p655843.toInt)).toNat + 1) by first | omega | decide) (show 0 + ((160 * (p655842.toInt - p655843.toInt)).toNat) ≤ ((160 * (p655842.toInt - p655843.toInt)).toNat + 7) by first | omega | decide) (Nat.le_of_ble_eq_true rfl) (fun r656055 w656056 dc656052 ds656053 hp656054 => ?_) (fun _ _ _ _ _ z => z.elim)
      obtain ⟨P656067, F656068, o656057, o656058, o656059, o656060, q656061, rfl, rfl, hsb656069, hfr656070, he656071, he656072, hdc, hds, bo656057, bo656058, bo656059, x656062, x656063, x656064, x656065, x656066⟩ := hp656054
      have hm656073 : q655838 ∈ P656067 := hsb656069 q655838 hmq655838
      have hm656074 : q655839 ∈ P656067 := hsb656069 q655839 hmq655839
      have hm656075 : q655840 ∈ P656067 := hsb656069 q655840 hmq655840
      have hsb656076 : rSub P655836 P656067 := rSub_tr (rSub_rf (P := P655836)) hsb656069
      have he656077 : F656068 q655839 = .inr (20, [.int p655855, .int p655856, .int p655857, .int p655846, .int p655859, .int p655860, .int 1]) := (hfr656070 q655839 hmq655839 (nm_c (rn_oo he656049 he656047 (by decide)) nm_n)).trans he656049
      have hfr656078 : rFr [q655839, q655838] P655836 F655837 F656068 := rFr_call (rSub_rf (P := P655836)) hfr656050 hfr656070 (fun b hb hn => ⟨(nm_c (fun e => hn (e ▸ List.mem_cons_self)) nm_n), (nm_c (fun e => hn (e ▸ (List.mem_cons_of_mem _ List.mem_cons_self))) nm_n)⟩)
      have bo656060 := gB_any o656060
      change G _ _ _ _ _ _ _ _ _ _ _
      refine G_widen (cs' := (16 * (o656057.toInt - p655843.toInt)).toNat) (sl' := (160 * (o656057.toInt - p655843.toInt)).toNat) (by omega) (by omega) ?_
      exact G_vretA dr_cX14_operand_68 rfl (show (16 * (o656057.toInt - p655843.toInt)).toNat ≤ ((16 * (p655842.toInt - p655843.toInt)).toNat + 1) by omega) (show (160 * (o656057.toInt - p655843.toInt)).toNat ≤ ((160 * (p655842.toInt - p655843.toInt)).toNat + 7) by omega) ⟨P656067, F656068, o656057, o656058, o656059, o656060, q656061, p655857, p655846, p655860, 1, rfl, rfl, hsb656076, hfr656078, he656077, he656071, he656072, (by omega), (by omega), bo656057, bo656058, bo656059, bp655860, (gB_w (gBl (show Int32.toInt 1 = 1 by decide)) (by decide) (by decide)), (by have qa0 : Int32.toInt 1 = 1 := (by decide); omega), x656063, (by have qa0 : Int32.toInt 1 = 1 := (by decide); omega), x656065, x656066, x655868, (rwP_1 x655867 (by omega)), (show nzK p655844 by unfold nzK; omega)⟩
abbrev ky_656266_StringLatin1_charAt : gKey := (cJ1_charAt_3b067, 2, "java/lang/StringLatin1", (some FieldType.char), [], "charAt", fun _ _ => True)
def pp_656266_StringLatin1_charAt (D : va_G) (I : FieldType → ClassId) (P656260 : List Nat) (F656261 : Nat → va_E) (qs656262 : Nat) (bs656263 : List Int32) (p656264 : Int32) : Option Value → va_W → Nat → Nat → Prop := fun r w dc ds => ∃ (o656276 : Int32), r = some (.int o656276) ∧ w = va_pl P656260 F656261 ∧ dc ≤ 0 ∧ ds ≤ 0 ∧ gB o656276 0 255 ∧ chP (fun j => bs656263.getD j 0) p656264 o656276
set_option maxRecDepth 100000 in
set_option maxHeartbeats 4000000 in
theorem cp_656266_StringLatin1_charAt (l : Launch) (hl0 : l.stackTraces = false) (D : va_G) (I : FieldType → ClassId) (P656260 : List Nat) (F656261 : Nat → va_E) (qs656262 : Nat) (bs656263 : List Int32) (p656264 : Int32) (hbs656263 : ∀ A s H, (gV D I).2.2.2.1 A s H → va_T .byte qs656262 bs656263.length (fun j => .int (bs656263.getD j 0)) A s H) (nbs656263 : (bs656263.length : Int) ≤ 65535) (lbs656263 : gLB bs656263) (bp656264 : gB p656264 0 16777215) (x656265 : p656264.toInt < (bs656263.length : Int)) : CtA (gV D I) l yJ1_charAt_3b067 cJ1_charAt_3b067 2 (some FieldType.char) 2 43 0 0 [.ref qs656262, .int p656264] (va_pl P656260 F656261) (pp_656266_StringLatin1_charAt D I P656260 F656261 qs656262 bs656263 p656264) gNA := by
  refine CtA_ofF hl0 (by decide +kernel) (Nat.le_of_ble_eq_true rfl) ?_
  refine G_iload_n 1 dr_cJ1_charAt_3b067_0 rfl ?_
  refine G_aload_n 0 dr_cJ1_charAt_3b067_1 rfl ?_
  refine G_klen dr_cJ1_charAt_3b067_2 hbs656263 (G_nam fun z656267 hz656267 => ?_)
  have ez656267 : z656267.toInt = (bs656263.length : Int) := gI_ofN hz656267 nbs656263
  have bz656267 : gB z656267 0 65535 := ⟨by omega, by omega⟩
  refine Gw_callS (As := [.int p656264, .int z656267]) (gV_ok D I) (cp_639942_String_checkIndex l hl0 D I P656260 F656261 p656264 z656267 (gB_w bp656264 (by decide) (by decide)) (gB_w bz656267 (by decide) (by decide)) (by omega)) dr_cJ1_charAt_3b067_3 ⟨wr_3_78, wr_1_21, wr_3_80, by decide, rfl, (Nat.le_of_ble_eq_true rfl), (Nat.le_of_ble_eq_true rfl)⟩ wr_3_79 (show 0 + 0 ≤ 0 by first | omega | decide) (show 0 + 0 ≤ 0 by first | omega | decide) (Nat.le_of_ble_eq_true rfl) (fun r656271 w656272 dc656268 ds656269 hp656270 => ?_) (fun _ _ _ _ _ z => z.elim)
  obtain ⟨rfl, rfl, hdc, hds⟩ := hp656270
  change G _ _ _ _ _ _ _ _ _ _ _
  refine G_widen (cs' := 0) (sl' := 0) (by omega) (by omega) ?_
  refine G_aload_n 0 dr_cJ1_charAt_3b067_6 rfl ?_
  refine G_iload_n 1 dr_cJ1_charAt_3b067_7 rfl ?_
  refine G_kbald (f := fun j => bs656263.getD j 0) dr_cJ1_charAt_3b067_8 hbs656263 (gB_inr (by omega) (by omega)) (G_nam fun z656273 hz656273 => ?_)
  have bz656273 : gB z656273 (-2147483648) 2147483647 := gB_any z656273
  refine G_sipush 255 dr_cJ1_charAt_3b067_9 (by decide +kernel) ?_
  refine G_iand dr_cJ1_charAt_3b067_12 (G_nam fun z656274 hz656274 => ?_)
  have bz656274 : gB z656274 0 255 := gB_and hz656274 (gBl (show Int32.toInt 255 = 255 by decide)) (by decide)
  refine G_i2c dr_cJ1_charAt_3b067_13 (G_nam fun z656275 hz656275 => ?_)
  have ez656275 : z656275.toInt = z656274.toInt := gI_i2c hz656275 (by omega) (by omega)
  have bz656275 : gB z656275 0 255 := ⟨by omega, by omega⟩
  exact G_zretA FieldType.char dr_cJ1_charAt_3b067_14 rfl (gN_char (gB_w bz656275 (by decide) (by decide))) (Nat.le_of_ble_eq_true rfl) (Nat.le_of_ble_eq_true rfl) ⟨z656275, rfl, rfl, (Nat.le_of_ble_eq_true rfl), (Nat.le_of_ble_eq_true rfl), bz656275, (chP_of (by assumption) (by assumption) (by omega) (chb lbs656263 (by assumption)))⟩
abbrev ky_656254_String_charAt : gKey := (cJ0_charAt_5068e, 2, "java/lang/String", (some FieldType.char), [], "charAt", fun _ _ => True)
def pp_656254_String_charAt (D : va_G) (I : FieldType → ClassId) (P656247 : List Nat) (F656248 : Nat → va_E) (qs656249 : Nat) (qb656250 : Nat) (bs656251 : List Int32) (p656252 : Int32) : Option Value → va_W → Nat → Nat → Prop := fun r w dc ds => ∃ (o656284 : Int32), r = some (.int o656284) ∧ w = va_pl P656247 F656248 ∧ dc ≤ 0 ∧ ds ≤ 0 ∧ gB o656284 0 255 ∧ chP (fun j => bs656251.getD j 0) p656252 o656284
set_option maxRecDepth 100000 in
set_option maxHeartbeats 4000000 in
theorem cp_656254_String_charAt (l : Launch) (hl0 : l.stackTraces = false) (D : va_G) (I : FieldType → ClassId) (P656247 : List Nat) (F656248 : Nat → va_E) (qs656249 : Nat) (qb656250 : Nat) (bs656251 : List Int32) (p656252 : Int32) (hbs656251 : ∀ A s H, (gV D I).2.2.2.1 A s H → gSC qs656249 qb656250 bs656251 A s H) (nbs656251 : (bs656251.length : Int) ≤ 65535) (lbs656251 : gLB bs656251) (bp656252 : gB p656252 0 65535) (x656253 : p656252.toInt < (bs656251.length : Int)) : CtA (gV D I) l yJ0_charAt_5068e cJ0_charAt_5068e 2 (some FieldType.char) 3 64 0 0 [.ref qs656249, .int p656252] (va_pl P656247 F656248) (pp_656254_String_charAt D I P656247 F656248 qs656249 qb656250 bs656251 p656252) gNA := by
  refine CtA_ofF hl0 (by decide +kernel) (Nat.le_of_ble_eq_true rfl) ?_
  refine G_aload_n 0 dr_cJ0_charAt_5068e_0 rfl ?_
  refine Gw_callVk (As := []) (gV_ok D I) (cp_641580_String_isLatin1 l hl0 D I P656247 F656248 qs656249 qb656250 bs656251 hbs656251 nbs656251 lbs656251) dr_cJ0_charAt_5068e_1 ⟨wr_3_71, wr_1_21, wr_3_74, by decide, rfl, (Nat.le_of_ble_eq_true rfl), (Nat.le_of_ble_eq_true rfl)⟩ wr_3_72 wr_3_73 (fun _ _ _ h => (hbs656251 _ _ _ h).1) (show 0 + 0 ≤ 0 by first | omega | decide) (show 0 + 0 ≤ 0 by first | omega | decide) (Nat.le_of_ble_eq_true rfl) (fun r656258 w656259 dc656255 ds656256 hp656257 => ?_) (fun _ _ _ _ _ z => z.elim)
  obtain ⟨rfl, rfl, hdc, hds⟩ := hp656257
  change G _ _ _ _ _ _ _ (.int 1 :: _) _ _ _
  refine G_widen (cs' := 0) (sl' := 0) (by omega) (by omega) ?_
  refine G_if_eq 16 dr_cJ0_charAt_5068e_4 (by decide +kernel) (fun hc => absurd hc (by decide)) (fun _ => ?_)
  refine G_aload_n 0 dr_cJ0_charAt_5068e_7 rfl ?_
  refine G_kget dr_cJ0_charAt_5068e_8 wr_8_178 (fun _ _ _ h => (hbs656251 _ _ _ h).2.2.1) ?_
  refine G_iload_n 1 dr_cJ0_charAt_5068e_11 rfl ?_
  refine Gw_callS (As := [.ref qb656250, .int p656252]) (gV_ok D I) (cp_656266_StringLatin1_charAt l hl0 D I P656247 F656248 qb656250 bs656251 p656252 (fun _ _ _ h => (hbs656251 _ _ _ h).2.2.2) (by omega) lbs656251 (gB_w bp656252 (by decide) (by decide)) (by omega)) dr_cJ0_charAt_5068e_12 ⟨wr_3_75, wr_1_28, wr_3_77, by decide, rfl, (Nat.le_of_ble_eq_true rfl), (Nat.le_of_ble_eq_true rfl)⟩ wr_3_76 (show 0 + 0 ≤ 0 by first | omega | decide) (show 0 + 0 ≤ 0 by first | omega | decide) (Nat.le_of_ble_eq_true rfl) (fun r656280 w656281 dc656277 ds656278 hp656279 => ?_) (fun _ _ _ _ _ z => z.elim)
  obtain ⟨o656282, rfl, rfl, hdc, hds, bo656282, x656283⟩ := hp656279
  change G _ _ _ _ _ _ _ (.int o656282 :: _) _ _ _
  refine G_widen (cs' := 0) (sl' := 0) (by omega) (by omega) ?_
  exact G_zretA FieldType.char dr_cJ0_charAt_5068e_15 rfl (gN_char (gB_w bo656282 (by decide) (by decide))) (Nat.le_of_ble_eq_true rfl) (Nat.le_of_ble_eq_true rfl) ⟨o656282, rfl, rfl, (Nat.le_of_ble_eq_true rfl), (Nat.le_of_ble_eq_true rfl), bo656282, x656283⟩
abbrev ky_656102_SpillForgeModel_operation : gKey := (cX17_operation, 4, "SpillForgeModel", (some FieldType.int), [], "operation", fun _ _ => True)
def pp_656102_SpillForgeModel_operation (D : va_G) (I : FieldType → ClassId) (P656092 : List Nat) (F656093 : Nat → va_E) (q656094 : Nat) (q656095 : Nat) (p656096 : Int32) (p656097 : Int32) (f656098 : Nat → Int32) (n656099 : Nat) : Option Value → va_W → Nat → Nat → Prop := fun r w dc ds => ∃ (P656441 : List Nat) (F656442 : Nat → va_E) (o656440 : Int32), r = some (.int o656440) ∧ w = va_pl P656441 F656442 ∧ rSub P656092 P656441 ∧ rFr [] P656092 F656093 F656442 ∧ F656442 q656094 = .inr (0, [.ref q656095, .int 0, .int p656096, .int p656097]) ∧ F656442 q656095 = .inl (I .byte, n656099, .inl f656098) ∧ dc ≤ 8 ∧ ds ≤ 64 ∧ gB o656440 0 14 ∧ 0 ≤ o656440.toInt ∧ o656440.toInt ≤ 14
set_option maxRecDepth 100000 in
set_option maxHeartbeats 4000000 in
theorem cp_656102_SpillForgeModel_operation (l : Launch) (hl0 : l.stackTraces = false) (D : va_G) (I : FieldType → ClassId) (P656092 : List Nat) (F656093 : Nat → va_E) (q656094 : Nat) (q656095 : Nat) (p656096 : Int32) (p656097 : Int32) (f656098 : Nat → Int32) (n656099 : Nat) (hmq656094 : q656094 ∈ P656092) (hmq656095 : q656095 ∈ P656092) (heq656094 : F656093 q656094 = .inr (0, [.ref q656095, .int 0, .int p656096, .int p656097])) (heq656095 : F656093 q656095 = .inl (I .byte, n656099, .inl f656098)) (bp656097 : gB p656097 0 1) (bf656098 : gF f656098 (-128) 127) (x656100 : (n656099 : Int) ≤ 2) (x656101 : ((n656099 : Int) ≤ 16777216)) : CtA (gV D I) l yX17_operation cX17_operation 4 (some FieldType.int) 6 132 8 64 [.ref q656094] (va_pl P656092 F656093) (pp_656102_SpillForgeModel_operation D I P656092 F656093 q656094 q656095 p656096 p656097 f656098 n656099) gNA := by
  refine CtA_of hl0 (by decide) (Nat.le_of_ble_eq_true rfl) ?_
  have bp656096 := gB_any p656096
  refine G_ldcK (a := D.2 1000 42) dr_cX17_operation_0 (fun _ _ _ h => gx_vk 42 rfl rfl h) ?_
  have hl42_656102 : (sb_42.length : Int) = 34 := rfl
  refine G_new [.null, .int 0, .int 0, .int 0] dr_cX17_operation_2 (gk_J4 D I) wr_7_43 wr_7_44 wr_1_20 (gfs_J4) (show 0 + 1 ≤ 8 by first | omega | decide) (show 0 + 4 ≤ 64 by first | omega | decide) (fun q656104 => Gp_in (fun P656105 F656106 hq656107 hP656108 e656109 n656110 => ?_))
  refine G_widen (cs' := 1) (sl' := 4) (by omega) (by omega) ?_
  have he656111 : F656106 q656094 = .inr (0, [.ref q656095, .int 0, .int p656096, .int p656097]) := (n656110 q656094 (fun h => hq656107 (h ▸ hmq656094))).trans heq656094
  have he656112 : F656106 q656095 = .inl (I .byte, n656099, .inl f656098) := (n656110 q656095 (fun h => hq656107 (h ▸ hmq656095))).trans heq656095
  have he656113 : F656106 q656104 = .inr (1, [.null, .int 0, .int 0, .int 0]) := e656109
  have hm656114 : q656094 ∈ P656105 := (hP656108 q656094).mpr (Or.inl hmq656094)
  have hm656115 : q656095 ∈ P656105 := (hP656108 q656095).mpr (Or.inl hmq656095)
  have hm656116 : q656104 ∈ P656105 := (hP656108 q656104).mpr (Or.inr rfl)
  have hq656117 : q656104 ∉ P656092 := fun z => hq656107 ((rSub_rf (P := P656092)) q656104 z)
  have hfr656118 : rFr [] P656092 F656093 F656106 := rFr_new (rSub_rf (P := P656092)) hq656107 (rFr_rf (W := []) (P := P656092) (F := F656093)) n656110
  have hsb656119 : rSub P656092 P656105 := rSub_new (rSub_rf (P := P656092)) hP656108
  refine G_dup dr_cX17_operation_5 rfl ?_
  refine Gw_callI (As := []) (gV_ok D I) (cp_640417_StringBuilder_init l hl0 D I P656105 F656106 q656104 0 0 hm656116 he656113 (gB_w (gBl (show Int32.toInt 0 = 0 by decide)) (by decide) (by decide)) (gB_w (gBl (show Int32.toInt 0 = 0 by decide)) (by decide) (by decide))) dr_cX17_operation_6 ⟨wr_7_45, wr_1_20, wr_7_47, by decide, rfl, (Nat.le_of_ble_eq_true rfl), (Nat.le_of_ble_eq_true rfl)⟩ wr_7_46 rfl (show 1 + 1 ≤ 8 by first | omega | decide) (show 4 + 16 ≤ 64 by first | omega | decide) (Nat.le_of_ble_eq_true rfl) (fun r656123 w656124 dc656120 ds656121 hp656122 => ?_)
  obtain ⟨P656126, F656127, q656125, rfl, rfl, hsb656128, hfr656129, he656130, he656131, hm656132, hq656133, hdc, hds⟩ := hp656122
  have hm656134 : q656094 ∈ P656126 := hsb656128 q656094 hm656114
  have hm656135 : q656095 ∈ P656126 := hsb656128 q656095 hm656115
  have hm656136 : q656104 ∈ P656126 := hsb656128 q656104 hm656116
  have hq656137 : q656125 ∉ P656092 := fun z => hq656133 (hsb656119 q656125 z)
  have hsb656138 : rSub P656092 P656126 := rSub_tr hsb656119 hsb656128
  have he656139 : F656127 q656094 = .inr (0, [.ref q656095, .int 0, .int p656096, .int p656097]) := (hfr656129 q656094 hm656114 (nm_c (fun h => hq656117 (h ▸ hmq656094)) nm_n)).trans he656111
  have he656140 : F656127 q656095 = .inl (I .byte, n656099, .inl f656098) := (hfr656129 q656095 hm656115 (nm_c (fun h => hq656117 (h ▸ hmq656095)) nm_n)).trans he656112
  have hfr656141 : rFr [] P656092 F656093 F656127 := rFr_call hsb656119 hfr656118 hfr656129 (fun b hb hn => ⟨nm_n, (nm_c (fun e => hq656117 (e ▸ hb)) nm_n)⟩)
  change G _ _ _ _ _ _ _ _ _ _ _
  refine G_widen (cs' := 2) (sl' := 20) (by omega) (by omega) ?_
  refine G_ldcK (a := D.2 1000 43) dr_cX17_operation_9 (fun _ _ _ h => gx_vk 43 rfl rfl h) ?_
  have hl43_656141 : (sb_43.length : Int) = 1 := rfl
  refine Gw_callV (As := [.ref (D.2 1000 43)]) (gV_ok D I) (cp_640714_StringBuilder_append l hl0 D I P656126 F656127 q656104 q656125 (D.2 1000 43) (D.2 1001 43) sb_43 0 0 (fun _ => 0) 16 hm656136 hm656132 he656130 he656131 (gx_sc 43 rfl rfl) (by omega) (by decide +kernel) (gB_w (gBl (show Int32.toInt 0 = 0 by decide)) (by decide) (by decide)) (gB_w (gBl (show Int32.toInt 0 = 0 by decide)) (by decide) (by decide)) (gF_w gF_0 (by decide) (by decide)) (by have qa0 : Int32.toInt 0 = 0 := (by decide); omega) (by have qa0 : Int32.toInt 0 = 0 := (by decide); omega)) dr_cX17_operation_11 ⟨wr_10_96, wr_1_20, wr_8_139, by decide, rfl, (Nat.le_of_ble_eq_true rfl), (Nat.le_of_ble_eq_true rfl)⟩ wr_8_137 wr_8_138 hm656136 he656130 rfl (show 2 + 0 ≤ 8 by first | omega | decide) (show 20 + 0 ≤ 64 by first | omega | decide) (Nat.le_of_ble_eq_true rfl) (fun r656146 w656147 dc656143 ds656144 hp656145 => ?_) (fun _ _ _ _ _ z => z.elim)
  obtain ⟨F656153, o656148, f656149, rfl, rfl, hfr656155, he656156, he656157, hdc, hds, bo656148, bf656149, x656150, x656151, x656152⟩ := hp656145
  have he656158 : F656153 q656094 = .inr (0, [.ref q656095, .int 0, .int p656096, .int p656097]) := (hfr656155 q656094 hm656134 (nm_c (fun h => hq656117 (h ▸ hmq656094)) (nm_c (fun h => hq656137 (h ▸ hmq656094)) nm_n))).trans he656139
  have he656159 : F656153 q656095 = .inl (I .byte, n656099, .inl f656098) := (hfr656155 q656095 hm656135 (nm_c (fun h => hq656117 (h ▸ hmq656095)) (nm_c (fun h => hq656137 (h ▸ hmq656095)) nm_n))).trans he656140
  have hfr656160 : rFr [] P656092 F656093 F656153 := rFr_call hsb656138 hfr656141 hfr656155 (fun b hb hn => ⟨nm_n, (nm_c (fun e => hq656117 (e ▸ hb)) (nm_c (fun e => hq656137 (e ▸ hb)) nm_n))⟩)
  rw [show Int32.toInt 0 = 0 from by decide] at x656150
  rw [show Int32.toInt 0 = 0 from by decide] at x656151
  rw [show Int32.toInt 0 = 0 from by decide] at x656152
  change G _ _ _ _ _ _ _ (.ref q656104 :: _) _ _ _
  refine G_widen (cs' := 2) (sl' := 20) (by omega) (by omega) ?_
  refine G_aload_n 0 dr_cX17_operation_14 rfl ?_
  refine Gw_callV (As := [.ref q656094]) (gV_ok D I) (cp_640491_StringBuilder_append l hl0 D I P656126 F656153 q656104 q656094 q656125 q656095 0 o656148 p656096 p656097 f656149 16 f656098 n656099 hm656136 hm656134 hm656132 hm656135 he656156 he656158 he656157 he656159 (fun h => hq656137 (h ▸ hmq656095)) (gB_w (gBl (show Int32.toInt 0 = 0 by decide)) (by decide) (by decide)) bo656148 bp656097 bf656149 bf656098 (by have qa0 : Int32.toInt 0 = 0 := (by decide); omega) (by have qa0 : Int32.toInt 0 = 0 := (by decide); omega) (by have qa0 : Int32.toInt 0 = 0 := (by decide); omega)) dr_cX17_operation_15 ⟨wr_10_96, wr_1_20, wr_8_139, by decide, rfl, (Nat.le_of_ble_eq_true rfl), (Nat.le_of_ble_eq_true rfl)⟩ wr_8_137 wr_8_138 hm656136 he656156 rfl (show 2 + 0 ≤ 8 by first | omega | decide) (show 20 + 0 ≤ 64 by first | omega | decide) (Nat.le_of_ble_eq_true rfl) (fun r656164 w656165 dc656161 ds656162 hp656163 => ?_) (fun _ _ _ _ _ z => z.elim)
  obtain ⟨F656171, o656166, f656167, rfl, rfl, hfr656173, he656174, he656175, he656176, he656177, hdc, hds, bo656166, bf656167, x656168, x656169, x656170⟩ := hp656163
  have hfr656178 : rFr [] P656092 F656093 F656171 := rFr_call hsb656138 hfr656160 hfr656173 (fun b hb hn => ⟨nm_n, (nm_c (fun e => hq656117 (e ▸ hb)) (nm_c (fun e => hq656137 (e ▸ hb)) nm_n))⟩)
  change G _ _ _ _ _ _ _ (.ref q656104 :: _) _ _ _
  refine G_widen (cs' := 2) (sl' := 20) (by omega) (by omega) ?_
  refine G_ldcK (a := D.2 1000 43) dr_cX17_operation_18 (fun _ _ _ h => gx_vk 43 rfl rfl h) ?_
  have hl43_656178 : (sb_43.length : Int) = 1 := rfl
  refine Gw_callV (As := [.ref (D.2 1000 43)]) (gV_ok D I) (cp_640714_StringBuilder_append l hl0 D I P656126 F656171 q656104 q656125 (D.2 1000 43) (D.2 1001 43) sb_43 0 o656166 f656167 16 hm656136 hm656132 he656174 he656176 (gx_sc 43 rfl rfl) (by omega) (by decide +kernel) (gB_w (gBl (show Int32.toInt 0 = 0 by decide)) (by decide) (by decide)) bo656166 bf656167 (by have qa0 : Int32.toInt 0 = 0 := (by decide); omega) (by have qa0 : Int32.toInt 0 = 0 := (by decide); omega)) dr_cX17_operation_20 ⟨wr_10_96, wr_1_20, wr_8_139, by decide, rfl, (Nat.le_of_ble_eq_true rfl), (Nat.le_of_ble_eq_true rfl)⟩ wr_8_137 wr_8_138 hm656136 he656174 rfl (show 2 + 0 ≤ 8 by first | omega | decide) (show 20 + 0 ≤ 64 by first | omega | decide) (Nat.le_of_ble_eq_true rfl) (fun r656183 w656184 dc656180 ds656181 hp656182 => ?_) (fun _ _ _ _ _ z => z.elim)
  obtain ⟨F656190, o656185, f656186, rfl, rfl, hfr656192, he656193, he656194, hdc, hds, bo656185, bf656186, x656187, x656188, x656189⟩ := hp656182
  have he656195 : F656190 q656094 = .inr (0, [.ref q656095, .int 0, .int p656096, .int p656097]) := (hfr656192 q656094 hm656134 (nm_c (fun h => hq656117 (h ▸ hmq656094)) (nm_c (fun h => hq656137 (h ▸ hmq656094)) nm_n))).trans he656175
  have he656196 : F656190 q656095 = .inl (I .byte, n656099, .inl f656098) := (hfr656192 q656095 hm656135 (nm_c (fun h => hq656117 (h ▸ hmq656095)) (nm_c (fun h => hq656137 (h ▸ hmq656095)) nm_n))).trans he656177
  have hfr656197 : rFr [] P656092 F656093 F656190 := rFr_call hsb656138 hfr656178 hfr656192 (fun b hb hn => ⟨nm_n, (nm_c (fun e => hq656117 (e ▸ hb)) (nm_c (fun e => hq656137 (e ▸ hb)) nm_n))⟩)
  change G _ _ _ _ _ _ _ (.ref q656104 :: _) _ _ _
  refine G_widen (cs' := 2) (sl' := 20) (by omega) (by omega) ?_
  refine Gw_callV (As := []) (gV_ok D I) (cp_641174_StringBuilder_toString l hl0 D I P656126 F656190 q656104 q656125 0 o656185 f656186 16 hm656136 hm656132 he656193 he656194 (gB_w (gBl (show Int32.toInt 0 = 0 by decide)) (by decide) (by decide)) bo656185 bf656186 (by have qa0 : Int32.toInt 0 = 0 := (by decide); omega) (by have qa0 : Int32.toInt 0 = 0 := (by decide); omega)) dr_cX17_operation_23 ⟨wr_10_97, wr_1_20, wr_8_65, by decide, rfl, (Nat.le_of_ble_eq_true rfl), (Nat.le_of_ble_eq_true rfl)⟩ wr_8_63 wr_8_64 hm656136 he656193 rfl (show 2 + 2 ≤ 8 by first | omega | decide) (show 20 + (o656185.toInt.toNat + 4) ≤ 64 by first | omega | decide) (Nat.le_of_ble_eq_true rfl) (fun r656201 w656202 dc656198 ds656199 hp656200 => ?_) (fun _ _ _ _ _ z => z.elim)
  obtain ⟨P656209, F656210, q656203, q656204, n656205, f656206, rfl, rfl, hsb656211, hfr656212, he656213, he656214, he656215, he656216, hm656217, hq656218, hm656219, hq656220, hdc, hds, bf656206, x656207, x656208⟩ := hp656200
  have hm656221 : q656094 ∈ P656209 := hsb656211 q656094 hm656134
  have hm656222 : q656095 ∈ P656209 := hsb656211 q656095 hm656135
  have hm656223 : q656104 ∈ P656209 := hsb656211 q656104 hm656136
  have hm656224 : q656125 ∈ P656209 := hsb656211 q656125 hm656132
  have hq656225 : q656203 ∉ P656092 := fun z => hq656218 (hsb656138 q656203 z)
  have hq656226 : q656204 ∉ P656092 := fun z => hq656220 (hsb656138 q656204 z)
  have hsb656227 : rSub P656092 P656209 := rSub_tr hsb656138 hsb656211
  have he656228 : F656210 q656094 = .inr (0, [.ref q656095, .int 0, .int p656096, .int p656097]) := (hfr656212 q656094 hm656134 nm_n).trans he656195
  have he656229 : F656210 q656095 = .inl (I .byte, n656099, .inl f656098) := (hfr656212 q656095 hm656135 nm_n).trans he656196
  have hfr656230 : rFr [] P656092 F656093 F656210 := rFr_call hsb656138 hfr656197 hfr656212 (fun b hb hn => ⟨nm_n, nm_n⟩)
  have hne656231 : q656125 ≠ q656204 := fun h => hq656220 (h ▸ hm656132)
  change G _ _ _ _ _ _ _ (.ref q656203 :: _) _ _ _
  refine G_widen (cs' := 4) (sl' := 20 + (o656185.toInt.toNat + 4)) (by omega) (by omega) ?_
  refine Gw_callVk (As := [.ref q656203]) (gV_ok D I) (cp_641623_String_indexOf l hl0 D I P656209 F656210 q656203 q656204 (D.2 1000 42) (D.2 1001 42) sb_42 0 0 f656206 n656205 hm656217 hm656219 he656213 he656216 (gx_sc 42 rfl rfl) (by omega) (by decide +kernel) (gB_w (gBl (show Int32.toInt 0 = 0 by decide)) (by decide) (by decide)) bf656206 (by have qa0 : Int32.toInt 0 = 0 := (by decide); omega) (by have qa0 : Int32.toInt 0 = 0 := (by decide); omega)) dr_cX17_operation_26 ⟨wr_10_98, wr_1_21, wr_8_195, by decide, rfl, (Nat.le_of_ble_eq_true rfl), (Nat.le_of_ble_eq_true rfl)⟩ wr_8_193 wr_8_194 (fun _ _ _ h => ((gx_sc 42 rfl rfl) _ _ _ h).1) (show 4 + 0 ≤ 8 by first | omega | decide) (show 20 + (o656185.toInt.toNat + 4) + 0 ≤ 64 by first | omega | decide) (Nat.le_of_ble_eq_true rfl) (fun r656235 w656236 dc656232 ds656233 hp656234 => ?_) (fun _ _ _ _ _ z => z.elim)
  obtain ⟨o656237, rfl, rfl, hdc, hds, bo656237, x656238, x656239⟩ := hp656234
  change G _ _ _ _ _ _ _ (.int o656237 :: _) _ _ _
  refine G_widen (cs' := 4) (sl' := 20 + (o656185.toInt.toNat + 4) + 0) (by omega) (by omega) ?_
  refine G_istore_n (L' := [(1, .int o656237), (0, .ref q656094)]) dr_cX17_operation_29 (Nat.le_of_ble_eq_true rfl) rfl ?_
  refine G_iload_n 0 dr_cX17_operation_30 rfl ?_
  refine G_if_ge 36 dr_cX17_operation_31 (by decide +kernel) (fun hc656240 => ?_) (fun hc656240 => ?_)
  · have r656241 : 0 ≤ o656237.toInt := gj_leL hc656240 (show Int32.toInt 0 = 0 by decide)
    have bo656237' : gB o656237 0 16777215 := ⟨by omega, by omega⟩
    have x656242 : o656237.toInt ≤ 30 := opA x656152 x656169 x656188 x656208 x656239 (by omega) (by omega) rfl (by omega) (by omega) (by omega) (by omega) (by omega)
    refine G_iconst 1 dr_cX17_operation_36 (by decide +kernel) ?_
    refine G_istore_n (L' := [(2, .int 1), (1, .int o656237), (0, .ref q656094)]) dr_cX17_operation_37 (Nat.le_of_ble_eq_true rfl) rfl ?_
    refine G_iconst 0 dr_cX17_operation_38 (by decide +kernel) ?_
    refine G_istore_n (L' := [(3, .int 0), (2, .int 1), (1, .int o656237), (0, .ref q656094)]) dr_cX17_operation_39 (Nat.le_of_ble_eq_true rfl) rfl ?_
    have hlp40_656418 : ∀ (n40_656418 : Nat) (g656415 : Int32) (g656416 : Int32), gB g656415 0 16777215 → opI g656415 g656416 → g656415.toInt ≤ o656237.toInt → ((16777216 : Int) - g656415.toInt).toNat < n40_656418 → G (gV D I) l (gRm 6 132 8 64) (gMA (gV D I) (pp_656102_SpillForgeModel_operation D I P656092 F656093 q656094 q656095 p656096 p656097 f656098 n656099) gNA 8 64) ky_656102_SpillForgeModel_operation 40 [(3, .int g656415), (2, .int g656416), (1, .int o656237), (0, .ref q656094)] [] (va_pl P656209 F656210) 4 (20 + (o656185.toInt.toNat + 4) + 0) := by
      intro n40_656418
      induction n40_656418 with
      | zero => intro g656415 g656416 bg656415 x656417 x656418 hm40_656418; exact absurd hm40_656418 (Nat.not_lt_zero _)
      | succ n40_656418 ih40_656418 =>
        intro g656415 g656416 bg656415 x656417 x656418 hm40_656418
        have bg656416 := gB_any g656416
        refine G_iload_n 0 dr_cX17_operation_40 rfl ?_
        refine G_iload_n 2 dr_cX17_operation_41 rfl ?_
        refine G_icmp_ge 70 dr_cX17_operation_42 (by decide +kernel) (fun hc656419 => ?_) (fun hc656419 => ?_)
        · have r656420 : o656237.toInt ≤ g656415.toInt := gC_le hc656419
          have bx656421 : gB g656416 1 14 := opI_b x656417 (by omega)
          refine G_iload_n 1 dr_cX17_operation_70 rfl ?_
          exact G_iretA dr_cX17_operation_71 rfl (Nat.le_of_ble_eq_true rfl) (show 20 + (o656185.toInt.toNat + 4) + 0 ≤ 64 by omega) ⟨P656209, F656210, g656416, rfl, rfl, hsb656227, hfr656230, he656228, he656229, (Nat.le_of_ble_eq_true rfl), (by omega), (gB_w bx656421 (by decide) (by decide)), (by have qa0 : Int32.toInt 0 = 0 := (by decide); omega), (by have qa0 : Int32.toInt 0 = 0 := (by decide); omega)⟩
        · have r656422 : g656415.toInt < o656237.toInt := gC_nle hc656419
          have bg656415' : gB g656415 0 16777214 := ⟨by omega, by omega⟩
          have bo656237'' : gB o656237 1 16777215 := ⟨by omega, by omega⟩
          have bx656423 : gB g656416 1 14 := opI_b x656417 (by omega)
          refine G_iload_n 1 dr_cX17_operation_45 rfl ?_
          refine G_ldcK (a := D.2 1000 42) dr_cX17_operation_46 (fun _ _ _ h => gx_vk 42 rfl rfl h) ?_
          have hl42_656423 : (sb_42.length : Int) = 34 := rfl
          refine G_iload_n 0 dr_cX17_operation_48 rfl ?_
          refine Gw_callVk (As := [.int g656415]) (gV_ok D I) (cp_656254_String_charAt l hl0 D I P656209 F656210 (D.2 1000 42) (D.2 1001 42) sb_42 g656415 (gx_sc 42 rfl rfl) (by omega) (by decide +kernel) ⟨by omega, by omega⟩ (by have qa0 : Int32.toInt 0 = 0 := (by decide); omega)) dr_cX17_operation_49 ⟨wr_10_99, wr_1_21, wr_3_70, by decide, rfl, (Nat.le_of_ble_eq_true rfl), (Nat.le_of_ble_eq_true rfl)⟩ wr_3_68 wr_3_69 (fun _ _ _ h => ((gx_sc 42 rfl rfl) _ _ _ h).1) (show 4 + 0 ≤ 8 by first | omega | decide) (show 20 + (o656185.toInt.toNat + 4) + 0 + 0 ≤ 64 by first | omega | decide) (Nat.le_of_ble_eq_true rfl) (fun r656428 w656429 dc656425 ds656426 hp656427 => ?_) (fun _ _ _ _ _ z => z.elim)
          obtain ⟨o656430, rfl, rfl, hdc, hds, bo656430, x656431⟩ := hp656427
          change G _ _ _ _ _ _ _ (.int o656430 :: _) _ _ _
          refine G_widen (cs' := 4) (sl' := 20 + (o656185.toInt.toNat + 4) + 0 + 0) (by omega) (by omega) ?_
          refine G_bipush 32 dr_cX17_operation_52 (by decide +kernel) ?_
          refine G_icmp_ne 61 dr_cX17_operation_54 (by decide +kernel) (fun hc656432 => ?_) (fun hc656432 => ?_)
          · have r656433 : o656430.toInt ≠ 32 := gj_neq hc656432 (show Int32.toInt 32 = 32 by decide)
            refine G_iconst 0 dr_cX17_operation_61 (by decide +kernel) ?_
            refine G_iadd dr_cX17_operation_62 (G_nam fun z656434 hz656434 => ?_)
            have ez656434 : z656434.toInt = g656416.toInt + 0 := by rw [gI_add hz656434 bx656423 (gBl (show Int32.toInt 0 = 0 by decide)) (by decide) (by decide), show Int32.toInt 0 = 0 from by decide]
            have bz656434 : gB z656434 1 14 := gB_add (gI_add hz656434 bx656423 (gBl (show Int32.toInt 0 = 0 by decide)) (by decide) (by decide)) bx656423 (gBl (show Int32.toInt 0 = 0 by decide)) (by decide) (by decide)
            refine G_istore_n (L' := [(2, .int z656434), (3, .int g656415), (1, .int o656237), (0, .ref q656094)]) dr_cX17_operation_63 (Nat.le_of_ble_eq_true rfl) rfl ?_
            obtain ⟨z656435, hz656435⟩ : ∃ z : Int32, z = g656415 + Int32.ofInt 1 := ⟨_, rfl⟩
            have ez656435 : z656435.toInt = g656415.toInt + 1 := gI_inc hz656435 (by decide) bg656415' (by decide) (by decide)
            have bz656435 : gB z656435 1 16777215 := ⟨by omega, by omega⟩
            refine G_iinc (L' := [(3, .int z656435), (2, .int z656434), (1, .int o656237), (0, .ref q656094)]) z656435 1 dr_cX17_operation_64 rfl hz656435.symm (Nat.le_of_ble_eq_true rfl) rfl ?_
            refine G_goto 40 dr_cX17_operation_67 (by decide +kernel) ?_
            exact ih40_656418 z656435 z656434 (gB_w bz656435 (by decide) (by decide)) (by have qa0 : Int32.toInt 0 = 0 := (by decide); have qa1 : Int32.toInt 1 = 1 := (by decide); first | exact opI_st (d := 1) x656417 (by omega) (by omega) (by omega) x656431 (Or.inl ⟨by omega, rfl⟩) | exact opI_st (d := 0) x656417 (by omega) (by omega) (by omega) x656431 (Or.inr ⟨by omega, rfl⟩)) (by have qa0 : Int32.toInt 0 = 0 := (by decide); omega) (by have qa0 : Int32.toInt 0 = 0 := (by decide); omega)
          · have r656436 : o656430.toInt = 32 := gj_eq hc656432 (show Int32.toInt 32 = 32 by decide)
            have bo656430' : gB o656430 32 32 := ⟨by omega, by omega⟩
            refine G_iconst 1 dr_cX17_operation_57 (by decide +kernel) ?_
            refine G_goto 62 dr_cX17_operation_58 (by decide +kernel) ?_
            refine G_iadd dr_cX17_operation_62 (G_nam fun z656437 hz656437 => ?_)
            have ez656437 : z656437.toInt = g656416.toInt + 1 := by rw [gI_add hz656437 bx656423 (gBl (show Int32.toInt 1 = 1 by decide)) (by decide) (by decide), show Int32.toInt 1 = 1 from by decide]
            have bz656437 : gB z656437 2 15 := gB_add (gI_add hz656437 bx656423 (gBl (show Int32.toInt 1 = 1 by decide)) (by decide) (by decide)) bx656423 (gBl (show Int32.toInt 1 = 1 by decide)) (by decide) (by decide)
            refine G_istore_n (L' := [(2, .int z656437), (3, .int g656415), (1, .int o656237), (0, .ref q656094)]) dr_cX17_operation_63 (Nat.le_of_ble_eq_true rfl) rfl ?_
            obtain ⟨z656438, hz656438⟩ : ∃ z : Int32, z = g656415 + Int32.ofInt 1 := ⟨_, rfl⟩
            have ez656438 : z656438.toInt = g656415.toInt + 1 := gI_inc hz656438 (by decide) bg656415' (by decide) (by decide)
            have bz656438 : gB z656438 1 16777215 := ⟨by omega, by omega⟩
            refine G_iinc (L' := [(3, .int z656438), (2, .int z656437), (1, .int o656237), (0, .ref q656094)]) z656438 1 dr_cX17_operation_64 rfl hz656438.symm (Nat.le_of_ble_eq_true rfl) rfl ?_
            refine G_goto 40 dr_cX17_operation_67 (by decide +kernel) ?_
            exact ih40_656418 z656438 z656437 (gB_w bz656438 (by decide) (by decide)) (by have qa0 : Int32.toInt 0 = 0 := (by decide); have qa1 : Int32.toInt 1 = 1 := (by decide); first | exact opI_st (d := 1) x656417 (by omega) (by omega) (by omega) x656431 (Or.inl ⟨by omega, rfl⟩) | exact opI_st (d := 0) x656417 (by omega) (by omega) (by omega) x656431 (Or.inr ⟨by omega, rfl⟩)) (by have qa0 : Int32.toInt 0 = 0 := (by decide); omega) (by have qa0 : Int32.toInt 0 = 0 := (by decide); omega)
    exact hlp40_656418 (((16777216 : Int) - 0).toNat + 1) 0 1 (gB_w (gBl (show Int32.toInt 0 = 0 by decide)) (by decide) (by decide)) opI_0 (by have qa0 : Int32.toInt 0 = 0 := (by decide); have qa1 : Int32.toInt 1 = 1 := (by decide); omega) (Nat.lt_succ_self _)
  · have r656439 : o656237.toInt < 0 := gj_nleL hc656240 (show Int32.toInt 0 = 0 by decide)
    have bo656237' : gB o656237 (-2147483646) (-1) := ⟨by omega, by omega⟩
    refine G_iconst 0 dr_cX17_operation_34 (by decide +kernel) ?_
    exact G_iretA dr_cX17_operation_35 rfl (Nat.le_of_ble_eq_true rfl) (show 20 + (o656185.toInt.toNat + 4) + 0 ≤ 64 by omega) ⟨P656209, F656210, 0, rfl, rfl, hsb656227, hfr656230, he656228, he656229, (Nat.le_of_ble_eq_true rfl), (by omega), (gB_w (gBl (show Int32.toInt 0 = 0 by decide)) (by decide) (by decide)), (by have qa0 : Int32.toInt 0 = 0 := (by decide); omega), (by have qa0 : Int32.toInt 0 = 0 := (by decide); omega)⟩
