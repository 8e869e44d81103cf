theorem dr_cX17_stand_0 : decode cX17_stand 0 = .ok (.aload_n 1, 1) := by decide +kernel
theorem dr_cX17_stand_1 : decode cX17_stand 1 = .ok (.iload_n 2, 1) := by decide +kernel
theorem dr_cX17_stand_2 : decode cX17_stand 2 = .ok (.invokestatic 55, 3) := by decide +kernel
theorem dr_cX17_stand_5 : decode cX17_stand 5 = .ok (.istore_n 3, 1) := by decide +kernel
theorem dr_cX17_stand_6 : decode cX17_stand 6 = .ok (.iload_n 3, 1) := by decide +kernel
theorem dr_cX17_stand_7 : decode cX17_stand 7 = .ok (.ifCond .lt 10, 3) := by decide +kernel
theorem dr_cX17_stand_17 : decode cX17_stand 17 = .ok (.iload_n 2, 1) := by decide +kernel
theorem dr_cX17_stand_18 : decode cX17_stand 18 = .ok (.ifCond .eq 23, 3) := by decide +kernel
theorem dr_cX17_stand_41 : decode cX17_stand 41 = .ok (.aload_n 1, 1) := by decide +kernel
theorem dr_cX17_stand_42 : decode cX17_stand 42 = .ok (.invokevirtual 70, 3) := by decide +kernel
theorem dr_cX17_stand_45 : decode cX17_stand 45 = .ok (.ifCond .eq 13, 3) := by decide +kernel
theorem dr_cX17_stand_58 : decode cX17_stand 58 = .ok (.aload_n 1, 1) := by decide +kernel
theorem dr_cX17_stand_59 : decode cX17_stand 59 = .ok (.invokevirtual 76, 3) := by decide +kernel
theorem dr_cX17_stand_62 : decode cX17_stand 62 = .ok (.ifCond .eq 13, 3) := by decide +kernel
theorem dr_cX17_stand_75 : decode cX17_stand 75 = .ok (.return_, 1) := by decide +kernel
theorem dr_cX17_stand_65 : decode cX17_stand 65 = .ok (.aload_n 0, 1) := by decide +kernel
theorem dr_cX17_stand_66 : decode cX17_stand 66 = .ok (.getfield 131, 3) := by decide +kernel
theorem wr_7_77 : (Jvm.Cond.fieldLink "SpillForgeModel" (131 : Nat) "SpillForgeModel" "stands" "[Z") ∈ gw := gw_7 77 rfl rfl
theorem dr_cX17_stand_69 : decode cX17_stand 69 = .ok (.aload_n 1, 1) := by decide +kernel
theorem dr_cX17_stand_70 : decode cX17_stand 70 = .ok (.getfield 79, 3) := by decide +kernel
theorem dr_cX17_stand_73 : decode cX17_stand 73 = .ok (.iconst 1, 1) := by decide +kernel
theorem dr_cX17_stand_74 : decode cX17_stand 74 = .ok (.bastore, 1) := by decide +kernel
theorem dr_cX17_stand_48 : decode cX17_stand 48 = .ok (.aload_n 0, 1) := by decide +kernel
theorem dr_cX17_stand_49 : decode cX17_stand 49 = .ok (.getfield 131, 3) := by decide +kernel
theorem dr_cX17_stand_52 : decode cX17_stand 52 = .ok (.aload_n 1, 1) := by decide +kernel
theorem dr_cX17_stand_53 : decode cX17_stand 53 = .ok (.getfield 73, 3) := by decide +kernel
theorem dr_cX17_stand_56 : decode cX17_stand 56 = .ok (.iconst 1, 1) := by decide +kernel
theorem dr_cX17_stand_57 : decode cX17_stand 57 = .ok (.bastore, 1) := by decide +kernel
theorem dr_cX17_stand_21 : decode cX17_stand 21 = .ok (.aload_n 1, 1) := by decide +kernel
theorem dr_cX17_stand_22 : decode cX17_stand 22 = .ok (.getfield 39, 3) := by decide +kernel
theorem dr_cX17_stand_25 : decode cX17_stand 25 = .ok (.bipush 21, 2) := by decide +kernel
theorem dr_cX17_stand_27 : decode cX17_stand 27 = .ok (.if_icmp .ne 13, 3) := by decide +kernel
theorem dr_cX17_stand_40 : decode cX17_stand 40 = .ok (.return_, 1) := by decide +kernel
theorem dr_cX17_stand_30 : decode cX17_stand 30 = .ok (.aload_n 0, 1) := by decide +kernel
theorem dr_cX17_stand_31 : decode cX17_stand 31 = .ok (.getfield 131, 3) := by decide +kernel
theorem dr_cX17_stand_34 : decode cX17_stand 34 = .ok (.aload_n 1, 1) := by decide +kernel
theorem dr_cX17_stand_35 : decode cX17_stand 35 = .ok (.getfield 45, 3) := by decide +kernel
theorem dr_cX17_stand_38 : decode cX17_stand 38 = .ok (.iconst 1, 1) := by decide +kernel
theorem dr_cX17_stand_39 : decode cX17_stand 39 = .ok (.bastore, 1) := by decide +kernel
theorem dr_cX17_stand_10 : decode cX17_stand 10 = .ok (.aload_n 0, 1) := by decide +kernel
theorem dr_cX17_stand_11 : decode cX17_stand 11 = .ok (.getfield 131, 3) := by decide +kernel
theorem dr_cX17_stand_14 : decode cX17_stand 14 = .ok (.iload_n 3, 1) := by decide +kernel
theorem dr_cX17_stand_15 : decode cX17_stand 15 = .ok (.iconst 1, 1) := by decide +kernel
theorem dr_cX17_stand_16 : decode cX17_stand 16 = .ok (.bastore, 1) := by decide +kernel
theorem dr_cX17_behind_0 : decode cX17_behind 0 = .ok (.iconst 0, 1) := by decide +kernel
theorem dr_cX17_behind_1 : decode cX17_behind 1 = .ok (.istore_n 2, 1) := by decide +kernel
theorem dr_cX17_behind_2 : decode cX17_behind 2 = .ok (.iload_n 2, 1) := by decide +kernel
theorem dr_cX17_behind_3 : decode cX17_behind 3 = .ok (.bipush 32, 2) := by decide +kernel
theorem dr_cX17_behind_5 : decode cX17_behind 5 = .ok (.if_icmp .ge 16, 3) := by decide +kernel
theorem dr_cX17_behind_21 : decode cX17_behind 21 = .ok (.iconst 0, 1) := by decide +kernel
theorem dr_cX17_behind_22 : decode cX17_behind 22 = .ok (.istore_n 2, 1) := by decide +kernel
theorem dr_cX17_behind_23 : decode cX17_behind 23 = .ok (.iload_n 2, 1) := by decide +kernel
theorem dr_cX17_behind_24 : decode cX17_behind 24 = .ok (.aload_n 1, 1) := by decide +kernel
theorem dr_cX17_behind_25 : decode cX17_behind 25 = .ok (.invokevirtual 82, 3) := by decide +kernel
theorem wr_10_166 : (Jvm.Cond.methodLink "SpillForgeModel" (82 : Nat) ({ cls := "SpillForgeModel$Block", name := "ways", desc := "()I" } : Jvm.MethodName)) ∈ gw := gw_10 166 rfl rfl
theorem wr_1_38 : (Jvm.Cond.initialized "SpillForgeModel$Block") ∈ gw := gw_1 38 rfl rfl
theorem wr_10_169 : (Jvm.Cond.code ({ cls := "SpillForgeModel$Block", name := "ways", desc := "()I" } : Jvm.MethodName) prog_15_method_2_code (1 : Nat) (Option.some Jvm.ClassFile.FieldType.int)) ∈ gw := gw_10 169 rfl rfl
theorem wr_10_167 : (Jvm.Cond.instanceMethod ({ cls := "SpillForgeModel$Block", name := "ways", desc := "()I" } : Jvm.MethodName)) ∈ gw := gw_10 167 rfl rfl
theorem wr_10_168 : (Jvm.Cond.selects "SpillForgeModel$Block" ({ cls := "SpillForgeModel$Block", name := "ways", desc := "()I" } : Jvm.MethodName) ({ cls := "SpillForgeModel$Block", name := "ways", desc := "()I" } : Jvm.MethodName)) ∈ gw := gw_10 168 rfl rfl
theorem dr_cX17_behind_28 : decode cX17_behind 28 = .ok (.if_icmp .ge 44, 3) := by decide +kernel
theorem dr_cX17_behind_72 : decode cX17_behind 72 = .ok (.return_, 1) := by decide +kernel
theorem dr_cX17_behind_31 : decode cX17_behind 31 = .ok (.iconst 0, 1) := by decide +kernel
theorem dr_cX17_behind_32 : decode cX17_behind 32 = .ok (.istore_n 3, 1) := by decide +kernel
theorem dr_cX17_behind_33 : decode cX17_behind 33 = .ok (.iload_n 3, 1) := by decide +kernel
theorem dr_cX17_behind_34 : decode cX17_behind 34 = .ok (.bipush 32, 2) := by decide +kernel
theorem dr_cX17_behind_36 : decode cX17_behind 36 = .ok (.if_icmp .ge 30, 3) := by decide +kernel
theorem dr_cX17_behind_66 : decode cX17_behind 66 = .ok (.iinc 2 1, 3) := by decide +kernel
theorem dr_cX17_behind_69 : decode cX17_behind 69 = .ok (.goto (-46), 3) := by decide +kernel
theorem dr_cX17_behind_39 : decode cX17_behind 39 = .ok (.aload_n 0, 1) := by decide +kernel
theorem dr_cX17_behind_40 : decode cX17_behind 40 = .ok (.getfield 59, 3) := by decide +kernel
theorem dr_cX17_behind_43 : decode cX17_behind 43 = .ok (.iload_n 3, 1) := by decide +kernel
theorem dr_cX17_behind_44 : decode cX17_behind 44 = .ok (.dup2, 1) := by decide +kernel
theorem dr_cX17_behind_45 : decode cX17_behind 45 = .ok (.laload, 1) := by decide +kernel
theorem dr_cX17_behind_46 : decode cX17_behind 46 = .ok (.aload_n 0, 1) := by decide +kernel
theorem dr_cX17_behind_47 : decode cX17_behind 47 = .ok (.getfield 88, 3) := by decide +kernel
theorem wr_7_74 : (Jvm.Cond.fieldLink "SpillForgeModel" (88 : Nat) "SpillForgeModel" "live" "[[J") ∈ gw := gw_7 74 rfl rfl
theorem dr_cX17_behind_50 : decode cX17_behind 50 = .ok (.aload_n 1, 1) := by decide +kernel
theorem dr_cX17_behind_51 : decode cX17_behind 51 = .ok (.iload_n 2, 1) := by decide +kernel
theorem dr_cX17_behind_52 : decode cX17_behind 52 = .ok (.invokevirtual 92, 3) := by decide +kernel
theorem wr_10_170 : (Jvm.Cond.methodLink "SpillForgeModel" (92 : Nat) ({ cls := "SpillForgeModel$Block", name := "way", desc := "(I)I" } : Jvm.MethodName)) ∈ gw := gw_10 170 rfl rfl
theorem wr_10_173 : (Jvm.Cond.code ({ cls := "SpillForgeModel$Block", name := "way", desc := "(I)I" } : Jvm.MethodName) prog_15_method_3_code (2 : Nat) (Option.some Jvm.ClassFile.FieldType.int)) ∈ gw := gw_10 173 rfl rfl
theorem wr_10_171 : (Jvm.Cond.instanceMethod ({ cls := "SpillForgeModel$Block", name := "way", desc := "(I)I" } : Jvm.MethodName)) ∈ gw := gw_10 171 rfl rfl
theorem wr_10_172 : (Jvm.Cond.selects "SpillForgeModel$Block" ({ cls := "SpillForgeModel$Block", name := "way", desc := "(I)I" } : Jvm.MethodName) ({ cls := "SpillForgeModel$Block", name := "way", desc := "(I)I" } : Jvm.MethodName)) ∈ gw := gw_10 172 rfl rfl
theorem dr_cX17_behind_55 : decode cX17_behind 55 = .ok (.aaload, 1) := by decide +kernel
theorem dr_cX17_behind_56 : decode cX17_behind 56 = .ok (.iload_n 3, 1) := by decide +kernel
theorem dr_cX17_behind_57 : decode cX17_behind 57 = .ok (.laload, 1) := by decide +kernel
theorem dr_cX17_behind_58 : decode cX17_behind 58 = .ok (.lor, 1) := by decide +kernel
theorem dr_cX17_behind_59 : decode cX17_behind 59 = .ok (.lastore, 1) := by decide +kernel
theorem dr_cX17_behind_60 : decode cX17_behind 60 = .ok (.iinc 3 1, 3) := by decide +kernel
theorem dr_cX17_behind_63 : decode cX17_behind 63 = .ok (.goto (-30), 3) := by decide +kernel
theorem dr_cX17_behind_8 : decode cX17_behind 8 = .ok (.aload_n 0, 1) := by decide +kernel
theorem dr_cX17_behind_9 : decode cX17_behind 9 = .ok (.getfield 59, 3) := by decide +kernel
theorem dr_cX17_behind_12 : decode cX17_behind 12 = .ok (.iload_n 2, 1) := by decide +kernel
theorem dr_cX17_behind_13 : decode cX17_behind 13 = .ok (.lconst 0, 1) := by decide +kernel
theorem dr_cX17_behind_14 : decode cX17_behind 14 = .ok (.lastore, 1) := by decide +kernel
theorem dr_cX17_behind_15 : decode cX17_behind 15 = .ok (.iinc 2 1, 3) := by decide +kernel
theorem dr_cX17_behind_18 : decode cX17_behind 18 = .ok (.goto (-16), 3) := by decide +kernel
theorem dr_cX17_value_0 : decode cX17_value 0 = .ok (.iload_n 1, 1) := by decide +kernel
theorem dr_cX17_value_1 : decode cX17_value 1 = .ok (.ifCond .eq 12, 3) := by decide +kernel
theorem dr_cX17_value_13 : decode cX17_value 13 = .ok (.iload_n 2, 1) := by decide +kernel
theorem dr_cX17_value_14 : decode cX17_value 14 = .ok (.ireturn, 1) := by decide +kernel
theorem dr_cX17_value_4 : decode cX17_value 4 = .ok (.aload_n 0, 1) := by decide +kernel
theorem dr_cX17_value_5 : decode cX17_value 5 = .ok (.getfield 271, 3) := by decide +kernel
theorem wr_7_94 : (Jvm.Cond.fieldLink "SpillForgeModel" (271 : Nat) "SpillForgeModel" "registers" "[I") ∈ gw := gw_7 94 rfl rfl
theorem dr_cX17_value_8 : decode cX17_value 8 = .ok (.iload_n 2, 1) := by decide +kernel
theorem dr_cX17_value_9 : decode cX17_value 9 = .ok (.iaload, 1) := by decide +kernel
theorem dr_cX17_value_10 : decode cX17_value 10 = .ok (.goto 4, 3) := by decide +kernel
theorem dr_cX17_leads_0 : decode cX17_leads 0 = .ok (.iconst 0, 1) := by decide +kernel
theorem dr_cX17_leads_1 : decode cX17_leads 1 = .ok (.istore_n 2, 1) := by decide +kernel
theorem dr_cX17_leads_2 : decode cX17_leads 2 = .ok (.iload_n 2, 1) := by decide +kernel
theorem dr_cX17_leads_3 : decode cX17_leads 3 = .ok (.aload_n 0, 1) := by decide +kernel
theorem dr_cX17_leads_4 : decode cX17_leads 4 = .ok (.invokevirtual 82, 3) := by decide +kernel
theorem dr_cX17_leads_7 : decode cX17_leads 7 = .ok (.if_icmp .ge 20, 3) := by decide +kernel
theorem dr_cX17_leads_27 : decode cX17_leads 27 = .ok (.iconst 0, 1) := by decide +kernel
theorem dr_cX17_leads_28 : decode cX17_leads 28 = .ok (.ireturn, 1) := by decide +kernel
theorem dr_cX17_leads_10 : decode cX17_leads 10 = .ok (.aload_n 0, 1) := by decide +kernel
theorem dr_cX17_leads_11 : decode cX17_leads 11 = .ok (.iload_n 2, 1) := by decide +kernel
theorem dr_cX17_leads_12 : decode cX17_leads 12 = .ok (.invokevirtual 92, 3) := by decide +kernel
theorem dr_cX17_leads_15 : decode cX17_leads 15 = .ok (.iload_n 1, 1) := by decide +kernel
theorem dr_cX17_leads_16 : decode cX17_leads 16 = .ok (.if_icmp .ne 5, 3) := by decide +kernel
theorem dr_cX17_leads_21 : decode cX17_leads 21 = .ok (.iinc 2 1, 3) := by decide +kernel
theorem dr_cX17_leads_24 : decode cX17_leads 24 = .ok (.goto (-22), 3) := by decide +kernel
theorem dr_cX17_leads_19 : decode cX17_leads 19 = .ok (.iconst 1, 1) := by decide +kernel
theorem dr_cX17_leads_20 : decode cX17_leads 20 = .ok (.ireturn, 1) := by decide +kernel
abbrev ky_2697_SpillForgeModel_stand : gKey := (cX17_stand, 4, "SpillForgeModel", none, [], "stand", fun _ _ => True)
def pt_2697_SpillForgeModel_stand (D : va_G) (I : FieldType → ClassId) (γ el : Nat → Nat → Nat) (P2692 : List Nat) (F2693 : Nat → va_E) (q2694 : Nat) (q2695 : Nat) (p2696 : Int32) : Option Value → va_W → Nat → Nat → Prop := fun r w dc ds => ∃ (F3075 : Nat → va_E), r = none ∧ w = va_pl P2692 F3075 ∧ RS D I P2692 F3075 γ el ∧ rStr γ F2693 F3075 ∧ dc ≤ 0 ∧ ds ≤ 0
set_option maxRecDepth 100000 in
set_option maxHeartbeats 4000000 in
theorem ct_2697_SpillForgeModel_stand (l : Launch) (hl0 : l.stackTraces = false) (D : va_G) (I : FieldType → ClassId) (γ el : Nat → Nat → Nat) (P2692 : List Nat) (F2693 : Nat → va_E) (q2694 : Nat) (q2695 : Nat) (p2696 : Int32) (hT : RS D I P2692 F2693 γ el) (htq2694 : rKd γ q2694 10) (htq2695 : rKd γ q2695 1) (bp2696 : gB p2696 0 1) : CtA (gV D I) l yX17_stand cX17_stand 4 none 2 41 0 0 [.ref q2694, .ref q2695, .int p2696] (va_pl P2692 F2693) (pt_2697_SpillForgeModel_stand D I γ el P2692 F2693 q2694 q2695 p2696) gNA := by
  refine CtA_of hl0 (by decide) (Nat.le_of_ble_eq_true rfl) ?_
  refine G_aload_n 1 dr_cX17_stand_0 rfl ?_
  refine G_iload_n 2 dr_cX17_stand_1 rfl ?_
  have hm2698 : q2695 ∈ P2692 := RS_m hT htq2695 (by decide)
  obtain ⟨p2700, p2701, p2702, p2703, p2704, p2705, p2706, he2699, bp2700, bp2701, bp2704, bp2705, bp2706, r2707, r2708, r2709, r2710⟩ := show rk_1 γ q2695 (F2693 q2695) from RS_o hT htq2695
  have bp2702 := gB_any p2702
  have bp2703 := gB_any p2703
  refine Gw_callS (As := [.ref q2695, .int p2696]) (gV_ok D I) (cp_1778_SpillForgeModel_setOf l hl0 D I P2692 F2693 q2695 p2696 p2700 p2701 p2702 p2703 p2704 p2705 p2706 hm2698 he2699 bp2696 bp2700 bp2701 bp2704 bp2705 bp2706) dr_cX17_stand_2 ⟨wr_10_178, wr_1_14, wr_10_180, by decide, rfl, (Nat.le_of_ble_eq_true rfl), (Nat.le_of_ble_eq_true rfl)⟩ wr_10_179 (show 0 + 0 ≤ 0 by first | omega | decide) (show 0 + 0 ≤ 0 by first | omega | decide) (Nat.le_of_ble_eq_true rfl) (fun r2714 w2715 dc2711 ds2712 hp2713 => ?_) (fun _ _ _ _ _ z => z.elim)
  obtain ⟨o2716, rfl, rfl, hdc, hds, bo2716⟩ := hp2713
  change G _ _ _ _ _ _ _ (.int o2716 :: _) _ _ _
  refine G_widen (cs' := 0) (sl' := 0) (by omega) (by omega) ?_
  refine G_istore_n (L' := [(3, .int o2716), (0, .ref q2694), (1, .ref q2695), (2, .int p2696)]) dr_cX17_stand_5 (Nat.le_of_ble_eq_true rfl) rfl ?_
  refine G_iload_n 0 dr_cX17_stand_6 rfl ?_
  refine G_if_lt 17 dr_cX17_stand_7 (by decide +kernel) (fun hc2717 => ?_) (fun hc2717 => ?_)
  · have r2718 : o2716.toInt < 0 := gj_lt hc2717 (show Int32.toInt 0 = 0 by decide)
    have bo2716' : gB o2716 (-1) (-1) := ⟨by omega, by omega⟩
    refine G_iload_n 3 dr_cX17_stand_17 rfl ?_
    refine G_if_eq 41 dr_cX17_stand_18 (by decide +kernel) (fun hc2719 => ?_) (fun hc2719 => ?_)
    · have r2720 : p2696.toInt = 0 := gj_eq hc2719 (show Int32.toInt 0 = 0 by decide)
      have bp2696' : gB p2696 0 0 := ⟨by omega, by omega⟩
      refine G_aload_n 2 dr_cX17_stand_41 rfl ?_
      refine Gw_callV (As := []) (gV_ok D I) (cp_1669_Row_usesA l hl0 D I P2692 F2693 q2695 p2700 p2701 p2702 p2703 p2704 p2705 p2706 hm2698 he2699 bp2700 bp2701 bp2704 bp2705 bp2706) dr_cX17_stand_42 ⟨wr_10_192, wr_1_39, wr_10_195, by decide, rfl, (Nat.le_of_ble_eq_true rfl), (Nat.le_of_ble_eq_true rfl)⟩ wr_10_193 wr_10_194 hm2698 he2699 rfl (show 0 + 0 ≤ 0 by first | omega | decide) (show 0 + 0 ≤ 0 by first | omega | decide) (Nat.le_of_ble_eq_true rfl) (fun r2724 w2725 dc2721 ds2722 hp2723 => ?_) (fun _ _ _ _ _ z => z.elim)
      obtain ⟨o2726, rfl, rfl, hdc, hds, bo2726, x2727⟩ := hp2723
      change G _ _ _ _ _ _ _ (.int o2726 :: _) _ _ _
      refine G_widen (cs' := 0) (sl' := 0) (by omega) (by omega) ?_
      refine G_if_eq 58 dr_cX17_stand_45 (by decide +kernel) (fun hc2728 => ?_) (fun hc2728 => ?_)
      · have r2729 : o2726.toInt = 0 := gj_eq hc2728 (show Int32.toInt 0 = 0 by decide)
        have bo2726' : gB o2726 0 0 := ⟨by omega, by omega⟩
        refine G_aload_n 2 dr_cX17_stand_58 rfl ?_
        refine Gw_callV (As := []) (gV_ok D I) (cp_1693_Row_usesB l hl0 D I P2692 F2693 q2695 p2700 p2701 p2702 p2703 p2704 p2705 p2706 hm2698 he2699 bp2700 bp2701 bp2704 bp2705 bp2706) dr_cX17_stand_59 ⟨wr_10_196, wr_1_39, wr_10_199, by decide, rfl, (Nat.le_of_ble_eq_true rfl), (Nat.le_of_ble_eq_true rfl)⟩ wr_10_197 wr_10_198 hm2698 he2699 rfl (show 0 + 0 ≤ 0 by first | omega | decide) (show 0 + 0 ≤ 0 by first | omega | decide) (Nat.le_of_ble_eq_true rfl) (fun r2733 w2734 dc2730 ds2731 hp2732 => ?_) (fun _ _ _ _ _ z => z.elim)
        obtain ⟨o2735, rfl, rfl, hdc, hds, bo2735, x2736⟩ := hp2732
        change G _ _ _ _ _ _ _ (.int o2735 :: _) _ _ _
        refine G_widen (cs' := 0) (sl' := 0) (by omega) (by omega) ?_
        refine G_if_eq 75 dr_cX17_stand_62 (by decide +kernel) (fun hc2737 => ?_) (fun hc2737 => ?_)
        · have r2738 : o2735.toInt = 0 := gj_eq hc2737 (show Int32.toInt 0 = 0 by decide)
          have bo2735' : gB o2735 0 0 := ⟨by omega, by omega⟩
          exact G_vretA dr_cX17_stand_75 rfl (Nat.le_of_ble_eq_true rfl) (Nat.le_of_ble_eq_true rfl) ⟨F2693, rfl, rfl, hT, (rStr_rf (γ := γ) (F := F2693)), (Nat.le_of_ble_eq_true rfl), (Nat.le_of_ble_eq_true rfl)⟩
        · have r2739 : o2735.toInt ≠ 0 := gj_neq hc2737 (show Int32.toInt 0 = 0 by decide)
          have bo2735' : gB o2735 1 1 := ⟨by omega, by omega⟩
          refine G_aload_n 1 dr_cX17_stand_65 rfl ?_
          have hm2740 : q2694 ∈ P2692 := RS_m hT htq2694 (by decide)
          obtain ⟨q2742, q2743, p2744, p2745, p2746, p2747, p2748, p2749, p2750, p2751, p2752, p2753, p2754, p2755, p2756, p2757, p2758, he2741, hB2785, ht2759, ht2760, ht2761, ht2762, ht2763, ht2764, ht2765, ht2766, ht2767, ht2768, ht2769, ht2770, ht2771, ht2772, ht2773, ht2774, ht2775, ht2776, ht2777, ht2778, ht2779, ht2780, ht2781, ht2782, hB2786⟩ := show rk_10 γ (F2693 q2694) from RS_o hT htq2694
          refine Gp_get 3 hm2740 he2741 dr_cX17_stand_66 (gk_X17 D I) (Nat.le_of_ble_eq_true rfl) wr_7_77 rfl ?_
          refine G_aload_n 2 dr_cX17_stand_69 rfl ?_
          refine Gp_get 3 hm2698 he2699 dr_cX17_stand_70 (gk_X15 D I) (Nat.le_of_ble_eq_true rfl) wr_9_190 rfl ?_
          refine G_iconst 1 dr_cX17_stand_73 (by decide +kernel) ?_
          have hm2787 : (γ 9 3) ∈ P2692 := RS_m hT ht2764 (by decide)
          obtain ⟨f2789, he2788, bf2789⟩ := show rk_14 I (F2693 (γ 9 3)) from RS_o hT ht2764
          refine Gp_zast 3 hm2787 he2788 dr_cX17_stand_74 rfl (gB_inr (by omega) (by omega)) (fun F2790 e2791 n2792 => ?_)
          obtain ⟨f2793, hf2793⟩ : ∃ z, z = upd f2789 p2703.toNatClampNeg (vp_nar .boolean 1) := ⟨_, rfl⟩
          rw [← hf2793] at e2791
          have he2794 : F2790 q2695 = .inr (20, [.int p2700, .int p2701, .int p2702, .int p2703, .int p2704, .int p2705, .int p2706]) := (n2792 q2695 (rn_oa he2699 he2788)).trans he2699
          have he2795 : F2790 q2694 = .inr (22, [.ref (γ 9 0), .ref (γ 9 1), .ref (γ 9 2), .ref (γ 9 3), .ref (γ 9 4), .ref (γ 9 5), .ref (γ 9 6), .ref (γ 9 7), .ref (γ 9 8), .int p2744, .int p2745, .int p2746, .int p2747, .int p2748, .int p2749, .ref (γ 9 15), .ref (γ 9 16), .ref (γ 9 17), .ref (γ 9 18), .ref (γ 9 19), .ref (γ 9 20), .ref (γ 9 21), .ref (γ 9 22), .int p2750, .int p2751, .int p2752, .int p2753, .int p2754, .ref q2742, .ref (γ 9 29), .int p2755, .ref (γ 9 31), .int p2756, .int p2757, .int p2758, .ref q2743]) := (n2792 q2694 (rn_oa he2741 he2788)).trans he2741
          have he2796 : F2790 (γ 9 3) = .inl (I .boolean, 2000, .inl f2793) := e2791
          have hs2797 : rStr γ F2693 F2790 := rStr_put (rStr_rf (γ := γ) (F := F2693)) n2792 ht2764 (by decide)
          have bf2793 : gF f2793 0 1 := gF_upd hf2793 bf2789 (gB_w (gBl (show Int32.toInt 1 = 1 by decide)) (by decide) (by decide))
          have hT2798 : RS D I P2692 F2790 γ el := RS_set hT n2792 ht2764 (by decide) ⟨f2793, he2796, bf2793⟩
          exact G_vretA dr_cX17_stand_75 rfl (Nat.le_of_ble_eq_true rfl) (Nat.le_of_ble_eq_true rfl) ⟨F2790, rfl, rfl, hT2798, hs2797, (Nat.le_of_ble_eq_true rfl), (Nat.le_of_ble_eq_true rfl)⟩
      · have r2799 : o2726.toInt ≠ 0 := gj_neq hc2728 (show Int32.toInt 0 = 0 by decide)
        have bo2726' : gB o2726 1 1 := ⟨by omega, by omega⟩
        refine G_aload_n 1 dr_cX17_stand_48 rfl ?_
        have hm2800 : q2694 ∈ P2692 := RS_m hT htq2694 (by decide)
        obtain ⟨q2802, q2803, p2804, p2805, p2806, p2807, p2808, p2809, p2810, p2811, p2812, p2813, p2814, p2815, p2816, p2817, p2818, he2801, hB2845, ht2819, ht2820, ht2821, ht2822, ht2823, ht2824, ht2825, ht2826, ht2827, ht2828, ht2829, ht2830, ht2831, ht2832, ht2833, ht2834, ht2835, ht2836, ht2837, ht2838, ht2839, ht2840, ht2841, ht2842, hB2846⟩ := show rk_10 γ (F2693 q2694) from RS_o hT htq2694
        refine Gp_get 3 hm2800 he2801 dr_cX17_stand_49 (gk_X17 D I) (Nat.le_of_ble_eq_true rfl) wr_7_77 rfl ?_
        refine G_aload_n 2 dr_cX17_stand_52 rfl ?_
        refine Gp_get 2 hm2698 he2699 dr_cX17_stand_53 (gk_X15 D I) (Nat.le_of_ble_eq_true rfl) wr_9_186 rfl ?_
        refine G_iconst 1 dr_cX17_stand_56 (by decide +kernel) ?_
        have hm2847 : (γ 9 3) ∈ P2692 := RS_m hT ht2824 (by decide)
        obtain ⟨f2849, he2848, bf2849⟩ := show rk_14 I (F2693 (γ 9 3)) from RS_o hT ht2824
        refine Gp_zast 3 hm2847 he2848 dr_cX17_stand_57 rfl (gB_inr (by omega) (by omega)) (fun F2850 e2851 n2852 => ?_)
        obtain ⟨f2853, hf2853⟩ : ∃ z, z = upd f2849 p2702.toNatClampNeg (vp_nar .boolean 1) := ⟨_, rfl⟩
        rw [← hf2853] at e2851
        have he2854 : F2850 q2695 = .inr (20, [.int p2700, .int p2701, .int p2702, .int p2703, .int p2704, .int p2705, .int p2706]) := (n2852 q2695 (rn_oa he2699 he2848)).trans he2699
        have he2855 : F2850 q2694 = .inr (22, [.ref (γ 9 0), .ref (γ 9 1), .ref (γ 9 2), .ref (γ 9 3), .ref (γ 9 4), .ref (γ 9 5), .ref (γ 9 6), .ref (γ 9 7), .ref (γ 9 8), .int p2804, .int p2805, .int p2806, .int p2807, .int p2808, .int p2809, .ref (γ 9 15), .ref (γ 9 16), .ref (γ 9 17), .ref (γ 9 18), .ref (γ 9 19), .ref (γ 9 20), .ref (γ 9 21), .ref (γ 9 22), .int p2810, .int p2811, .int p2812, .int p2813, .int p2814, .ref q2802, .ref (γ 9 29), .int p2815, .ref (γ 9 31), .int p2816, .int p2817, .int p2818, .ref q2803]) := (n2852 q2694 (rn_oa he2801 he2848)).trans he2801
        have he2856 : F2850 (γ 9 3) = .inl (I .boolean, 2000, .inl f2853) := e2851
        have hs2857 : rStr γ F2693 F2850 := rStr_put (rStr_rf (γ := γ) (F := F2693)) n2852 ht2824 (by decide)
        have bf2853 : gF f2853 0 1 := gF_upd hf2853 bf2849 (gB_w (gBl (show Int32.toInt 1 = 1 by decide)) (by decide) (by decide))
        refine G_aload_n 2 dr_cX17_stand_58 rfl ?_
        have hT2858 : RS D I P2692 F2850 γ el := RS_set hT n2852 ht2824 (by decide) ⟨f2853, he2856, bf2853⟩
        refine Gw_callV (As := []) (gV_ok D I) (cp_1693_Row_usesB l hl0 D I P2692 F2850 q2695 p2700 p2701 p2702 p2703 p2704 p2705 p2706 hm2698 he2854 bp2700 bp2701 bp2704 bp2705 bp2706) dr_cX17_stand_59 ⟨wr_10_196, wr_1_39, wr_10_199, by decide, rfl, (Nat.le_of_ble_eq_true rfl), (Nat.le_of_ble_eq_true rfl)⟩ wr_10_197 wr_10_198 hm2698 he2854 rfl (show 0 + 0 ≤ 0 by first | omega | decide) (show 0 + 0 ≤ 0 by first | omega | decide) (Nat.le_of_ble_eq_true rfl) (fun r2862 w2863 dc2859 ds2860 hp2861 => ?_) (fun _ _ _ _ _ z => z.elim)
        obtain ⟨o2864, rfl, rfl, hdc, hds, bo2864, x2865⟩ := hp2861
        change G _ _ _ _ _ _ _ (.int o2864 :: _) _ _ _
        refine G_widen (cs' := 0) (sl' := 0) (by omega) (by omega) ?_
        refine G_if_eq 75 dr_cX17_stand_62 (by decide +kernel) (fun hc2866 => ?_) (fun hc2866 => ?_)
        · have r2867 : o2864.toInt = 0 := gj_eq hc2866 (show Int32.toInt 0 = 0 by decide)
          have bo2864' : gB o2864 0 0 := ⟨by omega, by omega⟩
          exact G_vretA dr_cX17_stand_75 rfl (Nat.le_of_ble_eq_true rfl) (Nat.le_of_ble_eq_true rfl) ⟨F2850, rfl, rfl, hT2858, hs2857, (Nat.le_of_ble_eq_true rfl), (Nat.le_of_ble_eq_true rfl)⟩
        · have r2868 : o2864.toInt ≠ 0 := gj_neq hc2866 (show Int32.toInt 0 = 0 by decide)
          have bo2864' : gB o2864 1 1 := ⟨by omega, by omega⟩
          refine G_aload_n 1 dr_cX17_stand_65 rfl ?_
          refine Gp_get 3 hm2800 he2855 dr_cX17_stand_66 (gk_X17 D I) (Nat.le_of_ble_eq_true rfl) wr_7_77 rfl ?_
          refine G_aload_n 2 dr_cX17_stand_69 rfl ?_
          refine Gp_get 3 hm2698 he2854 dr_cX17_stand_70 (gk_X15 D I) (Nat.le_of_ble_eq_true rfl) wr_9_190 rfl ?_
          refine G_iconst 1 dr_cX17_stand_73 (by decide +kernel) ?_
          refine Gp_zast 3 hm2847 he2856 dr_cX17_stand_74 rfl (gB_inr (by omega) (by omega)) (fun F2869 e2870 n2871 => ?_)
          obtain ⟨f2872, hf2872⟩ : ∃ z, z = upd f2853 p2703.toNatClampNeg (vp_nar .boolean 1) := ⟨_, rfl⟩
          rw [← hf2872] at e2870
          have he2873 : F2869 q2695 = .inr (20, [.int p2700, .int p2701, .int p2702, .int p2703, .int p2704, .int p2705, .int p2706]) := (n2871 q2695 (rn_oa he2854 he2856)).trans he2854
          have he2874 : F2869 q2694 = .inr (22, [.ref (γ 9 0), .ref (γ 9 1), .ref (γ 9 2), .ref (γ 9 3), .ref (γ 9 4), .ref (γ 9 5), .ref (γ 9 6), .ref (γ 9 7), .ref (γ 9 8), .int p2804, .int p2805, .int p2806, .int p2807, .int p2808, .int p2809, .ref (γ 9 15), .ref (γ 9 16), .ref (γ 9 17), .ref (γ 9 18), .ref (γ 9 19), .ref (γ 9 20), .ref (γ 9 21), .ref (γ 9 22), .int p2810, .int p2811, .int p2812, .int p2813, .int p2814, .ref q2802, .ref (γ 9 29), .int p2815, .ref (γ 9 31), .int p2816, .int p2817, .int p2818, .ref q2803]) := (n2871 q2694 (rn_oa he2855 he2856)).trans he2855
          have he2875 : F2869 (γ 9 3) = .inl (I .boolean, 2000, .inl f2872) := e2870
          have hs2876 : rStr γ F2693 F2869 := rStr_put hs2857 n2871 ht2824 (by decide)
          have bf2872 : gF f2872 0 1 := gF_upd hf2872 bf2853 (gB_w (gBl (show Int32.toInt 1 = 1 by decide)) (by decide) (by decide))
          have hT2877 : RS D I P2692 F2869 γ el := RS_set hT2858 n2871 ht2824 (by decide) ⟨f2872, he2875, bf2872⟩
          exact G_vretA dr_cX17_stand_75 rfl (Nat.le_of_ble_eq_true rfl) (Nat.le_of_ble_eq_true rfl) ⟨F2869, rfl, rfl, hT2877, hs2876, (Nat.le_of_ble_eq_true rfl), (Nat.le_of_ble_eq_true rfl)⟩
    · have r2878 : p2696.toInt ≠ 0 := gj_neq hc2719 (show Int32.toInt 0 = 0 by decide)
      have bp2696' : gB p2696 1 1 := ⟨by omega, by omega⟩
      refine G_aload_n 2 dr_cX17_stand_21 rfl ?_
      refine Gp_get 0 hm2698 he2699 dr_cX17_stand_22 (gk_X15 D I) (Nat.le_of_ble_eq_true rfl) wr_9_177 rfl ?_
      refine G_bipush 21 dr_cX17_stand_25 (by decide +kernel) ?_
      refine G_icmp_ne 40 dr_cX17_stand_27 (by decide +kernel) (fun hc2879 => ?_) (fun hc2879 => ?_)
      · have r2880 : p2700.toInt ≠ 21 := gj_neq hc2879 (show Int32.toInt 21 = 21 by decide)
        exact G_vretA dr_cX17_stand_40 rfl (Nat.le_of_ble_eq_true rfl) (Nat.le_of_ble_eq_true rfl) ⟨F2693, rfl, rfl, hT, (rStr_rf (γ := γ) (F := F2693)), (Nat.le_of_ble_eq_true rfl), (Nat.le_of_ble_eq_true rfl)⟩
      · have r2881 : p2700.toInt = 21 := gj_eq hc2879 (show Int32.toInt 21 = 21 by decide)
        have bp2700' : gB p2700 21 21 := ⟨by omega, by omega⟩
        refine G_aload_n 1 dr_cX17_stand_30 rfl ?_
        have hm2882 : q2694 ∈ P2692 := RS_m hT htq2694 (by decide)
        obtain ⟨q2884, q2885, p2886, p2887, p2888, p2889, p2890, p2891, p2892, p2893, p2894, p2895, p2896, p2897, p2898, p2899, p2900, he2883, hB2927, ht2901, ht2902, ht2903, ht2904, ht2905, ht2906, ht2907, ht2908, ht2909, ht2910, ht2911, ht2912, ht2913, ht2914, ht2915, ht2916, ht2917, ht2918, ht2919, ht2920, ht2921, ht2922, ht2923, ht2924, hB2928⟩ := show rk_10 γ (F2693 q2694) from RS_o hT htq2694
        refine Gp_get 3 hm2882 he2883 dr_cX17_stand_31 (gk_X17 D I) (Nat.le_of_ble_eq_true rfl) wr_7_77 rfl ?_
        refine G_aload_n 2 dr_cX17_stand_34 rfl ?_
        refine Gp_get 4 hm2698 he2699 dr_cX17_stand_35 (gk_X15 D I) (Nat.le_of_ble_eq_true rfl) wr_9_193 rfl ?_
        refine G_iconst 1 dr_cX17_stand_38 (by decide +kernel) ?_
        have hm2929 : (γ 9 3) ∈ P2692 := RS_m hT ht2906 (by decide)
        obtain ⟨f2931, he2930, bf2931⟩ := show rk_14 I (F2693 (γ 9 3)) from RS_o hT ht2906
        refine Gp_zast 3 hm2929 he2930 dr_cX17_stand_39 rfl (gB_in bp2704 (by decide) (by decide)) (fun F2932 e2933 n2934 => ?_)
        obtain ⟨f2935, hf2935⟩ : ∃ z, z = upd f2931 p2704.toNatClampNeg (vp_nar .boolean 1) := ⟨_, rfl⟩
        rw [← hf2935] at e2933
        have he2936 : F2932 q2695 = .inr (20, [.int p2700, .int p2701, .int p2702, .int p2703, .int p2704, .int p2705, .int p2706]) := (n2934 q2695 (rn_oa he2699 he2930)).trans he2699
        have he2937 : F2932 q2694 = .inr (22, [.ref (γ 9 0), .ref (γ 9 1), .ref (γ 9 2), .ref (γ 9 3), .ref (γ 9 4), .ref (γ 9 5), .ref (γ 9 6), .ref (γ 9 7), .ref (γ 9 8), .int p2886, .int p2887, .int p2888, .int p2889, .int p2890, .int p2891, .ref (γ 9 15), .ref (γ 9 16), .ref (γ 9 17), .ref (γ 9 18), .ref (γ 9 19), .ref (γ 9 20), .ref (γ 9 21), .ref (γ 9 22), .int p2892, .int p2893, .int p2894, .int p2895, .int p2896, .ref q2884, .ref (γ 9 29), .int p2897, .ref (γ 9 31), .int p2898, .int p2899, .int p2900, .ref q2885]) := (n2934 q2694 (rn_oa he2883 he2930)).trans he2883
        have he2938 : F2932 (γ 9 3) = .inl (I .boolean, 2000, .inl f2935) := e2933
        have hs2939 : rStr γ F2693 F2932 := rStr_put (rStr_rf (γ := γ) (F := F2693)) n2934 ht2906 (by decide)
        have bf2935 : gF f2935 0 1 := gF_upd hf2935 bf2931 (gB_w (gBl (show Int32.toInt 1 = 1 by decide)) (by decide) (by decide))
        have hT2940 : RS D I P2692 F2932 γ el := RS_set hT n2934 ht2906 (by decide) ⟨f2935, he2938, bf2935⟩
        exact G_vretA dr_cX17_stand_40 rfl (Nat.le_of_ble_eq_true rfl) (Nat.le_of_ble_eq_true rfl) ⟨F2932, rfl, rfl, hT2940, hs2939, (Nat.le_of_ble_eq_true rfl), (Nat.le_of_ble_eq_true rfl)⟩
  · have r2941 : 0 ≤ o2716.toInt := gj_nlt hc2717 (show Int32.toInt 0 = 0 by decide)
    have bo2716' : gB o2716 0 1999 := ⟨by omega, by omega⟩
    refine G_aload_n 1 dr_cX17_stand_10 rfl ?_
    have hm2942 : q2694 ∈ P2692 := RS_m hT htq2694 (by decide)
    obtain ⟨q2944, q2945, p2946, p2947, p2948, p2949, p2950, p2951, p2952, p2953, p2954, p2955, p2956, p2957, p2958, p2959, p2960, he2943, hB2987, ht2961, ht2962, ht2963, ht2964, ht2965, ht2966, ht2967, ht2968, ht2969, ht2970, ht2971, ht2972, ht2973, ht2974, ht2975, ht2976, ht2977, ht2978, ht2979, ht2980, ht2981, ht2982, ht2983, ht2984, hB2988⟩ := show rk_10 γ (F2693 q2694) from RS_o hT htq2694
    refine Gp_get 3 hm2942 he2943 dr_cX17_stand_11 (gk_X17 D I) (Nat.le_of_ble_eq_true rfl) wr_7_77 rfl ?_
    refine G_iload_n 0 dr_cX17_stand_14 rfl ?_
    refine G_iconst 1 dr_cX17_stand_15 (by decide +kernel) ?_
    have hm2989 : (γ 9 3) ∈ P2692 := RS_m hT ht2966 (by decide)
    obtain ⟨f2991, he2990, bf2991⟩ := show rk_14 I (F2693 (γ 9 3)) from RS_o hT ht2966
    refine Gp_zast 3 hm2989 he2990 dr_cX17_stand_16 rfl (gB_in bo2716' (by decide) (by decide)) (fun F2992 e2993 n2994 => ?_)
    obtain ⟨f2995, hf2995⟩ : ∃ z, z = upd f2991 o2716.toNatClampNeg (vp_nar .boolean 1) := ⟨_, rfl⟩
    rw [← hf2995] at e2993
    have he2996 : F2992 q2695 = .inr (20, [.int p2700, .int p2701, .int p2702, .int p2703, .int p2704, .int p2705, .int p2706]) := (n2994 q2695 (rn_oa he2699 he2990)).trans he2699
    have he2997 : F2992 q2694 = .inr (22, [.ref (γ 9 0), .ref (γ 9 1), .ref (γ 9 2), .ref (γ 9 3), .ref (γ 9 4), .ref (γ 9 5), .ref (γ 9 6), .ref (γ 9 7), .ref (γ 9 8), .int p2946, .int p2947, .int p2948, .int p2949, .int p2950, .int p2951, .ref (γ 9 15), .ref (γ 9 16), .ref (γ 9 17), .ref (γ 9 18), .ref (γ 9 19), .ref (γ 9 20), .ref (γ 9 21), .ref (γ 9 22), .int p2952, .int p2953, .int p2954, .int p2955, .int p2956, .ref q2944, .ref (γ 9 29), .int p2957, .ref (γ 9 31), .int p2958, .int p2959, .int p2960, .ref q2945]) := (n2994 q2694 (rn_oa he2943 he2990)).trans he2943
    have he2998 : F2992 (γ 9 3) = .inl (I .boolean, 2000, .inl f2995) := e2993
    have hs2999 : rStr γ F2693 F2992 := rStr_put (rStr_rf (γ := γ) (F := F2693)) n2994 ht2966 (by decide)
    have bf2995 : gF f2995 0 1 := gF_upd hf2995 bf2991 (gB_w (gBl (show Int32.toInt 1 = 1 by decide)) (by decide) (by decide))
    refine G_iload_n 3 dr_cX17_stand_17 rfl ?_
    refine G_if_eq 41 dr_cX17_stand_18 (by decide +kernel) (fun hc3000 => ?_) (fun hc3000 => ?_)
    · have r3001 : p2696.toInt = 0 := gj_eq hc3000 (show Int32.toInt 0 = 0 by decide)
      have bp2696' : gB p2696 0 0 := ⟨by omega, by omega⟩
      refine G_aload_n 2 dr_cX17_stand_41 rfl ?_
      have hT3002 : RS D I P2692 F2992 γ el := RS_set hT n2994 ht2966 (by decide) ⟨f2995, he2998, bf2995⟩
      refine Gw_callV (As := []) (gV_ok D I) (cp_1669_Row_usesA l hl0 D I P2692 F2992 q2695 p2700 p2701 p2702 p2703 p2704 p2705 p2706 hm2698 he2996 bp2700 bp2701 bp2704 bp2705 bp2706) dr_cX17_stand_42 ⟨wr_10_192, wr_1_39, wr_10_195, by decide, rfl, (Nat.le_of_ble_eq_true rfl), (Nat.le_of_ble_eq_true rfl)⟩ wr_10_193 wr_10_194 hm2698 he2996 rfl (show 0 + 0 ≤ 0 by first | omega | decide) (show 0 + 0 ≤ 0 by first | omega | decide) (Nat.le_of_ble_eq_true rfl) (fun r3006 w3007 dc3003 ds3004 hp3005 => ?_) (fun _ _ _ _ _ z => z.elim)
      obtain ⟨o3008, rfl, rfl, hdc, hds, bo3008, x3009⟩ := hp3005
      change G _ _ _ _ _ _ _ (.int o3008 :: _) _ _ _
      refine G_widen (cs' := 0) (sl' := 0) (by omega) (by omega) ?_
      refine G_if_eq 58 dr_cX17_stand_45 (by decide +kernel) (fun hc3010 => ?_) (fun hc3010 => ?_)
      · have r3011 : o3008.toInt = 0 := gj_eq hc3010 (show Int32.toInt 0 = 0 by decide)
        have bo3008' : gB o3008 0 0 := ⟨by omega, by omega⟩
        refine G_aload_n 2 dr_cX17_stand_58 rfl ?_
        refine Gw_callV (As := []) (gV_ok D I) (cp_1693_Row_usesB l hl0 D I P2692 F2992 q2695 p2700 p2701 p2702 p2703 p2704 p2705 p2706 hm2698 he2996 bp2700 bp2701 bp2704 bp2705 bp2706) dr_cX17_stand_59 ⟨wr_10_196, wr_1_39, wr_10_199, by decide, rfl, (Nat.le_of_ble_eq_true rfl), (Nat.le_of_ble_eq_true rfl)⟩ wr_10_197 wr_10_198 hm2698 he2996 rfl (show 0 + 0 ≤ 0 by first | omega | decide) (show 0 + 0 ≤ 0 by first | omega | decide) (Nat.le_of_ble_eq_true rfl) (fun r3015 w3016 dc3012 ds3013 hp3014 => ?_) (fun _ _ _ _ _ z => z.elim)
        obtain ⟨o3017, rfl, rfl, hdc, hds, bo3017, x3018⟩ := hp3014
        change G _ _ _ _ _ _ _ (.int o3017 :: _) _ _ _
        refine G_widen (cs' := 0) (sl' := 0) (by omega) (by omega) ?_
        refine G_if_eq 75 dr_cX17_stand_62 (by decide +kernel) (fun hc3019 => ?_) (fun hc3019 => ?_)
        · have r3020 : o3017.toInt = 0 := gj_eq hc3019 (show Int32.toInt 0 = 0 by decide)
          have bo3017' : gB o3017 0 0 := ⟨by omega, by omega⟩
          exact G_vretA dr_cX17_stand_75 rfl (Nat.le_of_ble_eq_true rfl) (Nat.le_of_ble_eq_true rfl) ⟨F2992, rfl, rfl, hT3002, hs2999, (Nat.le_of_ble_eq_true rfl), (Nat.le_of_ble_eq_true rfl)⟩
        · have r3021 : o3017.toInt ≠ 0 := gj_neq hc3019 (show Int32.toInt 0 = 0 by decide)
          have bo3017' : gB o3017 1 1 := ⟨by omega, by omega⟩
          refine G_aload_n 1 dr_cX17_stand_65 rfl ?_
          refine Gp_get 3 hm2942 he2997 dr_cX17_stand_66 (gk_X17 D I) (Nat.le_of_ble_eq_true rfl) wr_7_77 rfl ?_
          refine G_aload_n 2 dr_cX17_stand_69 rfl ?_
          refine Gp_get 3 hm2698 he2996 dr_cX17_stand_70 (gk_X15 D I) (Nat.le_of_ble_eq_true rfl) wr_9_190 rfl ?_
          refine G_iconst 1 dr_cX17_stand_73 (by decide +kernel) ?_
          refine Gp_zast 3 hm2989 he2998 dr_cX17_stand_74 rfl (gB_inr (by omega) (by omega)) (fun F3022 e3023 n3024 => ?_)
          obtain ⟨f3025, hf3025⟩ : ∃ z, z = upd f2995 p2703.toNatClampNeg (vp_nar .boolean 1) := ⟨_, rfl⟩
          rw [← hf3025] at e3023
          have he3026 : F3022 q2695 = .inr (20, [.int p2700, .int p2701, .int p2702, .int p2703, .int p2704, .int p2705, .int p2706]) := (n3024 q2695 (rn_oa he2996 he2998)).trans he2996
          have he3027 : F3022 q2694 = .inr (22, [.ref (γ 9 0), .ref (γ 9 1), .ref (γ 9 2), .ref (γ 9 3), .ref (γ 9 4), .ref (γ 9 5), .ref (γ 9 6), .ref (γ 9 7), .ref (γ 9 8), .int p2946, .int p2947, .int p2948, .int p2949, .int p2950, .int p2951, .ref (γ 9 15), .ref (γ 9 16), .ref (γ 9 17), .ref (γ 9 18), .ref (γ 9 19), .ref (γ 9 20), .ref (γ 9 21), .ref (γ 9 22), .int p2952, .int p2953, .int p2954, .int p2955, .int p2956, .ref q2944, .ref (γ 9 29), .int p2957, .ref (γ 9 31), .int p2958, .int p2959, .int p2960, .ref q2945]) := (n3024 q2694 (rn_oa he2997 he2998)).trans he2997
          have he3028 : F3022 (γ 9 3) = .inl (I .boolean, 2000, .inl f3025) := e3023
          have hs3029 : rStr γ F2693 F3022 := rStr_put hs2999 n3024 ht2966 (by decide)
          have bf3025 : gF f3025 0 1 := gF_upd hf3025 bf2995 (gB_w (gBl (show Int32.toInt 1 = 1 by decide)) (by decide) (by decide))
          have hT3030 : RS D I P2692 F3022 γ el := RS_set hT3002 n3024 ht2966 (by decide) ⟨f3025, he3028, bf3025⟩
          exact G_vretA dr_cX17_stand_75 rfl (Nat.le_of_ble_eq_true rfl) (Nat.le_of_ble_eq_true rfl) ⟨F3022, rfl, rfl, hT3030, hs3029, (Nat.le_of_ble_eq_true rfl), (Nat.le_of_ble_eq_true rfl)⟩
      · have r3031 : o3008.toInt ≠ 0 := gj_neq hc3010 (show Int32.toInt 0 = 0 by decide)
        have bo3008' : gB o3008 1 1 := ⟨by omega, by omega⟩
        refine G_aload_n 1 dr_cX17_stand_48 rfl ?_
        refine Gp_get 3 hm2942 he2997 dr_cX17_stand_49 (gk_X17 D I) (Nat.le_of_ble_eq_true rfl) wr_7_77 rfl ?_
        refine G_aload_n 2 dr_cX17_stand_52 rfl ?_
        refine Gp_get 2 hm2698 he2996 dr_cX17_stand_53 (gk_X15 D I) (Nat.le_of_ble_eq_true rfl) wr_9_186 rfl ?_
        refine G_iconst 1 dr_cX17_stand_56 (by decide +kernel) ?_
        refine Gp_zast 3 hm2989 he2998 dr_cX17_stand_57 rfl (gB_inr (by omega) (by omega)) (fun F3032 e3033 n3034 => ?_)
        obtain ⟨f3035, hf3035⟩ : ∃ z, z = upd f2995 p2702.toNatClampNeg (vp_nar .boolean 1) := ⟨_, rfl⟩
        rw [← hf3035] at e3033
        have he3036 : F3032 q2695 = .inr (20, [.int p2700, .int p2701, .int p2702, .int p2703, .int p2704, .int p2705, .int p2706]) := (n3034 q2695 (rn_oa he2996 he2998)).trans he2996
        have he3037 : F3032 q2694 = .inr (22, [.ref (γ 9 0), .ref (γ 9 1), .ref (γ 9 2), .ref (γ 9 3), .ref (γ 9 4), .ref (γ 9 5), .ref (γ 9 6), .ref (γ 9 7), .ref (γ 9 8), .int p2946, .int p2947, .int p2948, .int p2949, .int p2950, .int p2951, .ref (γ 9 15), .ref (γ 9 16), .ref (γ 9 17), .ref (γ 9 18), .ref (γ 9 19), .ref (γ 9 20), .ref (γ 9 21), .ref (γ 9 22), .int p2952, .int p2953, .int p2954, .int p2955, .int p2956, .ref q2944, .ref (γ 9 29), .int p2957, .ref (γ 9 31), .int p2958, .int p2959, .int p2960, .ref q2945]) := (n3034 q2694 (rn_oa he2997 he2998)).trans he2997
        have he3038 : F3032 (γ 9 3) = .inl (I .boolean, 2000, .inl f3035) := e3033
        have hs3039 : rStr γ F2693 F3032 := rStr_put hs2999 n3034 ht2966 (by decide)
        have bf3035 : gF f3035 0 1 := gF_upd hf3035 bf2995 (gB_w (gBl (show Int32.toInt 1 = 1 by decide)) (by decide) (by decide))
        refine G_aload_n 2 dr_cX17_stand_58 rfl ?_
        have hT3040 : RS D I P2692 F3032 γ el := RS_set hT3002 n3034 ht2966 (by decide) ⟨f3035, he3038, bf3035⟩
        refine Gw_callV (As := []) (gV_ok D I) (cp_1693_Row_usesB l hl0 D I P2692 F3032 q2695 p2700 p2701 p2702 p2703 p2704 p2705 p2706 hm2698 he3036 bp2700 bp2701 bp2704 bp2705 bp2706) dr_cX17_stand_59 ⟨wr_10_196, wr_1_39, wr_10_199, by decide, rfl, (Nat.le_of_ble_eq_true rfl), (Nat.le_of_ble_eq_true rfl)⟩ wr_10_197 wr_10_198 hm2698 he3036 rfl (show 0 + 0 ≤ 0 by first | omega | decide) (show 0 + 0 ≤ 0 by first | omega | decide) (Nat.le_of_ble_eq_true rfl) (fun r3044 w3045 dc3041 ds3042 hp3043 => ?_) (fun _ _ _ _ _ z => z.elim)
        obtain ⟨o3046, rfl, rfl, hdc, hds, bo3046, x3047⟩ := hp3043
        change G _ _ _ _ _ _ _ (.int o3046 :: _) _ _ _
        refine G_widen (cs' := 0) (sl' := 0) (by omega) (by omega) ?_
        refine G_if_eq 75 dr_cX17_stand_62 (by decide +kernel) (fun hc3048 => ?_) (fun hc3048 => ?_)
        · have r3049 : o3046.toInt = 0 := gj_eq hc3048 (show Int32.toInt 0 = 0 by decide)
          have bo3046' : gB o3046 0 0 := ⟨by omega, by omega⟩
          exact G_vretA dr_cX17_stand_75 rfl (Nat.le_of_ble_eq_true rfl) (Nat.le_of_ble_eq_true rfl) ⟨F3032, rfl, rfl, hT3040, hs3039, (Nat.le_of_ble_eq_true rfl), (Nat.le_of_ble_eq_true rfl)⟩
        · have r3050 : o3046.toInt ≠ 0 := gj_neq hc3048 (show Int32.toInt 0 = 0 by decide)
          have bo3046' : gB o3046 1 1 := ⟨by omega, by omega⟩
          refine G_aload_n 1 dr_cX17_stand_65 rfl ?_
          refine Gp_get 3 hm2942 he3037 dr_cX17_stand_66 (gk_X17 D I) (Nat.le_of_ble_eq_true rfl) wr_7_77 rfl ?_
          refine G_aload_n 2 dr_cX17_stand_69 rfl ?_
          refine Gp_get 3 hm2698 he3036 dr_cX17_stand_70 (gk_X15 D I) (Nat.le_of_ble_eq_true rfl) wr_9_190 rfl ?_
          refine G_iconst 1 dr_cX17_stand_73 (by decide +kernel) ?_
          refine Gp_zast 3 hm2989 he3038 dr_cX17_stand_74 rfl (gB_inr (by omega) (by omega)) (fun F3051 e3052 n3053 => ?_)
          obtain ⟨f3054, hf3054⟩ : ∃ z, z = upd f3035 p2703.toNatClampNeg (vp_nar .boolean 1) := ⟨_, rfl⟩
          rw [← hf3054] at e3052
          have he3055 : F3051 q2695 = .inr (20, [.int p2700, .int p2701, .int p2702, .int p2703, .int p2704, .int p2705, .int p2706]) := (n3053 q2695 (rn_oa he3036 he3038)).trans he3036
          have he3056 : F3051 q2694 = .inr (22, [.ref (γ 9 0), .ref (γ 9 1), .ref (γ 9 2), .ref (γ 9 3), .ref (γ 9 4), .ref (γ 9 5), .ref (γ 9 6), .ref (γ 9 7), .ref (γ 9 8), .int p2946, .int p2947, .int p2948, .int p2949, .int p2950, .int p2951, .ref (γ 9 15), .ref (γ 9 16), .ref (γ 9 17), .ref (γ 9 18), .ref (γ 9 19), .ref (γ 9 20), .ref (γ 9 21), .ref (γ 9 22), .int p2952, .int p2953, .int p2954, .int p2955, .int p2956, .ref q2944, .ref (γ 9 29), .int p2957, .ref (γ 9 31), .int p2958, .int p2959, .int p2960, .ref q2945]) := (n3053 q2694 (rn_oa he3037 he3038)).trans he3037
          have he3057 : F3051 (γ 9 3) = .inl (I .boolean, 2000, .inl f3054) := e3052
          have hs3058 : rStr γ F2693 F3051 := rStr_put hs3039 n3053 ht2966 (by decide)
          have bf3054 : gF f3054 0 1 := gF_upd hf3054 bf3035 (gB_w (gBl (show Int32.toInt 1 = 1 by decide)) (by decide) (by decide))
          have hT3059 : RS D I P2692 F3051 γ el := RS_set hT3040 n3053 ht2966 (by decide) ⟨f3054, he3057, bf3054⟩
          exact G_vretA dr_cX17_stand_75 rfl (Nat.le_of_ble_eq_true rfl) (Nat.le_of_ble_eq_true rfl) ⟨F3051, rfl, rfl, hT3059, hs3058, (Nat.le_of_ble_eq_true rfl), (Nat.le_of_ble_eq_true rfl)⟩
    · have r3060 : p2696.toInt ≠ 0 := gj_neq hc3000 (show Int32.toInt 0 = 0 by decide)
      have bp2696' : gB p2696 1 1 := ⟨by omega, by omega⟩
      refine G_aload_n 2 dr_cX17_stand_21 rfl ?_
      refine Gp_get 0 hm2698 he2996 dr_cX17_stand_22 (gk_X15 D I) (Nat.le_of_ble_eq_true rfl) wr_9_177 rfl ?_
      refine G_bipush 21 dr_cX17_stand_25 (by decide +kernel) ?_
      refine G_icmp_ne 40 dr_cX17_stand_27 (by decide +kernel) (fun hc3061 => ?_) (fun hc3061 => ?_)
      · have r3062 : p2700.toInt ≠ 21 := gj_neq hc3061 (show Int32.toInt 21 = 21 by decide)
        have hT3063 : RS D I P2692 F2992 γ el := RS_set hT n2994 ht2966 (by decide) ⟨f2995, he2998, bf2995⟩
        exact G_vretA dr_cX17_stand_40 rfl (Nat.le_of_ble_eq_true rfl) (Nat.le_of_ble_eq_true rfl) ⟨F2992, rfl, rfl, hT3063, hs2999, (Nat.le_of_ble_eq_true rfl), (Nat.le_of_ble_eq_true rfl)⟩
      · have r3064 : p2700.toInt = 21 := gj_eq hc3061 (show Int32.toInt 21 = 21 by decide)
        have bp2700' : gB p2700 21 21 := ⟨by omega, by omega⟩
        refine G_aload_n 1 dr_cX17_stand_30 rfl ?_
        refine Gp_get 3 hm2942 he2997 dr_cX17_stand_31 (gk_X17 D I) (Nat.le_of_ble_eq_true rfl) wr_7_77 rfl ?_
        refine G_aload_n 2 dr_cX17_stand_34 rfl ?_
        refine Gp_get 4 hm2698 he2996 dr_cX17_stand_35 (gk_X15 D I) (Nat.le_of_ble_eq_true rfl) wr_9_193 rfl ?_
        refine G_iconst 1 dr_cX17_stand_38 (by decide +kernel) ?_
        refine Gp_zast 3 hm2989 he2998 dr_cX17_stand_39 rfl (gB_in bp2704 (by decide) (by decide)) (fun F3065 e3066 n3067 => ?_)
        obtain ⟨f3068, hf3068⟩ : ∃ z, z = upd f2995 p2704.toNatClampNeg (vp_nar .boolean 1) := ⟨_, rfl⟩
        rw [← hf3068] at e3066
        have he3069 : F3065 q2695 = .inr (20, [.int p2700, .int p2701, .int p2702, .int p2703, .int p2704, .int p2705, .int p2706]) := (n3067 q2695 (rn_oa he2996 he2998)).trans he2996
        have he3070 : F3065 q2694 = .inr (22, [.ref (γ 9 0), .ref (γ 9 1), .ref (γ 9 2), .ref (γ 9 3), .ref (γ 9 4), .ref (γ 9 5), .ref (γ 9 6), .ref (γ 9 7), .ref (γ 9 8), .int p2946, .int p2947, .int p2948, .int p2949, .int p2950, .int p2951, .ref (γ 9 15), .ref (γ 9 16), .ref (γ 9 17), .ref (γ 9 18), .ref (γ 9 19), .ref (γ 9 20), .ref (γ 9 21), .ref (γ 9 22), .int p2952, .int p2953, .int p2954, .int p2955, .int p2956, .ref q2944, .ref (γ 9 29), .int p2957, .ref (γ 9 31), .int p2958, .int p2959, .int p2960, .ref q2945]) := (n3067 q2694 (rn_oa he2997 he2998)).trans he2997
        have he3071 : F3065 (γ 9 3) = .inl (I .boolean, 2000, .inl f3068) := e3066
        have hs3072 : rStr γ F2693 F3065 := rStr_put hs2999 n3067 ht2966 (by decide)
        have n3073 : ∀ b, b ≠ (γ 9 3) → F3065 b = F2693 b := fun b hb => (n3067 b hb).trans (n2994 b hb)
        have bf3068 : gF f3068 0 1 := gF_upd hf3068 bf2995 (gB_w (gBl (show Int32.toInt 1 = 1 by decide)) (by decide) (by decide))
        have hT3074 : RS D I P2692 F3065 γ el := RS_set hT n3073 ht2966 (by decide) ⟨f3068, he3071, bf3068⟩
        exact G_vretA dr_cX17_stand_40 rfl (Nat.le_of_ble_eq_true rfl) (Nat.le_of_ble_eq_true rfl) ⟨F3065, rfl, rfl, hT3074, hs3072, (Nat.le_of_ble_eq_true rfl), (Nat.le_of_ble_eq_true rfl)⟩
abbrev ky_3377_Block_way : gKey := (cX12_way, 2, "SpillForgeModel$Block", (some FieldType.int), [], "way", fun _ _ => True)
def pp_3377_Block_way (D : va_G) (I : FieldType → ClassId) (P3362 : List Nat) (F3363 : Nat → va_E) (q3364 : Nat) (q3365 : Nat) (p3366 : Int32) (qo3367 : Nat) (p3368 : Int32) (p3369 : Int32) (p3370 : Int32) (p3371 : Int32) (p3372 : Int32) (p3373 : Int32) (p3374 : Int32) (p3375 : Int32) (p3376 : Int32) : Option Value → va_W → Nat → Nat → Prop := fun r w dc ds => ∃ (o3381 : Int32), r = some (.int o3381) ∧ w = va_pl P3362 F3363 ∧ dc ≤ 0 ∧ ds ≤ 0 ∧ gB o3381 0 39
set_option maxRecDepth 100000 in
set_option maxHeartbeats 4000000 in
theorem cp_3377_Block_way (l : Launch) (hl0 : l.stackTraces = false) (D : va_G) (I : FieldType → ClassId) (P3362 : List Nat) (F3363 : Nat → va_E) (q3364 : Nat) (q3365 : Nat) (p3366 : Int32) (qo3367 : Nat) (p3368 : Int32) (p3369 : Int32) (p3370 : Int32) (p3371 : Int32) (p3372 : Int32) (p3373 : Int32) (p3374 : Int32) (p3375 : Int32) (p3376 : Int32) (hmq3364 : q3364 ∈ P3362) (hmq3365 : q3365 ∈ P3362) (heq3364 : F3363 q3364 = .inr (17, [.ref qo3367, .ref q3365, .int p3368, .int p3369])) (heq3365 : F3363 q3365 = .inr (20, [.int p3370, .int p3371, .int p3372, .int p3373, .int p3374, .int p3375, .int p3376])) (bp3368 : gB p3368 0 39) (bp3369 : gB p3369 0 39) (bp3370 : gB p3370 0 32) (bp3371 : gB p3371 0 1999) (bp3374 : gB p3374 0 1999) (bp3375 : gB p3375 0 1) (bp3376 : gB p3376 0 1) : CtA (gV D I) l yX12_way cX12_way 2 (some FieldType.int) 0 0 0 0 [.ref q3364, .int p3366] (va_pl P3362 F3363) (pp_3377_Block_way D I P3362 F3363 q3364 q3365 p3366 qo3367 p3368 p3369 p3370 p3371 p3372 p3373 p3374 p3375 p3376) gNA := by
  refine CtA_of hl0 (by decide) (Nat.le_of_ble_eq_true rfl) ?_
  have bp3366 := gB_any p3366
  have bp3372 := gB_any p3372
  have bp3373 := gB_any p3373
  refine G_iload_n 1 dr_cX12_way_0 rfl ?_
  refine G_if_ne 11 dr_cX12_way_1 (by decide +kernel) (fun hc3378 => ?_) (fun hc3378 => ?_)
  · have r3379 : p3366.toInt ≠ 0 := gj_neq hc3378 (show Int32.toInt 0 = 0 by decide)
    refine G_aload_n 0 dr_cX12_way_11 rfl ?_
    refine Gp_get 3 hmq3364 heq3364 dr_cX12_way_12 (gk_X12 D I) (Nat.le_of_ble_eq_true rfl) wr_9_230 rfl ?_
    exact G_iretA dr_cX12_way_15 rfl (Nat.le_of_ble_eq_true rfl) (Nat.le_of_ble_eq_true rfl) ⟨p3369, rfl, rfl, (Nat.le_of_ble_eq_true rfl), (Nat.le_of_ble_eq_true rfl), bp3369⟩
  · have r3380 : p3366.toInt = 0 := gj_eq hc3378 (show Int32.toInt 0 = 0 by decide)
    have bp3366' : gB p3366 0 0 := ⟨by omega, by omega⟩
    refine G_aload_n 0 dr_cX12_way_4 rfl ?_
    refine Gp_get 2 hmq3364 heq3364 dr_cX12_way_5 (gk_X12 D I) (Nat.le_of_ble_eq_true rfl) wr_9_226 rfl ?_
    refine G_goto 15 dr_cX12_way_8 (by decide +kernel) ?_
    exact G_iretA dr_cX12_way_15 rfl (Nat.le_of_ble_eq_true rfl) (Nat.le_of_ble_eq_true rfl) ⟨p3368, rfl, rfl, (Nat.le_of_ble_eq_true rfl), (Nat.le_of_ble_eq_true rfl), bp3368⟩
abbrev ky_3080_SpillForgeModel_behind : gKey := (cX17_behind, 4, "SpillForgeModel", none, [], "behind", fun _ _ => True)
def pt_3080_SpillForgeModel_behind (D : va_G) (I : FieldType → ClassId) (γ el : Nat → Nat → Nat) (P3076 : List Nat) (F3077 : Nat → va_E) (q3078 : Nat) (q3079 : Nat) : Option Value → va_W → Nat → Nat → Prop := fun r w dc ds => ∃ (F5675 : Nat → va_E), r = none ∧ w = va_pl P3076 F5675 ∧ RS D I P3076 F5675 γ el ∧ rStr γ F3077 F5675 ∧ dc ≤ 0 ∧ ds ≤ 0
set_option maxRecDepth 100000 in
set_option maxHeartbeats 4000000 in
theorem ct_3080_SpillForgeModel_behind (l : Launch) (hl0 : l.stackTraces = false) (D : va_G) (I : FieldType → ClassId) (γ el : Nat → Nat → Nat) (P3076 : List Nat) (F3077 : Nat → va_E) (q3078 : Nat) (q3079 : Nat) (hT : RS D I P3076 F3077 γ el) (htq3078 : rKd γ q3078 10) (htq3079 : rKd γ q3079 2) : CtA (gV D I) l yX17_behind cX17_behind 4 none 1 21 0 0 [.ref q3078, .ref q3079] (va_pl P3076 F3077) (pt_3080_SpillForgeModel_behind D I γ el P3076 F3077 q3078 q3079) gNA := by
  refine CtA_of hl0 (by decide) (Nat.le_of_ble_eq_true rfl) ?_
  refine G_iconst 0 dr_cX17_behind_0 (by decide +kernel) ?_
  refine G_istore_n (L' := [(2, .int 0), (0, .ref q3078), (1, .ref q3079)]) dr_cX17_behind_1 (Nat.le_of_ble_eq_true rfl) rfl ?_
  have hlp2_5150 : ∀ (n2_5150 : Nat) (F5148 : Nat → va_E) (g5147 : Int32), gB g5147 0 32 → RS D I P3076 F5148 γ el → rStr γ F3077 F5148 → ((33 : Int) - g5147.toInt).toNat < n2_5150 → G (gV D I) l (gRm 1 21 0 0) (gMA (gV D I) (pt_3080_SpillForgeModel_behind D I γ el P3076 F3077 q3078 q3079) gNA 0 0) ky_3080_SpillForgeModel_behind 2 [(2, .int g5147), (0, .ref q3078), (1, .ref q3079)] [] (va_pl P3076 F5148) 0 0 := by
    intro n2_5150
    induction n2_5150 with
    | zero => intro F5148 g5147 bg5147 hT5149 hs5150 hm2_5150; exact absurd hm2_5150 (Nat.not_lt_zero _)
    | succ n2_5150 ih2_5150 =>
      intro F5148 g5147 bg5147 hT5149 hs5150 hm2_5150
      have hs5152 : rStr γ F3077 F5148 := fun b h0 hb => (hs5150 b h0 hb).trans ((rStr_rf (γ := γ) (F := F3077)) b h0 hb).symm
      have hs5153 : rStr γ F3077 F5148 := rStr_tr (rStr_rf (γ := γ) (F := F3077)) hs5152
      refine G_iload_n 0 dr_cX17_behind_2 rfl ?_
      refine G_bipush 32 dr_cX17_behind_3 (by decide +kernel) ?_
      refine G_icmp_ge 21 dr_cX17_behind_5 (by decide +kernel) (fun hc5154 => ?_) (fun hc5154 => ?_)
      · have r5155 : 32 ≤ g5147.toInt := gj_leL hc5154 (show Int32.toInt 32 = 32 by decide)
        have bg5147' : gB g5147 32 32 := ⟨by omega, by omega⟩
        refine G_iconst 0 dr_cX17_behind_21 (by decide +kernel) ?_
        refine G_istore_n (L' := [(2, .int 0), (0, .ref q3078), (1, .ref q3079)]) dr_cX17_behind_22 (Nat.le_of_ble_eq_true rfl) rfl ?_
        have hlp23_5388 : ∀ (n23_5388 : Nat) (F5386 : Nat → va_E) (g5385 : Int32), gB g5385 0 2 → RS D I P3076 F5386 γ el → rStr γ F3077 F5386 → ((3 : Int) - g5385.toInt).toNat < n23_5388 → G (gV D I) l (gRm 1 21 0 0) (gMA (gV D I) (pt_3080_SpillForgeModel_behind D I γ el P3076 F3077 q3078 q3079) gNA 0 0) ky_3080_SpillForgeModel_behind 23 [(2, .int g5385), (0, .ref q3078), (1, .ref q3079)] [] (va_pl P3076 F5386) 0 0 := by
          intro n23_5388
          induction n23_5388 with
          | zero => intro F5386 g5385 bg5385 hT5387 hs5388 hm23_5388; exact absurd hm23_5388 (Nat.not_lt_zero _)
          | succ n23_5388 ih23_5388 =>
            intro F5386 g5385 bg5385 hT5387 hs5388 hm23_5388
            have hs5390 : rStr γ F5148 F5386 := fun b h0 hb => (hs5388 b h0 hb).trans (hs5150 b h0 hb).symm
            have hs5391 : rStr γ F3077 F5386 := rStr_tr hs5150 hs5390
            refine G_iload_n 0 dr_cX17_behind_23 rfl ?_
            refine G_aload_n 2 dr_cX17_behind_24 rfl ?_
            have hm5392 : q3079 ∈ P3076 := RS_m hT5387 htq3079 (by decide)
            obtain ⟨q5394, q5395, p5396, p5397, he5393, ht5398, ht5399, ht5400, ht5401, ht5402, bp5396, bp5397, r5403⟩ := show rk_2 γ q3079 (F5386 q3079) from RS_o hT5387 htq3079
            have hm5404 : q5395 ∈ P3076 := RS_m hT5387 ht5400 (by decide)
            obtain ⟨p5406, p5407, p5408, p5409, p5410, p5411, p5412, he5405, bp5406, bp5407, bp5410, bp5411, bp5412, r5413, r5414, r5415, r5416⟩ := show rk_1 γ q5395 (F5386 q5395) from RS_o hT5387 ht5400
            have bp5408 := gB_any p5408
            have bp5409 := gB_any p5409
            refine Gw_callV (As := []) (gV_ok D I) (cp_1809_Block_ways l hl0 D I P3076 F5386 q3079 q5395 q5394 p5396 p5397 p5406 p5407 p5408 p5409 p5410 p5411 p5412 hm5392 hm5404 he5393 he5405 bp5396 bp5397 bp5406 bp5407 bp5410 bp5411 bp5412) dr_cX17_behind_25 ⟨wr_10_166, wr_1_38, wr_10_169, by decide, rfl, (Nat.le_of_ble_eq_true rfl), (Nat.le_of_ble_eq_true rfl)⟩ wr_10_167 wr_10_168 hm5392 he5393 rfl (show 0 + 0 ≤ 0 by first | omega | decide) (show 0 + 0 ≤ 0 by first | omega | decide) (Nat.le_of_ble_eq_true rfl) (fun r5420 w5421 dc5417 ds5418 hp5419 => ?_) (fun _ _ _ _ _ z => z.elim)
            obtain ⟨o5422, rfl, rfl, hdc, hds, bo5422⟩ := hp5419
            change G _ _ _ _ _ _ _ (.int o5422 :: _) _ _ _
            refine G_widen (cs' := 0) (sl' := 0) (by omega) (by omega) ?_
            refine G_icmp_ge 72 dr_cX17_behind_28 (by decide +kernel) (fun hc5423 => ?_) (fun hc5423 => ?_)
            · have r5424 : o5422.toInt ≤ g5385.toInt := gC_le hc5423
              exact G_vretA dr_cX17_behind_72 rfl (Nat.le_of_ble_eq_true rfl) (Nat.le_of_ble_eq_true rfl) ⟨F5386, rfl, rfl, hT5387, hs5388, (Nat.le_of_ble_eq_true rfl), (Nat.le_of_ble_eq_true rfl)⟩
            · have r5425 : g5385.toInt < o5422.toInt := gC_nle hc5423
              have bg5385' : gB g5385 0 1 := ⟨by omega, by omega⟩
              have bo5422' : gB o5422 1 2 := ⟨by omega, by omega⟩
              refine G_iconst 0 dr_cX17_behind_31 (by decide +kernel) ?_
              refine G_istore_n (L' := [(3, .int 0), (2, .int g5385), (0, .ref q3078), (1, .ref q3079)]) dr_cX17_behind_32 (Nat.le_of_ble_eq_true rfl) rfl ?_
              have hlp33_5523 : ∀ (n33_5523 : Nat) (F5521 : Nat → va_E) (g5520 : Int32), gB g5520 0 32 → RS D I P3076 F5521 γ el → rStr γ F3077 F5521 → ((33 : Int) - g5520.toInt).toNat < n33_5523 → G (gV D I) l (gRm 1 21 0 0) (gMA (gV D I) (pt_3080_SpillForgeModel_behind D I γ el P3076 F3077 q3078 q3079) gNA 0 0) ky_3080_SpillForgeModel_behind 33 [(3, .int g5520), (2, .int g5385), (0, .ref q3078), (1, .ref q3079)] [] (va_pl P3076 F5521) 0 0 := by
                intro n33_5523
                induction n33_5523 with
                | zero => intro F5521 g5520 bg5520 hT5522 hs5523 hm33_5523; exact absurd hm33_5523 (Nat.not_lt_zero _)
                | succ n33_5523 ih33_5523 =>
                  intro F5521 g5520 bg5520 hT5522 hs5523 hm33_5523
                  have hs5525 : rStr γ F5386 F5521 := fun b h0 hb => (hs5523 b h0 hb).trans (hs5388 b h0 hb).symm
                  have he5526 : F5521 q3079 = .inr (17, [.ref q5394, .ref q5395, .int p5396, .int p5397]) := (hs5525 q3079 (rT0 htq3079 (by decide)) (rT1 htq3079 (by decide))).trans he5393
                  have he5527 : F5521 q5395 = .inr (20, [.int p5406, .int p5407, .int p5408, .int p5409, .int p5410, .int p5411, .int p5412]) := (hs5525 q5395 (rT0 ht5400 (by decide)) (rT1 ht5400 (by decide))).trans he5405
                  have hs5528 : rStr γ F3077 F5521 := rStr_tr hs5388 hs5525
                  refine G_iload_n 0 dr_cX17_behind_33 rfl ?_
                  refine G_bipush 32 dr_cX17_behind_34 (by decide +kernel) ?_
                  refine G_icmp_ge 66 dr_cX17_behind_36 (by decide +kernel) (fun hc5529 => ?_) (fun hc5529 => ?_)
                  · have r5530 : 32 ≤ g5520.toInt := gj_leL hc5529 (show Int32.toInt 32 = 32 by decide)
                    have bg5520' : gB g5520 32 32 := ⟨by omega, by omega⟩
                    obtain ⟨z5531, hz5531⟩ : ∃ z : Int32, z = g5385 + Int32.ofInt 1 := ⟨_, rfl⟩
                    have ez5531 : z5531.toInt = g5385.toInt + 1 := gI_inc hz5531 (by decide) bg5385' (by decide) (by decide)
                    have bz5531 : gB z5531 1 2 := ⟨by omega, by omega⟩
                    refine G_iinc (L' := [(2, .int z5531), (3, .int g5520), (0, .ref q3078), (1, .ref q3079)]) z5531 1 dr_cX17_behind_66 rfl hz5531.symm (Nat.le_of_ble_eq_true rfl) rfl ?_
                    refine G_goto 23 dr_cX17_behind_69 (by decide +kernel) ?_
                    refine G_lv (L' := [(2, .int z5531), (0, .ref q3078), (1, .ref q3079)]) [0, 2, 3] rfl ?_
                    exact ih23_5388 F5521 z5531 (gB_w bz5531 (by decide) (by decide)) hT5522 hs5523 (by omega)
                  · have r5532 : g5520.toInt < 32 := gj_nleL hc5529 (show Int32.toInt 32 = 32 by decide)
                    have bg5520' : gB g5520 0 31 := ⟨by omega, by omega⟩
                    refine G_aload_n 2 dr_cX17_behind_39 rfl ?_
                    have hm5533 : q3078 ∈ P3076 := RS_m hT5522 htq3078 (by decide)
                    obtain ⟨q5535, q5536, p5537, p5538, p5539, p5540, p5541, p5542, p5543, p5544, p5545, p5546, p5547, p5548, p5549, p5550, p5551, he5534, hB5578, ht5552, ht5553, ht5554, ht5555, ht5556, ht5557, ht5558, ht5559, ht5560, ht5561, ht5562, ht5563, ht5564, ht5565, ht5566, ht5567, ht5568, ht5569, ht5570, ht5571, ht5572, ht5573, ht5574, ht5575, hB5579⟩ := show rk_10 γ (F5521 q3078) from RS_o hT5522 htq3078
                    refine Gp_get 2 hm5533 he5534 dr_cX17_behind_40 (gk_X17 D I) (Nat.le_of_ble_eq_true rfl) wr_7_76 rfl ?_
                    refine G_iload_n 0 dr_cX17_behind_43 rfl ?_
                    refine G_dup2_11 dr_cX17_behind_44 rfl rfl ?_
                    have hm5580 : (γ 9 2) ∈ P3076 := RS_m hT5522 ht5556 (by decide)
                    obtain ⟨f5582, he5581, wf5582⟩ := show rk_35 I (F5521 (γ 9 2)) from RS_o hT5522 ht5556
                    refine Gp_lald 2 hm5580 he5581 dr_cX17_behind_45 rfl (gB_in bg5520' (by decide) (by decide)) (G_namL fun u5583 hu5583 => ?_)
                    have qu5583 : lb_Q u5583 (2000 - 64 * g5520.toInt) := lb_Wld hu5583 wf5582 (by omega) (by omega) (lb_Mod0 (by omega) (by omega))
                    refine G_aload_n 2 dr_cX17_behind_46 rfl ?_
                    refine Gp_get 0 hm5533 he5534 dr_cX17_behind_47 (gk_X17 D I) (Nat.le_of_ble_eq_true rfl) wr_7_74 rfl ?_
                    refine G_aload_n 3 dr_cX17_behind_50 rfl ?_
                    refine G_iload_n 1 dr_cX17_behind_51 rfl ?_
                    refine Gw_callV (As := [.int g5385]) (gV_ok D I) (cp_3377_Block_way l hl0 D I P3076 F5521 q3079 q5395 g5385 q5394 p5396 p5397 p5406 p5407 p5408 p5409 p5410 p5411 p5412 hm5392 hm5404 he5526 he5527 bp5396 bp5397 bp5406 bp5407 bp5410 bp5411 bp5412) dr_cX17_behind_52 ⟨wr_10_170, wr_1_38, wr_10_173, by decide, rfl, (Nat.le_of_ble_eq_true rfl), (Nat.le_of_ble_eq_true rfl)⟩ wr_10_171 wr_10_172 hm5392 he5526 rfl (show 0 + 0 ≤ 0 by first | omega | decide) (show 0 + 0 ≤ 0 by first | omega | decide) (Nat.le_of_ble_eq_true rfl) (fun r5587 w5588 dc5584 ds5585 hp5586 => ?_) (fun _ _ _ _ _ z => z.elim)
                    obtain ⟨o5589, rfl, rfl, hdc, hds, bo5589⟩ := hp5586
                    change G _ _ _ _ _ _ _ (.int o5589 :: _) _ _ _
                    refine G_widen (cs' := 0) (sl' := 0) (by omega) (by omega) ?_
                    have hm5590 : (γ 9 0) ∈ P3076 := RS_m hT5522 ht5554 (by decide)
                    obtain ⟨f5592, he5591, hg5593⟩ := show rk_12 I γ (F5521 (γ 9 0)) from RS_o hT5522 ht5554
                    obtain ⟨q5594, hx5596⟩ : ∃ x, x = γ 10 o5589.toInt.toNat := ⟨_, rfl⟩
                    have ht5595 : rKd γ q5594 11 := by rw [hx5596]; exact (hg5593 _ (show o5589.toInt.toNat < 40 by omega)).2.1
                    refine Gp_aald 5 hm5590 he5591 dr_cX17_behind_55 rfl rfl (gB_in bo5589 (by decide) (by decide)) ?_
                    rw [show f5592 o5589.toNatClampNeg = some q5594 from (hg5593 _ (show o5589.toInt.toNat < 40 by omega)).1.trans (by rw [hx5596])]
                    change G _ _ _ _ _ _ _ (.ref q5594 :: _) _ _ _
                    refine G_iload_n 0 dr_cX17_behind_56 rfl ?_
                    have hm5597 : q5594 ∈ P3076 := RS_m hT5522 ht5595 (by decide)
                    obtain ⟨f5599, he5598, wf5599⟩ := show rk_11 I (F5521 q5594) from RS_o hT5522 ht5595
                    refine Gp_lald 2 hm5597 he5598 dr_cX17_behind_57 rfl (gB_in bg5520' (by decide) (by decide)) (G_namL fun u5600 hu5600 => ?_)
                    have qu5600 : lb_Q u5600 (2000 - 64 * g5520.toInt) := lb_Wld hu5600 wf5599 (by omega) (by omega) (lb_Mod0 (by omega) (by omega))
                    refine G_lor dr_cX17_behind_58 (G_namL fun u5601 hu5601 => ?_)
                    have qu5601 : lb_Q u5601 (2000 - 64 * g5520.toInt) := lb_Qor hu5601 qu5583 qu5600
                    refine Gp_last 2 hm5580 he5581 dr_cX17_behind_59 rfl (gB_in bg5520' (by decide) (by decide)) (fun F5602 e5603 n5604 => ?_)
                    obtain ⟨f5605, hf5605⟩ : ∃ z, z = vp_updL f5582 g5520.toNatClampNeg u5601 := ⟨_, rfl⟩
                    rw [← hf5605] at e5603
                    have he5606 : F5602 q3079 = .inr (17, [.ref q5394, .ref q5395, .int p5396, .int p5397]) := (n5604 q3079 (rn_oa he5526 he5581)).trans he5526
                    have he5607 : F5602 q5395 = .inr (20, [.int p5406, .int p5407, .int p5408, .int p5409, .int p5410, .int p5411, .int p5412]) := (n5604 q5395 (rn_oa he5527 he5581)).trans he5527
                    have he5608 : F5602 q3078 = .inr (22, [.ref (γ 9 0), .ref (γ 9 1), .ref (γ 9 2), .ref (γ 9 3), .ref (γ 9 4), .ref (γ 9 5), .ref (γ 9 6), .ref (γ 9 7), .ref (γ 9 8), .int p5537, .int p5538, .int p5539, .int p5540, .int p5541, .int p5542, .ref (γ 9 15), .ref (γ 9 16), .ref (γ 9 17), .ref (γ 9 18), .ref (γ 9 19), .ref (γ 9 20), .ref (γ 9 21), .ref (γ 9 22), .int p5543, .int p5544, .int p5545, .int p5546, .int p5547, .ref q5535, .ref (γ 9 29), .int p5548, .ref (γ 9 31), .int p5549, .int p5550, .int p5551, .ref q5536]) := (n5604 q3078 (rn_oa he5534 he5581)).trans he5534
                    have he5609 : F5602 (γ 9 0) = .inl (I (.array .long), 40, .inr (.inr (.inr (.inr f5592)))) := (n5604 (γ 9 0) (rn_ref_long he5591 he5581)).trans he5591
                    have he5610 : F5602 q5594 = .inl (I .long, 32, .inr (.inl f5599)) := (n5604 q5594 (rn_ty ht5595 ht5556 (by decide))).trans he5598
                    have he5611 : F5602 (γ 9 2) = .inl (I .long, 32, .inr (.inl f5605)) := e5603
                    have hs5612 : rStr γ F3077 F5602 := rStr_put hs5523 n5604 ht5556 (by decide)
                    have wf5605 : lb_W f5605 (32) (32) (2000) := lb_Wst hf5605 wf5582 (by omega) (lb_Mod0 (by omega) (by omega)) qu5601
                    obtain ⟨z5613, hz5613⟩ : ∃ z : Int32, z = g5520 + Int32.ofInt 1 := ⟨_, rfl⟩
                    have ez5613 : z5613.toInt = g5520.toInt + 1 := gI_inc hz5613 (by decide) bg5520' (by decide) (by decide)
                    have bz5613 : gB z5613 1 32 := ⟨by omega, by omega⟩
                    refine G_iinc (L' := [(3, .int z5613), (2, .int g5385), (0, .ref q3078), (1, .ref q3079)]) z5613 0 dr_cX17_behind_60 rfl hz5613.symm (Nat.le_of_ble_eq_true rfl) rfl ?_
                    refine G_goto 33 dr_cX17_behind_63 (by decide +kernel) ?_
                    have hT5614 : RS D I P3076 F5602 γ el := RS_set hT5522 n5604 ht5556 (by decide) ⟨f5605, he5611, wf5605⟩
                    exact ih33_5523 F5602 z5613 (gB_w bz5613 (by decide) (by decide)) hT5614 hs5612 (by omega)
              exact hlp33_5523 (((33 : Int) - 0).toNat + 1) F5386 0 (gB_w (gBl (show Int32.toInt 0 = 0 by decide)) (by decide) (by decide)) hT5387 hs5388 (Nat.lt_succ_self _)
        exact hlp23_5388 (((3 : Int) - 0).toNat + 1) F5148 0 (gB_w (gBl (show Int32.toInt 0 = 0 by decide)) (by decide) (by decide)) hT5149 hs5150 (Nat.lt_succ_self _)
      · have r5615 : g5147.toInt < 32 := gj_nleL hc5154 (show Int32.toInt 32 = 32 by decide)
        have bg5147' : gB g5147 0 31 := ⟨by omega, by omega⟩
        refine G_aload_n 1 dr_cX17_behind_8 rfl ?_
        have hm5616 : q3078 ∈ P3076 := RS_m hT5149 htq3078 (by decide)
        obtain ⟨q5618, q5619, p5620, p5621, p5622, p5623, p5624, p5625, p5626, p5627, p5628, p5629, p5630, p5631, p5632, p5633, p5634, he5617, hB5661, ht5635, ht5636, ht5637, ht5638, ht5639, ht5640, ht5641, ht5642, ht5643, ht5644, ht5645, ht5646, ht5647, ht5648, ht5649, ht5650, ht5651, ht5652, ht5653, ht5654, ht5655, ht5656, ht5657, ht5658, hB5662⟩ := show rk_10 γ (F5148 q3078) from RS_o hT5149 htq3078
        refine Gp_get 2 hm5616 he5617 dr_cX17_behind_9 (gk_X17 D I) (Nat.le_of_ble_eq_true rfl) wr_7_76 rfl ?_
        refine G_iload_n 0 dr_cX17_behind_12 rfl ?_
        refine G_lconst 0 dr_cX17_behind_13 rfl ?_
        have hm5663 : (γ 9 2) ∈ P3076 := RS_m hT5149 ht5639 (by decide)
        obtain ⟨f5665, he5664, wf5665⟩ := show rk_35 I (F5148 (γ 9 2)) from RS_o hT5149 ht5639
        refine Gp_last 2 hm5663 he5664 dr_cX17_behind_14 rfl (gB_in bg5147' (by decide) (by decide)) (fun F5666 e5667 n5668 => ?_)
        obtain ⟨f5669, hf5669⟩ : ∃ z, z = vp_updL f5665 g5147.toNatClampNeg 0 := ⟨_, rfl⟩
        rw [← hf5669] at e5667
        have he5670 : F5666 q3078 = .inr (22, [.ref (γ 9 0), .ref (γ 9 1), .ref (γ 9 2), .ref (γ 9 3), .ref (γ 9 4), .ref (γ 9 5), .ref (γ 9 6), .ref (γ 9 7), .ref (γ 9 8), .int p5620, .int p5621, .int p5622, .int p5623, .int p5624, .int p5625, .ref (γ 9 15), .ref (γ 9 16), .ref (γ 9 17), .ref (γ 9 18), .ref (γ 9 19), .ref (γ 9 20), .ref (γ 9 21), .ref (γ 9 22), .int p5626, .int p5627, .int p5628, .int p5629, .int p5630, .ref q5618, .ref (γ 9 29), .int p5631, .ref (γ 9 31), .int p5632, .int p5633, .int p5634, .ref q5619]) := (n5668 q3078 (rn_oa he5617 he5664)).trans he5617
        have he5671 : F5666 (γ 9 2) = .inl (I .long, 32, .inr (.inl f5669)) := e5667
        have hs5672 : rStr γ F3077 F5666 := rStr_put hs5150 n5668 ht5639 (by decide)
        have wf5669 : lb_W f5669 (32) (32) (2000) := lb_Wst hf5669 wf5665 (by omega) (lb_Mod0 (by omega) (by omega)) lb_Q0
        obtain ⟨z5673, hz5673⟩ : ∃ z : Int32, z = g5147 + Int32.ofInt 1 := ⟨_, rfl⟩
        have ez5673 : z5673.toInt = g5147.toInt + 1 := gI_inc hz5673 (by decide) bg5147' (by decide) (by decide)
        have bz5673 : gB z5673 1 32 := ⟨by omega, by omega⟩
        refine G_iinc (L' := [(2, .int z5673), (0, .ref q3078), (1, .ref q3079)]) z5673 0 dr_cX17_behind_15 rfl hz5673.symm (Nat.le_of_ble_eq_true rfl) rfl ?_
        refine G_goto 2 dr_cX17_behind_18 (by decide +kernel) ?_
        have hT5674 : RS D I P3076 F5666 γ el := RS_set hT5149 n5668 ht5639 (by decide) ⟨f5669, he5671, wf5669⟩
        exact ih2_5150 F5666 z5673 (gB_w bz5673 (by decide) (by decide)) hT5674 hs5672 (by omega)
  exact hlp2_5150 (((33 : Int) - 0).toNat + 1) F3077 0 (gB_w (gBl (show Int32.toInt 0 = 0 by decide)) (by decide) (by decide)) hT (rStr_rf (γ := γ) (F := F3077)) (Nat.lt_succ_self _)
abbrev ky_5682_SpillForgeModel_value : gKey := (cX17_value, 3, "SpillForgeModel", (some FieldType.int), [], "value", fun _ _ => True)
def pt_5682_SpillForgeModel_value (D : va_G) (I : FieldType → ClassId) (γ el : Nat → Nat → Nat) (P5676 : List Nat) (F5677 : Nat → va_E) (q5678 : Nat) (p5679 : Int32) (p5680 : Int32) : Option Value → va_W → Nat → Nat → Prop := fun r w dc ds => ∃ (o5737 : Int32), r = some (.int o5737) ∧ w = va_pl P5676 F5677 ∧ dc ≤ 0 ∧ ds ≤ 0
set_option maxRecDepth 100000 in
set_option maxHeartbeats 4000000 in
theorem ct_5682_SpillForgeModel_value (l : Launch) (hl0 : l.stackTraces = false) (D : va_G) (I : FieldType → ClassId) (γ el : Nat → Nat → Nat) (P5676 : List Nat) (F5677 : Nat → va_E) (q5678 : Nat) (p5679 : Int32) (p5680 : Int32) (hT : RS D I P5676 F5677 γ el) (htq5678 : rKd γ q5678 10) (bp5679 : gB p5679 0 1) (x5681 : (p5679.toInt = 0 ∨ (0 ≤ p5680.toInt ∧ p5680.toInt ≤ 1999))) : CtA (gV D I) l yX17_value cX17_value 3 (some FieldType.int) 0 0 0 0 [.ref q5678, .int p5679, .int p5680] (va_pl P5676 F5677) (pt_5682_SpillForgeModel_value D I γ el P5676 F5677 q5678 p5679 p5680) gNA := by
  refine CtA_of hl0 (by decide) (Nat.le_of_ble_eq_true rfl) ?_
  have bp5680 := gB_any p5680
  refine G_iload_n 1 dr_cX17_value_0 rfl ?_
  refine G_if_eq 13 dr_cX17_value_1 (by decide +kernel) (fun hc5683 => ?_) (fun hc5683 => ?_)
  · have r5684 : p5679.toInt = 0 := gj_eq hc5683 (show Int32.toInt 0 = 0 by decide)
    have bp5679' : gB p5679 0 0 := ⟨by omega, by omega⟩
    refine G_iload_n 2 dr_cX17_value_13 rfl ?_
    exact G_iretA dr_cX17_value_14 rfl (Nat.le_of_ble_eq_true rfl) (Nat.le_of_ble_eq_true rfl) ⟨p5680, rfl, rfl, (Nat.le_of_ble_eq_true rfl), (Nat.le_of_ble_eq_true rfl)⟩
  · have r5685 : p5679.toInt ≠ 0 := gj_neq hc5683 (show Int32.toInt 0 = 0 by decide)
    have bp5679' : gB p5679 1 1 := ⟨by omega, by omega⟩
    refine G_aload_n 0 dr_cX17_value_4 rfl ?_
    have hm5686 : q5678 ∈ P5676 := RS_m hT htq5678 (by decide)
    obtain ⟨q5688, q5689, p5690, p5691, p5692, p5693, p5694, p5695, p5696, p5697, p5698, p5699, p5700, p5701, p5702, p5703, p5704, he5687, hB5731, ht5705, ht5706, ht5707, ht5708, ht5709, ht5710, ht5711, ht5712, ht5713, ht5714, ht5715, ht5716, ht5717, ht5718, ht5719, ht5720, ht5721, ht5722, ht5723, ht5724, ht5725, ht5726, ht5727, ht5728, hB5732⟩ := show rk_10 γ (F5677 q5678) from RS_o hT htq5678
    refine Gp_get 20 hm5686 he5687 dr_cX17_value_5 (gk_X17 D I) (Nat.le_of_ble_eq_true rfl) wr_7_94 rfl ?_
    refine G_iload_n 2 dr_cX17_value_8 rfl ?_
    have hm5733 : (γ 9 20) ∈ P5676 := RS_m hT ht5721 (by decide)
    obtain ⟨f5735, he5734⟩ := show rk_22 I (F5677 (γ 9 20)) from RS_o hT ht5721
    refine Gp_iald 0 hm5733 he5734 dr_cX17_value_9 rfl (gB_inr (by omega) (by omega)) (G_nam fun z5736 hz5736 => ?_)
    have bz5736 : gB z5736 (-2147483648) 2147483647 := gB_any z5736
    refine G_goto 14 dr_cX17_value_10 (by decide +kernel) ?_
    exact G_iretA dr_cX17_value_14 rfl (Nat.le_of_ble_eq_true rfl) (Nat.le_of_ble_eq_true rfl) ⟨z5736, rfl, rfl, (Nat.le_of_ble_eq_true rfl), (Nat.le_of_ble_eq_true rfl)⟩
abbrev ky_5743_SpillForgeModel_leads : gKey := (cX17_leads, 3, "SpillForgeModel", (some FieldType.boolean), [], "leads", fun _ _ => True)
def pt_5743_SpillForgeModel_leads (D : va_G) (I : FieldType → ClassId) (γ el : Nat → Nat → Nat) (P5739 : List Nat) (F5740 : Nat → va_E) (q5741 : Nat) (p5742 : Int32) : Option Value → va_W → Nat → Nat → Prop := fun r w dc ds => ∃ (o5923 : Int32), r = some (.int o5923) ∧ w = va_pl P5739 F5740 ∧ dc ≤ 0 ∧ ds ≤ 0 ∧ gB o5923 0 1
set_option maxRecDepth 100000 in
set_option maxHeartbeats 4000000 in
theorem ct_5743_SpillForgeModel_leads (l : Launch) (hl0 : l.stackTraces = false) (D : va_G) (I : FieldType → ClassId) (γ el : Nat → Nat → Nat) (P5739 : List Nat) (F5740 : Nat → va_E) (q5741 : Nat) (p5742 : Int32) (hT : RS D I P5739 F5740 γ el) (htq5741 : rKd γ q5741 2) : CtA (gV D I) l yX17_leads cX17_leads 3 (some FieldType.boolean) 1 21 0 0 [.ref q5741, .int p5742] (va_pl P5739 F5740) (pt_5743_SpillForgeModel_leads D I γ el P5739 F5740 q5741 p5742) gNA := by
  refine CtA_of hl0 (by decide) (Nat.le_of_ble_eq_true rfl) ?_
  have bp5742 := gB_any p5742
  refine G_iconst 0 dr_cX17_leads_0 (by decide +kernel) ?_
  refine G_istore_n (L' := [(2, .int 0), (0, .ref q5741), (1, .int p5742)]) dr_cX17_leads_1 (Nat.le_of_ble_eq_true rfl) rfl ?_
  have hlp2_5877 : ∀ (n2_5877 : Nat) (g5877 : Int32), gB g5877 0 2 → ((3 : Int) - g5877.toInt).toNat < n2_5877 → G (gV D I) l (gRm 1 21 0 0) (gMA (gV D I) (pt_5743_SpillForgeModel_leads D I γ el P5739 F5740 q5741 p5742) gNA 0 0) ky_5743_SpillForgeModel_leads 2 [(2, .int g5877), (0, .ref q5741), (1, .int p5742)] [] (va_pl P5739 F5740) 0 0 := by
    intro n2_5877
    induction n2_5877 with
    | zero => intro g5877 bg5877 hm2_5877; exact absurd hm2_5877 (Nat.not_lt_zero _)
    | succ n2_5877 ih2_5877 =>
      intro g5877 bg5877 hm2_5877
      refine G_iload_n 0 dr_cX17_leads_2 rfl ?_
      refine G_aload_n 1 dr_cX17_leads_3 rfl ?_
      have hm5879 : q5741 ∈ P5739 := RS_m hT htq5741 (by decide)
      obtain ⟨q5881, q5882, p5883, p5884, he5880, ht5885, ht5886, ht5887, ht5888, ht5889, bp5883, bp5884, r5890⟩ := show rk_2 γ q5741 (F5740 q5741) from RS_o hT htq5741
      have hm5891 : q5882 ∈ P5739 := RS_m hT ht5887 (by decide)
      obtain ⟨p5893, p5894, p5895, p5896, p5897, p5898, p5899, he5892, bp5893, bp5894, bp5897, bp5898, bp5899, r5900, r5901, r5902, r5903⟩ := show rk_1 γ q5882 (F5740 q5882) from RS_o hT ht5887
      have bp5895 := gB_any p5895
      have bp5896 := gB_any p5896
      refine Gw_callV (As := []) (gV_ok D I) (cp_1809_Block_ways l hl0 D I P5739 F5740 q5741 q5882 q5881 p5883 p5884 p5893 p5894 p5895 p5896 p5897 p5898 p5899 hm5879 hm5891 he5880 he5892 bp5883 bp5884 bp5893 bp5894 bp5897 bp5898 bp5899) dr_cX17_leads_4 ⟨wr_10_166, wr_1_38, wr_10_169, by decide, rfl, (Nat.le_of_ble_eq_true rfl), (Nat.le_of_ble_eq_true rfl)⟩ wr_10_167 wr_10_168 hm5879 he5880 rfl (show 0 + 0 ≤ 0 by first | omega | decide) (show 0 + 0 ≤ 0 by first | omega | decide) (Nat.le_of_ble_eq_true rfl) (fun r5907 w5908 dc5904 ds5905 hp5906 => ?_) (fun _ _ _ _ _ z => z.elim)
      obtain ⟨o5909, rfl, rfl, hdc, hds, bo5909⟩ := hp5906
      change G _ _ _ _ _ _ _ (.int o5909 :: _) _ _ _
      refine G_widen (cs' := 0) (sl' := 0) (by omega) (by omega) ?_
      refine G_icmp_ge 27 dr_cX17_leads_7 (by decide +kernel) (fun hc5910 => ?_) (fun hc5910 => ?_)
      · have r5911 : o5909.toInt ≤ g5877.toInt := gC_le hc5910
        refine G_iconst 0 dr_cX17_leads_27 (by decide +kernel) ?_
        exact G_zretA FieldType.boolean dr_cX17_leads_28 rfl rfl (Nat.le_of_ble_eq_true rfl) (Nat.le_of_ble_eq_true rfl) ⟨0, rfl, rfl, (Nat.le_of_ble_eq_true rfl), (Nat.le_of_ble_eq_true rfl), (gB_w (gBl (show Int32.toInt 0 = 0 by decide)) (by decide) (by decide))⟩
      · have r5912 : g5877.toInt < o5909.toInt := gC_nle hc5910
        have bg5877' : gB g5877 0 1 := ⟨by omega, by omega⟩
        have bo5909' : gB o5909 1 2 := ⟨by omega, by omega⟩
        refine G_aload_n 1 dr_cX17_leads_10 rfl ?_
        refine G_iload_n 0 dr_cX17_leads_11 rfl ?_
        refine Gw_callV (As := [.int g5877]) (gV_ok D I) (cp_3377_Block_way l hl0 D I P5739 F5740 q5741 q5882 g5877 q5881 p5883 p5884 p5893 p5894 p5895 p5896 p5897 p5898 p5899 hm5879 hm5891 he5880 he5892 bp5883 bp5884 bp5893 bp5894 bp5897 bp5898 bp5899) dr_cX17_leads_12 ⟨wr_10_170, wr_1_38, wr_10_173, by decide, rfl, (Nat.le_of_ble_eq_true rfl), (Nat.le_of_ble_eq_true rfl)⟩ wr_10_171 wr_10_172 hm5879 he5880 rfl (show 0 + 0 ≤ 0 by first | omega | decide) (show 0 + 0 ≤ 0 by first | omega | decide) (Nat.le_of_ble_eq_true rfl) (fun r5916 w5917 dc5913 ds5914 hp5915 => ?_) (fun _ _ _ _ _ z => z.elim)
        obtain ⟨o5918, rfl, rfl, hdc, hds, bo5918⟩ := hp5915
        change G _ _ _ _ _ _ _ (.int o5918 :: _) _ _ _
        refine G_widen (cs' := 0) (sl' := 0) (by omega) (by omega) ?_
        refine G_iload_n 2 dr_cX17_leads_15 rfl ?_
        refine G_icmp_ne 21 dr_cX17_leads_16 (by decide +kernel) (fun hc5919 => ?_) (fun hc5919 => ?_)
        · have r5920 : o5918.toInt ≠ p5742.toInt := gC_ne hc5919
          obtain ⟨z5921, hz5921⟩ : ∃ z : Int32, z = g5877 + Int32.ofInt 1 := ⟨_, rfl⟩
          have ez5921 : z5921.toInt = g5877.toInt + 1 := gI_inc hz5921 (by decide) bg5877' (by decide) (by decide)
          have bz5921 : gB z5921 1 2 := ⟨by omega, by omega⟩
          refine G_iinc (L' := [(2, .int z5921), (0, .ref q5741), (1, .int p5742)]) z5921 0 dr_cX17_leads_21 rfl hz5921.symm (Nat.le_of_ble_eq_true rfl) rfl ?_
          refine G_goto 2 dr_cX17_leads_24 (by decide +kernel) ?_
          exact ih2_5877 z5921 (gB_w bz5921 (by decide) (by decide)) (by omega)
        · have r5922 : o5918.toInt = p5742.toInt := gC_eq hc5919
          have bp5742' : gB p5742 0 39 := ⟨by omega, by omega⟩
          refine G_iconst 1 dr_cX17_leads_19 (by decide +kernel) ?_
          exact G_zretA FieldType.boolean dr_cX17_leads_20 rfl rfl (Nat.le_of_ble_eq_true rfl) (Nat.le_of_ble_eq_true rfl) ⟨1, rfl, rfl, (Nat.le_of_ble_eq_true rfl), (Nat.le_of_ble_eq_true rfl), (gB_w (gBl (show Int32.toInt 1 = 1 by decide)) (by decide) (by decide))⟩
  exact hlp2_5877 (((3 : Int) - 0).toNat + 1) 0 (gB_w (gBl (show Int32.toInt 0 = 0 by decide)) (by decide) (by decide)) (Nat.lt_succ_self _)
