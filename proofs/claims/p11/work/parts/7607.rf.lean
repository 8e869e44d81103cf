theorem dr_cX13_block_0 : decode cX13_block 0 = .ok (.aload_n 0, 1) := by decide +kernel
theorem dr_cX13_block_1 : decode cX13_block 1 = .ok (.getfield 23, 3) := by decide +kernel
theorem wr_7_33 : (Jvm.Cond.fieldLink "SpillForgeModel$Code" (23 : Nat) "SpillForgeModel$Code" "made" "I") ∈ gw := gw_7 33 rfl rfl
theorem dr_cX13_block_4 : decode cX13_block 4 = .ok (.aload_n 0, 1) := by decide +kernel
theorem dr_cX13_block_5 : decode cX13_block 5 = .ok (.getfield 10, 3) := by decide +kernel
theorem wr_7_30 : (Jvm.Cond.fieldLink "SpillForgeModel$Code" (10 : Nat) "SpillForgeModel$Code" "blocks" "Ljava/util/ArrayList;") ∈ gw := gw_7 30 rfl rfl
theorem dr_cX13_block_8 : decode cX13_block 8 = .ok (.invokevirtual 26, 3) := by decide +kernel
theorem dr_cX13_block_11 : decode cX13_block 11 = .ok (.if_icmp .ne 18, 3) := by decide +kernel
theorem dr_cX13_block_29 : decode cX13_block 29 = .ok (.aload_n 0, 1) := by decide +kernel
theorem dr_cX13_block_30 : decode cX13_block 30 = .ok (.getfield 10, 3) := by decide +kernel
theorem dr_cX13_block_33 : decode cX13_block 33 = .ok (.aload_n 0, 1) := by decide +kernel
theorem dr_cX13_block_34 : decode cX13_block 34 = .ok (.getfield 23, 3) := by decide +kernel
theorem dr_cX13_block_37 : decode cX13_block 37 = .ok (.invokevirtual 37, 3) := by decide +kernel
theorem dr_cX13_block_40 : decode cX13_block 40 = .ok (.checkcast 30, 3) := by decide +kernel
theorem wr_9_161 : (Jvm.Cond.classLink "SpillForgeModel$Code" (30 : Nat) "SpillForgeModel$Block") ∈ gw := gw_9 161 rfl rfl
theorem dr_cX13_block_43 : decode cX13_block 43 = .ok (.astore_n 1, 1) := by decide +kernel
theorem dr_cX13_block_44 : decode cX13_block 44 = .ok (.aload_n 0, 1) := by decide +kernel
theorem dr_cX13_block_45 : decode cX13_block 45 = .ok (.dup, 1) := by decide +kernel
theorem dr_cX13_block_46 : decode cX13_block 46 = .ok (.getfield 23, 3) := by decide +kernel
theorem dr_cX13_block_49 : decode cX13_block 49 = .ok (.iconst 1, 1) := by decide +kernel
theorem dr_cX13_block_50 : decode cX13_block 50 = .ok (.iadd, 1) := by decide +kernel
theorem dr_cX13_block_51 : decode cX13_block 51 = .ok (.putfield 23, 3) := by decide +kernel
theorem dr_cX13_block_54 : decode cX13_block 54 = .ok (.aload_n 1, 1) := by decide +kernel
theorem dr_cX13_block_55 : decode cX13_block 55 = .ok (.getfield 41, 3) := by decide +kernel
theorem wr_9_219 : (Jvm.Cond.fieldLink "SpillForgeModel$Code" (41 : Nat) "SpillForgeModel$Block" "rows" "Ljava/util/ArrayList;") ∈ gw := gw_9 219 rfl rfl
theorem dr_cX13_block_58 : decode cX13_block 58 = .ok (.invokevirtual 42, 3) := by decide +kernel
theorem wr_10_74 : (Jvm.Cond.methodLink "SpillForgeModel$Code" (42 : Nat) ({ cls := "java/util/ArrayList", name := "clear", desc := "()V" } : Jvm.MethodName)) ∈ gw := gw_10 74 rfl rfl
theorem wr_10_77 : (Jvm.Cond.code ({ cls := "java/util/ArrayList", name := "clear", desc := "()V" } : Jvm.MethodName) prog_43_method_40_code (4 : Nat) (Option.none : Option Jvm.ClassFile.FieldType)) ∈ gw := gw_10 77 rfl rfl
theorem wr_10_75 : (Jvm.Cond.instanceMethod ({ cls := "java/util/ArrayList", name := "clear", desc := "()V" } : Jvm.MethodName)) ∈ gw := gw_10 75 rfl rfl
theorem wr_10_76 : (Jvm.Cond.selects "java/util/ArrayList" ({ cls := "java/util/ArrayList", name := "clear", desc := "()V" } : Jvm.MethodName) ({ cls := "java/util/ArrayList", name := "clear", desc := "()V" } : Jvm.MethodName)) ∈ gw := gw_10 76 rfl rfl
theorem dr_cX13_block_61 : decode cX13_block 61 = .ok (.aload_n 1, 1) := by decide +kernel
theorem dr_cX13_block_62 : decode cX13_block 62 = .ok (.areturn, 1) := by decide +kernel
theorem dr_cX12_init_0 : decode cX12_init 0 = .ok (.aload_n 0, 1) := by decide +kernel
theorem dr_cX12_init_1 : decode cX12_init 1 = .ok (.invokespecial 3, 3) := by decide +kernel
theorem wr_9_166 : (Jvm.Cond.methodLink "SpillForgeModel$Block" (3 : Nat) ({ cls := "java/lang/Object", name := "<init>", desc := "()V" } : Jvm.MethodName)) ∈ gw := gw_9 166 rfl rfl
theorem dr_cX12_init_4 : decode cX12_init 4 = .ok (.aload_n 0, 1) := by decide +kernel
theorem dr_cX12_init_5 : decode cX12_init 5 = .ok (.new 9, 3) := by decide +kernel
theorem wr_9_167 : (Jvm.Cond.classLink "SpillForgeModel$Block" (9 : Nat) "java/util/ArrayList") ∈ gw := gw_9 167 rfl rfl
theorem wr_7_4 : (Jvm.Cond.instantiable "java/util/ArrayList" (3 : Nat)) ∈ gw := gw_7 4 rfl rfl
theorem dr_cX12_init_8 : decode cX12_init 8 = .ok (.dup, 1) := by decide +kernel
theorem dr_cX12_init_9 : decode cX12_init 9 = .ok (.invokespecial 11, 3) := by decide +kernel
theorem wr_9_168 : (Jvm.Cond.methodLink "SpillForgeModel$Block" (11 : Nat) ({ cls := "java/util/ArrayList", name := "<init>", desc := "()V" } : Jvm.MethodName)) ∈ gw := gw_9 168 rfl rfl
theorem wr_7_7 : (Jvm.Cond.code ({ cls := "java/util/ArrayList", name := "<init>", desc := "()V" } : Jvm.MethodName) prog_43_method_2_code (1 : Nat) (Option.none : Option Jvm.ClassFile.FieldType)) ∈ gw := gw_7 7 rfl rfl
theorem wr_7_6 : (Jvm.Cond.instanceMethod ({ cls := "java/util/ArrayList", name := "<init>", desc := "()V" } : Jvm.MethodName)) ∈ gw := gw_7 6 rfl rfl
theorem dr_cX12_init_12 : decode cX12_init 12 = .ok (.putfield 12, 3) := by decide +kernel
theorem wr_9_218 : (Jvm.Cond.fieldLink "SpillForgeModel$Block" (12 : Nat) "SpillForgeModel$Block" "rows" "Ljava/util/ArrayList;") ∈ gw := gw_9 218 rfl rfl
theorem dr_cX12_init_15 : decode cX12_init 15 = .ok (.aload_n 0, 1) := by decide +kernel
theorem dr_cX12_init_16 : decode cX12_init 16 = .ok (.new 18, 3) := by decide +kernel
theorem wr_9_169 : (Jvm.Cond.classLink "SpillForgeModel$Block" (18 : Nat) "SpillForgeModel$Row") ∈ gw := gw_9 169 rfl rfl
theorem dr_cX12_init_19 : decode cX12_init 19 = .ok (.dup, 1) := by decide +kernel
theorem dr_cX12_init_20 : decode cX12_init 20 = .ok (.invokespecial 20, 3) := by decide +kernel
theorem dr_cX12_init_23 : decode cX12_init 23 = .ok (.putfield 21, 3) := by decide +kernel
theorem dr_cX12_init_26 : decode cX12_init 26 = .ok (.return_, 1) := by decide +kernel
theorem dr_cX13_block_14 : decode cX13_block 14 = .ok (.aload_n 0, 1) := by decide +kernel
theorem dr_cX13_block_15 : decode cX13_block 15 = .ok (.getfield 10, 3) := by decide +kernel
theorem dr_cX13_block_18 : decode cX13_block 18 = .ok (.new 30, 3) := by decide +kernel
theorem wr_9_162 : (Jvm.Cond.instantiable "SpillForgeModel$Block" (4 : Nat)) ∈ gw := gw_9 162 rfl rfl
theorem wr_1_38 : (Jvm.Cond.initialized "SpillForgeModel$Block") ∈ gw := gw_1 38 rfl rfl
theorem dr_cX13_block_21 : decode cX13_block 21 = .ok (.dup, 1) := by decide +kernel
theorem dr_cX13_block_22 : decode cX13_block 22 = .ok (.invokespecial 32, 3) := by decide +kernel
theorem wr_9_165 : (Jvm.Cond.code ({ cls := "SpillForgeModel$Block", name := "<init>", desc := "()V" } : Jvm.MethodName) prog_15_method_1_code (1 : Nat) (Option.none : Option Jvm.ClassFile.FieldType)) ∈ gw := gw_9 165 rfl rfl
theorem wr_9_164 : (Jvm.Cond.instanceMethod ({ cls := "SpillForgeModel$Block", name := "<init>", desc := "()V" } : Jvm.MethodName)) ∈ gw := gw_9 164 rfl rfl
theorem dr_cX13_block_25 : decode cX13_block 25 = .ok (.invokevirtual 33, 3) := by decide +kernel
theorem dr_cX13_block_28 : decode cX13_block 28 = .ok (.pop, 1) := by decide +kernel
abbrev ky_2702_ArrayList_size : gKey := (cJx4a65c_size_8abf5, 1, "java/util/ArrayList", (some FieldType.int), [], "size", fun _ _ => True)
def pp_2702_ArrayList_size (D : va_G) (I : FieldType → ClassId) (P2697 : List Nat) (F2698 : Nat → va_E) (q2699 : Nat) (p2700 : Int32) (p2701 : Int32) : Option Value → va_W → Nat → Nat → Prop := fun r w dc ds => r = some (.int p2701) ∧ w = va_pl P2697 F2698 ∧ dc ≤ 0 ∧ ds ≤ 0
set_option maxRecDepth 100000 in
set_option maxHeartbeats 4000000 in
theorem cp_2702_ArrayList_size (l : Launch) (hl0 : l.stackTraces = false) (D : va_G) (I : FieldType → ClassId) (P2697 : List Nat) (F2698 : Nat → va_E) (q2699 : Nat) (p2700 : Int32) (p2701 : Int32) (hmq2699 : q2699 ∈ P2697) (heq2699 : F2698 q2699 = .inr (4, [.int p2700, .ref (D.2 1002 1), .int p2701])) (bp2701 : gB p2701 0 16777216) : CtA (gV D I) l yJx4a65c_size_8abf5 cJx4a65c_size_8abf5 1 (some FieldType.int) 0 0 0 0 [.ref q2699] (va_pl P2697 F2698) (pp_2702_ArrayList_size D I P2697 F2698 q2699 p2700 p2701) gNA := by
  refine CtA_ofF hl0 (by decide +kernel) (Nat.le_of_ble_eq_true rfl) ?_
  have bp2700 := gB_any p2700
  refine G_aload_n 0 dr_cJx4a65c_size_8abf5_0 rfl ?_
  refine Gp_get 2 hmq2699 heq2699 dr_cJx4a65c_size_8abf5_1 (gk_Jx4a65c D I) (Nat.le_of_ble_eq_true rfl) wr_7_18 rfl ?_
  exact G_iretA dr_cJx4a65c_size_8abf5_4 rfl (Nat.le_of_ble_eq_true rfl) (Nat.le_of_ble_eq_true rfl) ⟨rfl, rfl, (Nat.le_of_ble_eq_true rfl), (Nat.le_of_ble_eq_true rfl)⟩
abbrev ky_2696_Code_row : gKey := (cX13_row, 2, "SpillForgeModel$Code", (some (FieldType.object "SpillForgeModel$Row")), [], "row", fun _ _ => True)
def pp_2696_Code_row (D : va_G) (I : FieldType → ClassId) (P2685 : List Nat) (F2686 : Nat → va_E) (q2687 : Nat) (q2688 : Nat) (qo2689 : Nat) (p2690 : Int32) (p2691 : Int32) (p2692 : Int32) (p2693 : Int32) : Option Value → va_W → Nat → Nat → Prop := fun r w dc ds => ∃ (P2833 : List Nat) (F2834 : Nat → va_E) (o2826 : Int32) (q2827 : Nat) (o2828 : Int32) (o2829 : Int32) (q2830 : Nat) (n2831 : Nat) (f2832 : Nat → Option Nat), r = some (.ref q2827) ∧ w = va_pl P2833 F2834 ∧ rSub P2685 P2833 ∧ rFr [q2687, q2688] P2685 F2686 F2834 ∧ F2834 q2687 = .inr (18, [.ref qo2689, .ref q2688, .int o2826, .int p2691]) ∧ F2834 q2827 = .inr (20, [.int 0, .int 0, .int 0, .int 0, .int 0, .int 0, .int 0]) ∧ F2834 q2688 = .inr (4, [.int o2828, .ref q2830, .int o2829]) ∧ F2834 q2830 = .inl (I (.object "java/lang/Object"), n2831, .inr (.inr (.inr (.inr f2832)))) ∧ q2827 ∈ P2833 ∧ q2827 ∉ P2685 ∧ q2830 ∈ P2833 ∧ q2830 ∉ P2685 ∧ dc ≤ 2 ∧ ds ≤ 17 ∧ gB o2826 1 1000001 ∧ gB o2829 1 1 ∧ o2826.toInt = p2690.toInt + 1 ∧ o2829.toInt = p2693.toInt + 1 ∧ f2832 p2693.toInt.toNat = some q2827 ∧ (∀ j w, f2832 j = some w → w = q2827) ∧ (n2831 : Int) = 10
set_option maxRecDepth 100000 in
set_option maxHeartbeats 4000000 in
theorem cp_2696_Code_row (l : Launch) (hl0 : l.stackTraces = false) (D : va_G) (I : FieldType → ClassId) (P2685 : List Nat) (F2686 : Nat → va_E) (q2687 : Nat) (q2688 : Nat) (qo2689 : Nat) (p2690 : Int32) (p2691 : Int32) (p2692 : Int32) (p2693 : Int32) (hmq2687 : q2687 ∈ P2685) (hmq2688 : q2688 ∈ P2685) (heq2687 : F2686 q2687 = .inr (18, [.ref qo2689, .ref q2688, .int p2690, .int p2691])) (heq2688 : F2686 q2688 = .inr (4, [.int p2692, .ref (D.2 1002 1), .int p2693])) (bp2690 : gB p2690 0 1000000) (bp2691 : gB p2691 0 1000000) (bp2693 : gB p2693 0 1000000) (x2694 : p2690.toInt = p2693.toInt) (x2695 : p2693.toInt = 0) : CtA (gV D I) l yX13_row cX13_row 2 (some (FieldType.object "SpillForgeModel$Row")) 5 101 2 17 [.ref q2687] (va_pl P2685 F2686) (pp_2696_Code_row D I P2685 F2686 q2687 q2688 qo2689 p2690 p2691 p2692 p2693) gNA := by
  refine CtA_of hl0 (by decide) (Nat.le_of_ble_eq_true rfl) ?_
  have bp2692 := gB_any p2692
  refine G_aload_n 0 dr_cX13_row_0 rfl ?_
  refine Gp_get 2 hmq2687 heq2687 dr_cX13_row_1 (gk_X13 D I) (Nat.le_of_ble_eq_true rfl) wr_7_32 rfl ?_
  refine G_aload_n 0 dr_cX13_row_4 rfl ?_
  refine Gp_get 1 hmq2687 heq2687 dr_cX13_row_5 (gk_X13 D I) (Nat.le_of_ble_eq_true rfl) wr_7_31 rfl ?_
  refine Gw_callV (As := []) (gV_ok D I) (cp_2702_ArrayList_size l hl0 D I P2685 F2686 q2688 p2692 p2693 hmq2688 heq2688 (gB_w bp2693 (by decide) (by decide))) dr_cX13_row_8 ⟨wr_9_157, wr_1_18, wr_9_160, by decide, rfl, (Nat.le_of_ble_eq_true rfl), (Nat.le_of_ble_eq_true rfl)⟩ wr_9_158 wr_9_159 hmq2688 heq2688 rfl (show 0 + 0 ≤ 2 by first | omega | decide) (show 0 + 0 ≤ 17 by first | omega | decide) (Nat.le_of_ble_eq_true rfl) (fun r2706 w2707 dc2703 ds2704 hp2705 => ?_) (fun _ _ _ _ _ z => z.elim)
  obtain ⟨rfl, rfl, hdc, hds⟩ := hp2705
  change G _ _ _ _ _ _ _ (.int p2693 :: _) _ _ _
  refine G_widen (cs' := 0) (sl' := 0) (by omega) (by omega) ?_
  refine G_icmp_ne 29 dr_cX13_row_11 (by decide +kernel) (fun hc => absurd (show False by have := gC_ne hc; omega) not_false) (fun hc2708 => ?_)
  have r2710 : p2690.toInt = p2693.toInt := gC_eq hc2708
  refine G_aload_n 0 dr_cX13_row_14 rfl ?_
  refine Gp_get 1 hmq2687 heq2687 dr_cX13_row_15 (gk_X13 D I) (Nat.le_of_ble_eq_true rfl) wr_7_31 rfl ?_
  refine G_new [.int 0, .int 0, .int 0, .int 0, .int 0, .int 0, .int 0] dr_cX13_row_18 (gk_X15 D I) wr_10_83 wr_9_170 wr_1_39 (gfs_X15) (show 0 + 1 ≤ 2 by first | omega | decide) (show 0 + 7 ≤ 17 by first | omega | decide) (fun q2711 => Gp_in (fun P2712 F2713 hq2714 hP2715 e2716 n2717 => ?_))
  refine G_widen (cs' := 1) (sl' := 7) (by omega) (by omega) ?_
  have he2718 : F2713 q2687 = .inr (18, [.ref qo2689, .ref q2688, .int p2690, .int p2691]) := (n2717 q2687 (fun h => hq2714 (h ▸ hmq2687))).trans heq2687
  have he2719 : F2713 q2688 = .inr (4, [.int p2692, .ref (D.2 1002 1), .int p2693]) := (n2717 q2688 (fun h => hq2714 (h ▸ hmq2688))).trans heq2688
  have he2720 : F2713 q2711 = .inr (20, [.int 0, .int 0, .int 0, .int 0, .int 0, .int 0, .int 0]) := e2716
  have hm2721 : q2687 ∈ P2712 := (hP2715 q2687).mpr (Or.inl hmq2687)
  have hm2722 : q2688 ∈ P2712 := (hP2715 q2688).mpr (Or.inl hmq2688)
  have hm2723 : q2711 ∈ P2712 := (hP2715 q2711).mpr (Or.inr rfl)
  have hq2724 : q2711 ∉ P2685 := fun z => hq2714 ((rSub_rf (P := P2685)) q2711 z)
  have hfr2725 : rFr [] P2685 F2686 F2713 := rFr_new (rSub_rf (P := P2685)) hq2714 (rFr_rf (W := []) (P := P2685) (F := F2686)) n2717
  have hsb2726 : rSub P2685 P2712 := rSub_new (rSub_rf (P := P2685)) hP2715
  refine G_dup dr_cX13_row_21 rfl ?_
  refine Gw_callIN (As := []) (gV_ok D I) (cp_2427_Row_init l hl0 D I P2712 F2713 q2711 0 0 0 0 0 0 0 hm2723 he2720 (gB_w (gBl (show Int32.toInt 0 = 0 by decide)) (by decide) (by decide)) (gB_w (gBl (show Int32.toInt 0 = 0 by decide)) (by decide) (by decide)) (gB_w (gBl (show Int32.toInt 0 = 0 by decide)) (by decide) (by decide)) (gB_w (gBl (show Int32.toInt 0 = 0 by decide)) (by decide) (by decide)) (gB_w (gBl (show Int32.toInt 0 = 0 by decide)) (by decide) (by decide))) dr_cX13_row_22 ⟨(fun _ _ _ h => gn_w 80 rfl h), wr_1_39, wr_9_173, by decide, rfl, (Nat.le_of_ble_eq_true rfl), (Nat.le_of_ble_eq_true rfl)⟩ wr_9_172 rfl (show 1 + 0 ≤ 2 by first | omega | decide) (show 7 + 0 ≤ 17 by first | omega | decide) (Nat.le_of_ble_eq_true rfl) (fun r2730 w2731 dc2727 ds2728 hp2729 => ?_)
  obtain ⟨rfl, rfl, hdc, hds⟩ := hp2729
  change G _ _ _ _ _ _ _ _ _ _ _
  refine G_widen (cs' := 1) (sl' := 7) (by omega) (by omega) ?_
  refine Gw_callV (As := [.ref q2711]) (gV_ok D I) (cp_746_ArrayList_add l hl0 D I P2712 F2713 q2688 q2711 p2692 p2693 0 0 0 0 0 0 0 hm2722 hm2723 he2719 he2720 (gB_w bp2693 (by decide) (by decide)) (gB_w (gBl (show Int32.toInt 0 = 0 by decide)) (by decide) (by decide)) (gB_w (gBl (show Int32.toInt 0 = 0 by decide)) (by decide) (by decide)) (gB_w (gBl (show Int32.toInt 0 = 0 by decide)) (by decide) (by decide)) (gB_w (gBl (show Int32.toInt 0 = 0 by decide)) (by decide) (by decide)) (gB_w (gBl (show Int32.toInt 0 = 0 by decide)) (by decide) (by decide)) (by have qa0 : Int32.toInt 0 = 0 := (by decide); omega)) dr_cX13_row_25 ⟨wr_10_3, wr_1_18, wr_10_6, by decide, rfl, (Nat.le_of_ble_eq_true rfl), (Nat.le_of_ble_eq_true rfl)⟩ wr_10_4 wr_10_5 hm2722 he2719 rfl (show 1 + 1 ≤ 2 by first | omega | decide) (show 7 + 10 ≤ 17 by first | omega | decide) (Nat.le_of_ble_eq_true rfl) (fun r2735 w2736 dc2732 ds2733 hp2734 => ?_) (fun _ _ _ _ _ z => z.elim)
  obtain ⟨P2746, F2747, o2737, o2738, q2739, n2740, f2741, rfl, rfl, hsb2748, hfr2749, he2750, he2751, he2752, hm2753, hq2754, hdc, hds, bo2738, x2742, x2743, x2744, x2745⟩ := hp2734
  have hm2755 : q2687 ∈ P2746 := hsb2748 q2687 hm2721
  have hm2756 : q2688 ∈ P2746 := hsb2748 q2688 hm2722
  have hm2757 : q2711 ∈ P2746 := hsb2748 q2711 hm2723
  have hq2758 : q2739 ∉ P2685 := fun z => hq2754 (hsb2726 q2739 z)
  have hsb2759 : rSub P2685 P2746 := rSub_tr hsb2726 hsb2748
  have he2760 : F2747 q2687 = .inr (18, [.ref qo2689, .ref q2688, .int p2690, .int p2691]) := (hfr2749 q2687 hm2721 (nm_c (rn_oo he2718 he2719 (by decide)) nm_n)).trans he2718
  have hfr2761 : rFr [q2688] P2685 F2686 F2747 := rFr_call hsb2726 hfr2725 hfr2749 (fun b hb hn => ⟨nm_n, (nm_c (fun e => hn (e ▸ List.mem_cons_self)) nm_n)⟩)
  have bo2737 := gB_any o2737
  change G _ _ _ _ _ _ _ (.int 1 :: _) _ _ _
  refine G_widen (cs' := 2) (sl' := 17) (by omega) (by omega) ?_
  have hx2762 : f2741 p2690.toNatClampNeg = some q2711 := by show f2741 p2690.toInt.toNat = _; rw [show p2690.toInt = p2693.toInt by omega]; exact x2743
  refine G_pop dr_cX13_row_28 rfl ?_
  refine G_aload_n 0 dr_cX13_row_29 rfl ?_
  refine Gp_get 1 hm2755 he2760 dr_cX13_row_30 (gk_X13 D I) (Nat.le_of_ble_eq_true rfl) wr_7_31 rfl ?_
  refine G_aload_n 0 dr_cX13_row_33 rfl ?_
  refine Gp_get 2 hm2755 he2760 dr_cX13_row_34 (gk_X13 D I) (Nat.le_of_ble_eq_true rfl) wr_7_32 rfl ?_
  refine Gw_callV (As := [.int p2690]) (gV_ok D I) (cp_22_ArrayList_get l hl0 D I P2746 F2747 q2688 q2739 p2690 o2737 o2738 f2741 n2740 q2711 hm2756 hm2753 he2751 he2752 (gB_w bp2690 (by decide) (by decide)) (gB_w bo2738 (by decide) (by decide)) (by have qa0 : Int32.toInt 0 = 0 := (by decide); omega) (by have qa0 : Int32.toInt 0 = 0 := (by decide); omega) (by assumption) (by have qa0 : Int32.toInt 0 = 0 := (by decide); omega)) dr_cX13_row_37 ⟨wr_10_62, wr_1_18, wr_10_65, by decide, rfl, (Nat.le_of_ble_eq_true rfl), (Nat.le_of_ble_eq_true rfl)⟩ wr_10_63 wr_10_64 hm2756 he2751 rfl (show 2 + 0 ≤ 2 by first | omega | decide) (show 17 + 0 ≤ 17 by first | omega | decide) (Nat.le_of_ble_eq_true rfl) (fun r2766 w2767 dc2763 ds2764 hp2765 => ?_) (fun _ _ _ _ _ z => z.elim)
  obtain ⟨rfl, rfl, hdc, hds, ht2768⟩ := hp2765
  change G _ _ _ _ _ _ _ (.ref q2711 :: _) _ _ _
  refine G_widen (cs' := 2) (sl' := 17) (by omega) (by omega) ?_
  refine Gp_cast hm2757 he2750 rfl dr_cX13_row_40 wr_10_83 (gr_cast 1 rfl) ?_
  refine G_astore_n (L' := [(1, .ref q2711), (0, .ref q2687)]) dr_cX13_row_43 (Nat.le_of_ble_eq_true rfl) rfl ?_
  refine G_aload_n 1 dr_cX13_row_44 rfl ?_
  refine G_dup dr_cX13_row_45 rfl ?_
  refine Gp_get 2 hm2755 he2760 dr_cX13_row_46 (gk_X13 D I) (Nat.le_of_ble_eq_true rfl) wr_7_32 rfl ?_
  refine G_iconst 1 dr_cX13_row_49 (by decide +kernel) ?_
  refine G_iadd dr_cX13_row_50 (G_nam fun z2769 hz2769 => ?_)
  have ez2769 : z2769.toInt = p2690.toInt + 1 := by rw [gI_add hz2769 bp2690 (gBl (show Int32.toInt 1 = 1 by decide)) (by decide) (by decide), show Int32.toInt 1 = 1 from by decide]
  have bz2769 : gB z2769 1 1000001 := gB_add (gI_add hz2769 bp2690 (gBl (show Int32.toInt 1 = 1 by decide)) (by decide) (by decide)) bp2690 (gBl (show Int32.toInt 1 = 1 by decide)) (by decide) (by decide)
  refine Gp_put 2 hm2755 he2760 dr_cX13_row_51 (gk_X13 D I) (Nat.le_of_ble_eq_true rfl) wr_7_32 rfl rfl rfl (Nat.le_of_ble_eq_true rfl) (fun F2770 e2771 n2772 => ?_)
  have he2773 : F2770 q2711 = .inr (20, [.int 0, .int 0, .int 0, .int 0, .int 0, .int 0, .int 0]) := (n2772 q2711 (fun h => hq2724 (h ▸ hmq2687))).trans he2750
  have he2774 : F2770 q2688 = .inr (4, [.int o2737, .ref q2739, .int o2738]) := (n2772 q2688 (rn_oo he2751 he2760 (by decide))).trans he2751
  have he2775 : F2770 q2739 = .inl (I (.object "java/lang/Object"), n2740, .inr (.inr (.inr (.inr f2741)))) := (n2772 q2739 (fun h => hq2758 (h ▸ hmq2687))).trans he2752
  have he2776 : F2770 q2687 = .inr (18, [.ref qo2689, .ref q2688, .int z2769, .int p2691]) := e2771
  have hfr2777 : rFr [q2687, q2688] P2685 F2686 F2770 := rFr_put hfr2761 n2772
  refine G_aload_n 0 dr_cX13_row_54 rfl ?_
  refine G_iconst 0 dr_cX13_row_55 (by decide +kernel) ?_
  refine Gp_put 5 hm2757 he2773 dr_cX13_row_56 (gk_X15 D I) (Nat.le_of_ble_eq_true rfl) wr_9_196 rfl rfl rfl (Nat.le_of_ble_eq_true rfl) (fun F2778 e2779 n2780 => ?_)
  have he2781 : F2778 q2687 = .inr (18, [.ref qo2689, .ref q2688, .int z2769, .int p2691]) := (n2780 q2687 (fun h => hq2724 (h ▸ hmq2687))).trans he2776
  have he2782 : F2778 q2688 = .inr (4, [.int o2737, .ref q2739, .int o2738]) := (n2780 q2688 (fun h => hq2724 (h ▸ hmq2688))).trans he2774
  have he2783 : F2778 q2739 = .inl (I (.object "java/lang/Object"), n2740, .inr (.inr (.inr (.inr f2741)))) := (n2780 q2739 (rn_ao he2775 he2773)).trans he2775
  have he2784 : F2778 q2711 = .inr (20, [.int 0, .int 0, .int 0, .int 0, .int 0, .int 0, .int 0]) := e2779
  have hfr2785 : rFr [q2687, q2688] P2685 F2686 F2778 := rFr_newp hq2724 hfr2777 n2780
  refine G_aload_n 0 dr_cX13_row_59 rfl ?_
  refine G_iconst 0 dr_cX13_row_60 (by decide +kernel) ?_
  refine Gp_put 6 hm2757 he2784 dr_cX13_row_61 (gk_X15 D I) (Nat.le_of_ble_eq_true rfl) wr_9_200 rfl rfl rfl (Nat.le_of_ble_eq_true rfl) (fun F2786 e2787 n2788 => ?_)
  have he2789 : F2786 q2687 = .inr (18, [.ref qo2689, .ref q2688, .int z2769, .int p2691]) := (n2788 q2687 (fun h => hq2724 (h ▸ hmq2687))).trans he2781
  have he2790 : F2786 q2688 = .inr (4, [.int o2737, .ref q2739, .int o2738]) := (n2788 q2688 (fun h => hq2724 (h ▸ hmq2688))).trans he2782
  have he2791 : F2786 q2739 = .inl (I (.object "java/lang/Object"), n2740, .inr (.inr (.inr (.inr f2741)))) := (n2788 q2739 (rn_ao he2783 he2784)).trans he2783
  have he2792 : F2786 q2711 = .inr (20, [.int 0, .int 0, .int 0, .int 0, .int 0, .int 0, .int 0]) := e2787
  have hfr2793 : rFr [q2687, q2688] P2685 F2686 F2786 := rFr_newp hq2724 hfr2785 n2788
  refine G_aload_n 0 dr_cX13_row_64 rfl ?_
  refine G_iconst 0 dr_cX13_row_65 (by decide +kernel) ?_
  refine Gp_put 2 hm2757 he2792 dr_cX13_row_66 (gk_X15 D I) (Nat.le_of_ble_eq_true rfl) wr_9_184 rfl rfl rfl (Nat.le_of_ble_eq_true rfl) (fun F2794 e2795 n2796 => ?_)
  have he2797 : F2794 q2687 = .inr (18, [.ref qo2689, .ref q2688, .int z2769, .int p2691]) := (n2796 q2687 (fun h => hq2724 (h ▸ hmq2687))).trans he2789
  have he2798 : F2794 q2688 = .inr (4, [.int o2737, .ref q2739, .int o2738]) := (n2796 q2688 (fun h => hq2724 (h ▸ hmq2688))).trans he2790
  have he2799 : F2794 q2739 = .inl (I (.object "java/lang/Object"), n2740, .inr (.inr (.inr (.inr f2741)))) := (n2796 q2739 (rn_ao he2791 he2792)).trans he2791
  have he2800 : F2794 q2711 = .inr (20, [.int 0, .int 0, .int 0, .int 0, .int 0, .int 0, .int 0]) := e2795
  have hfr2801 : rFr [q2687, q2688] P2685 F2686 F2794 := rFr_newp hq2724 hfr2793 n2796
  refine G_aload_n 0 dr_cX13_row_69 rfl ?_
  refine G_iconst 0 dr_cX13_row_70 (by decide +kernel) ?_
  refine Gp_put 3 hm2757 he2800 dr_cX13_row_71 (gk_X15 D I) (Nat.le_of_ble_eq_true rfl) wr_9_188 rfl rfl rfl (Nat.le_of_ble_eq_true rfl) (fun F2802 e2803 n2804 => ?_)
  have he2805 : F2802 q2687 = .inr (18, [.ref qo2689, .ref q2688, .int z2769, .int p2691]) := (n2804 q2687 (fun h => hq2724 (h ▸ hmq2687))).trans he2797
  have he2806 : F2802 q2688 = .inr (4, [.int o2737, .ref q2739, .int o2738]) := (n2804 q2688 (fun h => hq2724 (h ▸ hmq2688))).trans he2798
  have he2807 : F2802 q2739 = .inl (I (.object "java/lang/Object"), n2740, .inr (.inr (.inr (.inr f2741)))) := (n2804 q2739 (rn_ao he2799 he2800)).trans he2799
  have he2808 : F2802 q2711 = .inr (20, [.int 0, .int 0, .int 0, .int 0, .int 0, .int 0, .int 0]) := e2803
  have hfr2809 : rFr [q2687, q2688] P2685 F2686 F2802 := rFr_newp hq2724 hfr2801 n2804
  refine G_aload_n 0 dr_cX13_row_74 rfl ?_
  refine G_iconst 0 dr_cX13_row_75 (by decide +kernel) ?_
  refine Gp_put 1 hm2757 he2808 dr_cX13_row_76 (gk_X15 D I) (Nat.le_of_ble_eq_true rfl) wr_9_180 rfl rfl rfl (Nat.le_of_ble_eq_true rfl) (fun F2810 e2811 n2812 => ?_)
  have he2813 : F2810 q2687 = .inr (18, [.ref qo2689, .ref q2688, .int z2769, .int p2691]) := (n2812 q2687 (fun h => hq2724 (h ▸ hmq2687))).trans he2805
  have he2814 : F2810 q2688 = .inr (4, [.int o2737, .ref q2739, .int o2738]) := (n2812 q2688 (fun h => hq2724 (h ▸ hmq2688))).trans he2806
  have he2815 : F2810 q2739 = .inl (I (.object "java/lang/Object"), n2740, .inr (.inr (.inr (.inr f2741)))) := (n2812 q2739 (rn_ao he2807 he2808)).trans he2807
  have he2816 : F2810 q2711 = .inr (20, [.int 0, .int 0, .int 0, .int 0, .int 0, .int 0, .int 0]) := e2811
  have hfr2817 : rFr [q2687, q2688] P2685 F2686 F2810 := rFr_newp hq2724 hfr2809 n2812
  refine G_aload_n 0 dr_cX13_row_79 rfl ?_
  refine G_iconst 0 dr_cX13_row_80 (by decide +kernel) ?_
  refine Gp_put 4 hm2757 he2816 dr_cX13_row_81 (gk_X15 D I) (Nat.le_of_ble_eq_true rfl) wr_9_192 rfl rfl rfl (Nat.le_of_ble_eq_true rfl) (fun F2818 e2819 n2820 => ?_)
  have he2821 : F2818 q2687 = .inr (18, [.ref qo2689, .ref q2688, .int z2769, .int p2691]) := (n2820 q2687 (fun h => hq2724 (h ▸ hmq2687))).trans he2813
  have he2822 : F2818 q2688 = .inr (4, [.int o2737, .ref q2739, .int o2738]) := (n2820 q2688 (fun h => hq2724 (h ▸ hmq2688))).trans he2814
  have he2823 : F2818 q2739 = .inl (I (.object "java/lang/Object"), n2740, .inr (.inr (.inr (.inr f2741)))) := (n2820 q2739 (rn_ao he2815 he2816)).trans he2815
  have he2824 : F2818 q2711 = .inr (20, [.int 0, .int 0, .int 0, .int 0, .int 0, .int 0, .int 0]) := e2819
  have hfr2825 : rFr [q2687, q2688] P2685 F2686 F2818 := rFr_newp hq2724 hfr2817 n2820
  refine G_aload_n 0 dr_cX13_row_84 rfl ?_
  exact G_aretA (FieldType.object "SpillForgeModel$Row") dr_cX13_row_85 rfl (by first | exact Or.inl ⟨_, rfl⟩ | exact Or.inr ⟨_, rfl⟩) (Or.inr ⟨_, rfl⟩) (Nat.le_of_ble_eq_true rfl) (Nat.le_of_ble_eq_true rfl) ⟨P2746, F2818, z2769, q2711, o2737, o2738, q2739, n2740, f2741, rfl, rfl, hsb2759, hfr2825, he2821, he2824, he2822, he2823, hm2757, hq2724, hm2753, hq2758, (Nat.le_of_ble_eq_true rfl), (Nat.le_of_ble_eq_true rfl), bz2769, bo2738, (by have qa0 : Int32.toInt 0 = 0 := (by decide); omega), (by have qa0 : Int32.toInt 0 = 0 := (by decide); omega), (by assumption), (by assumption), (by have qa0 : Int32.toInt 0 = 0 := (by decide); omega)⟩
abbrev ky_2864_Code_block : gKey := (cX13_block, 2, "SpillForgeModel$Code", (some (FieldType.object "SpillForgeModel$Block")), [], "block", fun _ _ => True)
def pp_2864_Code_block (D : va_G) (I : FieldType → ClassId) (P2835 : List Nat) (F2836 : Nat → va_E) (q2837 : Nat) (q2838 : Nat) (q2839 : Nat) (qo2840 : Nat) (p2841 : Int32) (p2842 : Int32) (p2843 : Int32) (p2844 : Int32) (f2845 : Nat → Option Nat) (n2846 : Nat) (z2847 : Nat) (y2848 : Nat) (x2849 : Nat) (n2850 : Nat) (f2851 : Nat → Option Nat) (p2852 : Int32) (p2853 : Int32) (qo2854 : Nat) (p2855 : Int32) (p2856 : Int32) : Option Value → va_W → Nat → Nat → Prop := fun r w dc ds => ∃ (F2912 : Nat → va_E) (o2908 : Int32) (o2909 : Int32) (f2910 : Nat → Option Nat), r = some (.ref x2849) ∧ w = va_pl P2835 F2912 ∧ rFr [q2837, y2848, z2847] P2835 F2836 F2912 ∧ F2912 q2837 = .inr (18, [.ref q2838, .ref qo2840, .int p2841, .int o2908]) ∧ F2912 q2838 = .inr (4, [.int p2843, .ref q2839, .int p2844]) ∧ F2912 q2839 = .inl (I (.object "java/lang/Object"), n2846, .inr (.inr (.inr (.inr f2845)))) ∧ F2912 x2849 = .inr (17, [.ref y2848, .ref qo2854, .int p2855, .int p2856]) ∧ F2912 y2848 = .inr (4, [.int o2909, .ref z2847, .int 0]) ∧ F2912 z2847 = .inl (I (.object "java/lang/Object"), n2850, .inr (.inr (.inr (.inr f2910)))) ∧ dc ≤ 0 ∧ ds ≤ 0 ∧ gB o2908 1 1000001 ∧ o2908.toInt = p2842.toInt + 1 ∧ rSrc f2910 f2851
set_option maxRecDepth 100000 in
set_option maxHeartbeats 4000000 in
theorem cp_2864_Code_block (l : Launch) (hl0 : l.stackTraces = false) (D : va_G) (I : FieldType → ClassId) (P2835 : List Nat) (F2836 : Nat → va_E) (q2837 : Nat) (q2838 : Nat) (q2839 : Nat) (qo2840 : Nat) (p2841 : Int32) (p2842 : Int32) (p2843 : Int32) (p2844 : Int32) (f2845 : Nat → Option Nat) (n2846 : Nat) (z2847 : Nat) (y2848 : Nat) (x2849 : Nat) (n2850 : Nat) (f2851 : Nat → Option Nat) (p2852 : Int32) (p2853 : Int32) (qo2854 : Nat) (p2855 : Int32) (p2856 : Int32) (hmq2837 : q2837 ∈ P2835) (hmq2838 : q2838 ∈ P2835) (hmq2839 : q2839 ∈ P2835) (hmz2847 : z2847 ∈ P2835) (hmy2848 : y2848 ∈ P2835) (hmx2849 : x2849 ∈ P2835) (heq2837 : F2836 q2837 = .inr (18, [.ref q2838, .ref qo2840, .int p2841, .int p2842])) (heq2838 : F2836 q2838 = .inr (4, [.int p2843, .ref q2839, .int p2844])) (heq2839 : F2836 q2839 = .inl (I (.object "java/lang/Object"), n2846, .inr (.inr (.inr (.inr f2845))))) (hez2847 : F2836 z2847 = .inl (I (.object "java/lang/Object"), n2850, .inr (.inr (.inr (.inr f2851))))) (hey2848 : F2836 y2848 = .inr (4, [.int p2852, .ref z2847, .int p2853])) (hex2849 : F2836 x2849 = .inr (17, [.ref y2848, .ref qo2854, .int p2855, .int p2856])) (hneq2839z2847 : q2839 ≠ z2847) (hneq2838y2848 : q2838 ≠ y2848) (bp2841 : gB p2841 0 1000000) (bp2842 : gB p2842 0 1000000) (bp2844 : gB p2844 0 1000000) (bp2853 : gB p2853 0 1000000) (bp2855 : gB p2855 0 39) (bp2856 : gB p2856 0 39) (x2857 : p2842.toInt < p2844.toInt) (x2858 : p2844.toInt ≤ (n2846 : Int)) (x2859 : f2845 p2842.toNatClampNeg = some x2849) (x2860 : rEl P2835 F2836 f2851) (x2861 : p2853.toInt ≤ (n2850 : Int)) (x2862 : (n2850 : Int) ≤ 16777216) (x2863 : ((n2846 : Int) ≤ 16777216)) : CtA (gV D I) l yX13_block cX13_block 2 (some (FieldType.object "SpillForgeModel$Block")) 3 64 0 0 [.ref q2837] (va_pl P2835 F2836) (pp_2864_Code_block D I P2835 F2836 q2837 q2838 q2839 qo2840 p2841 p2842 p2843 p2844 f2845 n2846 z2847 y2848 x2849 n2850 f2851 p2852 p2853 qo2854 p2855 p2856) gNA := by
  refine CtA_of hl0 (by decide) (Nat.le_of_ble_eq_true rfl) ?_
  have bp2843 := gB_any p2843
  have bp2852 := gB_any p2852
  refine G_aload_n 0 dr_cX13_block_0 rfl ?_
  refine Gp_get 3 hmq2837 heq2837 dr_cX13_block_1 (gk_X13 D I) (Nat.le_of_ble_eq_true rfl) wr_7_33 rfl ?_
  refine G_aload_n 0 dr_cX13_block_4 rfl ?_
  refine Gp_get 0 hmq2837 heq2837 dr_cX13_block_5 (gk_X13 D I) (Nat.le_of_ble_eq_true rfl) wr_7_30 rfl ?_
  refine Gw_callV (As := []) (gV_ok D I) (cp_2299_ArrayList_size l hl0 D I P2835 F2836 q2838 q2839 p2843 p2844 f2845 n2846 hmq2838 hmq2839 heq2838 heq2839 (gB_w bp2844 (by decide) (by decide)) (by omega)) dr_cX13_block_8 ⟨wr_9_157, wr_1_18, wr_9_160, by decide, rfl, (Nat.le_of_ble_eq_true rfl), (Nat.le_of_ble_eq_true rfl)⟩ wr_9_158 wr_9_159 hmq2838 heq2838 rfl (show 0 + 0 ≤ 0 by first | omega | decide) (show 0 + 0 ≤ 0 by first | omega | decide) (Nat.le_of_ble_eq_true rfl) (fun r2868 w2869 dc2865 ds2866 hp2867 => ?_) (fun _ _ _ _ _ z => z.elim)
  obtain ⟨rfl, rfl, hdc, hds⟩ := hp2867
  change G _ _ _ _ _ _ _ (.int p2844 :: _) _ _ _
  refine G_widen (cs' := 0) (sl' := 0) (by omega) (by omega) ?_
  refine G_icmp_ne 29 dr_cX13_block_11 (by decide +kernel) (fun hc2870 => ?_) (fun hc => absurd (show False by have := gC_eq hc; omega) not_false)
  have r2872 : p2842.toInt ≠ p2844.toInt := gC_ne hc2870
  refine G_aload_n 0 dr_cX13_block_29 rfl ?_
  refine Gp_get 0 hmq2837 heq2837 dr_cX13_block_30 (gk_X13 D I) (Nat.le_of_ble_eq_true rfl) wr_7_30 rfl ?_
  refine G_aload_n 0 dr_cX13_block_33 rfl ?_
  refine Gp_get 3 hmq2837 heq2837 dr_cX13_block_34 (gk_X13 D I) (Nat.le_of_ble_eq_true rfl) wr_7_33 rfl ?_
  refine Gw_callV (As := [.int p2842]) (gV_ok D I) (cp_22_ArrayList_get l hl0 D I P2835 F2836 q2838 q2839 p2842 p2843 p2844 f2845 n2846 x2849 hmq2838 hmq2839 heq2838 heq2839 (gB_w bp2842 (by decide) (by decide)) (gB_w bp2844 (by decide) (by decide)) (by omega) (by omega) (by assumption) (by omega)) dr_cX13_block_37 ⟨wr_10_62, wr_1_18, wr_10_65, by decide, rfl, (Nat.le_of_ble_eq_true rfl), (Nat.le_of_ble_eq_true rfl)⟩ wr_10_63 wr_10_64 hmq2838 heq2838 rfl (show 0 + 0 ≤ 0 by first | omega | decide) (show 0 + 0 ≤ 0 by first | omega | decide) (Nat.le_of_ble_eq_true rfl) (fun r2876 w2877 dc2873 ds2874 hp2875 => ?_) (fun _ _ _ _ _ z => z.elim)
  obtain ⟨rfl, rfl, hdc, hds, ht2878⟩ := hp2875
  change G _ _ _ _ _ _ _ (.ref x2849 :: _) _ _ _
  refine G_widen (cs' := 0) (sl' := 0) (by omega) (by omega) ?_
  refine Gp_cast hmx2849 hex2849 rfl dr_cX13_block_40 wr_9_161 (gr_cast 0 rfl) ?_
  refine G_astore_n (L' := [(1, .ref x2849), (0, .ref q2837)]) dr_cX13_block_43 (Nat.le_of_ble_eq_true rfl) rfl ?_
  refine G_aload_n 1 dr_cX13_block_44 rfl ?_
  refine G_dup dr_cX13_block_45 rfl ?_
  refine Gp_get 3 hmq2837 heq2837 dr_cX13_block_46 (gk_X13 D I) (Nat.le_of_ble_eq_true rfl) wr_7_33 rfl ?_
  refine G_iconst 1 dr_cX13_block_49 (by decide +kernel) ?_
  refine G_iadd dr_cX13_block_50 (G_nam fun z2879 hz2879 => ?_)
  have ez2879 : z2879.toInt = p2842.toInt + 1 := by rw [gI_add hz2879 bp2842 (gBl (show Int32.toInt 1 = 1 by decide)) (by decide) (by decide), show Int32.toInt 1 = 1 from by decide]
  have bz2879 : gB z2879 1 1000001 := gB_add (gI_add hz2879 bp2842 (gBl (show Int32.toInt 1 = 1 by decide)) (by decide) (by decide)) bp2842 (gBl (show Int32.toInt 1 = 1 by decide)) (by decide) (by decide)
  refine Gp_put 3 hmq2837 heq2837 dr_cX13_block_51 (gk_X13 D I) (Nat.le_of_ble_eq_true rfl) wr_7_33 rfl rfl rfl (Nat.le_of_ble_eq_true rfl) (fun F2880 e2881 n2882 => ?_)
  have he2883 : F2880 q2838 = .inr (4, [.int p2843, .ref q2839, .int p2844]) := (n2882 q2838 (rn_oo heq2838 heq2837 (by decide))).trans heq2838
  have he2884 : F2880 q2839 = .inl (I (.object "java/lang/Object"), n2846, .inr (.inr (.inr (.inr f2845)))) := (n2882 q2839 (rn_ao heq2839 heq2837)).trans heq2839
  have he2885 : F2880 z2847 = .inl (I (.object "java/lang/Object"), n2850, .inr (.inr (.inr (.inr f2851)))) := (n2882 z2847 (rn_ao hez2847 heq2837)).trans hez2847
  have he2886 : F2880 y2848 = .inr (4, [.int p2852, .ref z2847, .int p2853]) := (n2882 y2848 (rn_oo hey2848 heq2837 (by decide))).trans hey2848
  have he2887 : F2880 x2849 = .inr (17, [.ref y2848, .ref qo2854, .int p2855, .int p2856]) := (n2882 x2849 (rn_oo hex2849 heq2837 (by decide))).trans hex2849
  have he2888 : F2880 q2837 = .inr (18, [.ref q2838, .ref qo2840, .int p2841, .int z2879]) := e2881
  have hfr2889 : rFr [q2837] P2835 F2836 F2880 := rFr_put (rFr_rf (W := []) (P := P2835) (F := F2836)) n2882
  refine G_aload_n 0 dr_cX13_block_54 rfl ?_
  refine Gp_get 0 hmx2849 he2887 dr_cX13_block_55 (gk_X12 D I) (Nat.le_of_ble_eq_true rfl) wr_9_219 rfl ?_
  refine Gw_callV (As := []) (gV_ok D I) (cp_1332_ArrayList_clear l hl0 D I P2835 F2880 y2848 z2847 p2852 p2853 f2851 n2850 hmy2848 hmz2847 he2886 he2885 (gB_w bp2853 (by decide) (by decide)) (by omega) (rEl_frG (rEl_src x2860 rSrc_rf) (rSub_rf (P := P2835)) hfr2889 (rNg_c (rNg_o heq2837 (by decide) (by decide)) rNg_n)) (by omega)) dr_cX13_block_58 ⟨wr_10_74, wr_1_18, wr_10_77, by decide, rfl, (Nat.le_of_ble_eq_true rfl), (Nat.le_of_ble_eq_true rfl)⟩ wr_10_75 wr_10_76 hmy2848 he2886 rfl (show 0 + 0 ≤ 0 by first | omega | decide) (show 0 + 0 ≤ 0 by first | omega | decide) (Nat.le_of_ble_eq_true rfl) (fun r2893 w2894 dc2890 ds2891 hp2892 => ?_) (fun _ _ _ _ _ z => z.elim)
  obtain ⟨F2898, o2895, f2896, rfl, rfl, hfr2900, he2901, he2902, hdc, hds, x2897⟩ := hp2892
  have he2903 : F2898 q2837 = .inr (18, [.ref q2838, .ref qo2840, .int p2841, .int z2879]) := (hfr2900 q2837 hmq2837 (nm_c (rn_oo he2888 he2886 (by decide)) (nm_c (rn_oa he2888 he2885) nm_n))).trans he2888
  have he2904 : F2898 q2838 = .inr (4, [.int p2843, .ref q2839, .int p2844]) := (hfr2900 q2838 hmq2838 (nm_c hneq2838y2848 (nm_c (rn_oa he2883 he2885) nm_n))).trans he2883
  have he2905 : F2898 q2839 = .inl (I (.object "java/lang/Object"), n2846, .inr (.inr (.inr (.inr f2845)))) := (hfr2900 q2839 hmq2839 (nm_c (rn_ao he2884 he2886) (nm_c hneq2839z2847 nm_n))).trans he2884
  have he2906 : F2898 x2849 = .inr (17, [.ref y2848, .ref qo2854, .int p2855, .int p2856]) := (hfr2900 x2849 hmx2849 (nm_c (rn_oo he2887 he2886 (by decide)) (nm_c (rn_oa he2887 he2885) nm_n))).trans he2887
  have hfr2907 : rFr [q2837, y2848, z2847] P2835 F2836 F2898 := rFr_call (rSub_rf (P := P2835)) hfr2889 hfr2900 (fun b hb hn => ⟨(nm_c (fun e => hn (e ▸ List.mem_cons_self)) nm_n), (nm_c (fun e => hn (e ▸ (List.mem_cons_of_mem _ List.mem_cons_self))) (nm_c (fun e => hn (e ▸ (List.mem_cons_of_mem _ (List.mem_cons_of_mem _ List.mem_cons_self)))) nm_n))⟩)
  have bo2895 := gB_any o2895
  change G _ _ _ _ _ _ _ _ _ _ _
  refine G_widen (cs' := 0) (sl' := 0) (by omega) (by omega) ?_
  refine G_aload_n 0 dr_cX13_block_61 rfl ?_
  exact G_aretA (FieldType.object "SpillForgeModel$Block") dr_cX13_block_62 rfl (by first | exact Or.inl ⟨_, rfl⟩ | exact Or.inr ⟨_, rfl⟩) (Or.inr ⟨_, rfl⟩) (Nat.le_of_ble_eq_true rfl) (Nat.le_of_ble_eq_true rfl) ⟨F2898, z2879, o2895, f2896, rfl, rfl, hfr2907, he2903, he2904, he2905, he2906, he2901, he2902, (Nat.le_of_ble_eq_true rfl), (Nat.le_of_ble_eq_true rfl), bz2879, (by have qa0 : Int32.toInt 0 = 0 := (by decide); omega), (rSrc_tr x2897 rSrc_rf)⟩
abbrev ky_2937_Code_block : gKey := (cX13_block, 2, "SpillForgeModel$Code", (some (FieldType.object "SpillForgeModel$Block")), [], "block", fun _ _ => True)
def pp_2937_Code_block (D : va_G) (I : FieldType → ClassId) (P2913 : List Nat) (F2914 : Nat → va_E) (q2915 : Nat) (q2916 : Nat) (q2917 : Nat) (qo2918 : Nat) (p2919 : Int32) (p2920 : Int32) (p2921 : Int32) (p2922 : Int32) (f2923 : Nat → Option Nat) (n2924 : Nat) (y2925 : Nat) (x2926 : Nat) (p2927 : Int32) (p2928 : Int32) (qo2929 : Nat) (p2930 : Int32) (p2931 : Int32) : Option Value → va_W → Nat → Nat → Prop := fun r w dc ds => ∃ (F2980 : Nat → va_E) (o2977 : Int32) (o2978 : Int32), r = some (.ref x2926) ∧ w = va_pl P2913 F2980 ∧ rFr [q2915, y2925] P2913 F2914 F2980 ∧ F2980 q2915 = .inr (18, [.ref q2916, .ref qo2918, .int p2919, .int o2977]) ∧ F2980 q2916 = .inr (4, [.int p2921, .ref q2917, .int p2922]) ∧ F2980 q2917 = .inl (I (.object "java/lang/Object"), n2924, .inr (.inr (.inr (.inr f2923)))) ∧ F2980 x2926 = .inr (17, [.ref y2925, .ref qo2929, .int p2930, .int p2931]) ∧ F2980 y2925 = .inr (4, [.int o2978, .ref (D.2 1002 1), .int 0]) ∧ dc ≤ 0 ∧ ds ≤ 0 ∧ gB o2977 1 1000001 ∧ o2977.toInt = p2920.toInt + 1
set_option maxRecDepth 100000 in
set_option maxHeartbeats 4000000 in
theorem cp_2937_Code_block (l : Launch) (hl0 : l.stackTraces = false) (D : va_G) (I : FieldType → ClassId) (P2913 : List Nat) (F2914 : Nat → va_E) (q2915 : Nat) (q2916 : Nat) (q2917 : Nat) (qo2918 : Nat) (p2919 : Int32) (p2920 : Int32) (p2921 : Int32) (p2922 : Int32) (f2923 : Nat → Option Nat) (n2924 : Nat) (y2925 : Nat) (x2926 : Nat) (p2927 : Int32) (p2928 : Int32) (qo2929 : Nat) (p2930 : Int32) (p2931 : Int32) (hmq2915 : q2915 ∈ P2913) (hmq2916 : q2916 ∈ P2913) (hmq2917 : q2917 ∈ P2913) (hmy2925 : y2925 ∈ P2913) (hmx2926 : x2926 ∈ P2913) (heq2915 : F2914 q2915 = .inr (18, [.ref q2916, .ref qo2918, .int p2919, .int p2920])) (heq2916 : F2914 q2916 = .inr (4, [.int p2921, .ref q2917, .int p2922])) (heq2917 : F2914 q2917 = .inl (I (.object "java/lang/Object"), n2924, .inr (.inr (.inr (.inr f2923))))) (hey2925 : F2914 y2925 = .inr (4, [.int p2927, .ref (D.2 1002 1), .int p2928])) (hex2926 : F2914 x2926 = .inr (17, [.ref y2925, .ref qo2929, .int p2930, .int p2931])) (hneq2916y2925 : q2916 ≠ y2925) (bp2919 : gB p2919 0 1000000) (bp2920 : gB p2920 0 1000000) (bp2922 : gB p2922 0 1000000) (bp2928 : gB p2928 0 1000000) (bp2930 : gB p2930 0 39) (bp2931 : gB p2931 0 39) (x2932 : p2920.toInt < p2922.toInt) (x2933 : p2922.toInt ≤ (n2924 : Int)) (x2934 : f2923 p2920.toNatClampNeg = some x2926) (x2935 : p2928.toInt = 0) (x2936 : ((n2924 : Int) ≤ 16777216)) : CtA (gV D I) l yX13_block cX13_block 2 (some (FieldType.object "SpillForgeModel$Block")) 3 64 0 0 [.ref q2915] (va_pl P2913 F2914) (pp_2937_Code_block D I P2913 F2914 q2915 q2916 q2917 qo2918 p2919 p2920 p2921 p2922 f2923 n2924 y2925 x2926 p2927 p2928 qo2929 p2930 p2931) gNA := by
  refine CtA_of hl0 (by decide) (Nat.le_of_ble_eq_true rfl) ?_
  have bp2921 := gB_any p2921
  have bp2927 := gB_any p2927
  refine G_aload_n 0 dr_cX13_block_0 rfl ?_
  refine Gp_get 3 hmq2915 heq2915 dr_cX13_block_1 (gk_X13 D I) (Nat.le_of_ble_eq_true rfl) wr_7_33 rfl ?_
  refine G_aload_n 0 dr_cX13_block_4 rfl ?_
  refine Gp_get 0 hmq2915 heq2915 dr_cX13_block_5 (gk_X13 D I) (Nat.le_of_ble_eq_true rfl) wr_7_30 rfl ?_
  refine Gw_callV (As := []) (gV_ok D I) (cp_2299_ArrayList_size l hl0 D I P2913 F2914 q2916 q2917 p2921 p2922 f2923 n2924 hmq2916 hmq2917 heq2916 heq2917 (gB_w bp2922 (by decide) (by decide)) (by omega)) dr_cX13_block_8 ⟨wr_9_157, wr_1_18, wr_9_160, by decide, rfl, (Nat.le_of_ble_eq_true rfl), (Nat.le_of_ble_eq_true rfl)⟩ wr_9_158 wr_9_159 hmq2916 heq2916 rfl (show 0 + 0 ≤ 0 by first | omega | decide) (show 0 + 0 ≤ 0 by first | omega | decide) (Nat.le_of_ble_eq_true rfl) (fun r2941 w2942 dc2938 ds2939 hp2940 => ?_) (fun _ _ _ _ _ z => z.elim)
  obtain ⟨rfl, rfl, hdc, hds⟩ := hp2940
  change G _ _ _ _ _ _ _ (.int p2922 :: _) _ _ _
  refine G_widen (cs' := 0) (sl' := 0) (by omega) (by omega) ?_
  refine G_icmp_ne 29 dr_cX13_block_11 (by decide +kernel) (fun hc2943 => ?_) (fun hc => absurd (show False by have := gC_eq hc; omega) not_false)
  have r2945 : p2920.toInt ≠ p2922.toInt := gC_ne hc2943
  refine G_aload_n 0 dr_cX13_block_29 rfl ?_
  refine Gp_get 0 hmq2915 heq2915 dr_cX13_block_30 (gk_X13 D I) (Nat.le_of_ble_eq_true rfl) wr_7_30 rfl ?_
  refine G_aload_n 0 dr_cX13_block_33 rfl ?_
  refine Gp_get 3 hmq2915 heq2915 dr_cX13_block_34 (gk_X13 D I) (Nat.le_of_ble_eq_true rfl) wr_7_33 rfl ?_
  refine Gw_callV (As := [.int p2920]) (gV_ok D I) (cp_22_ArrayList_get l hl0 D I P2913 F2914 q2916 q2917 p2920 p2921 p2922 f2923 n2924 x2926 hmq2916 hmq2917 heq2916 heq2917 (gB_w bp2920 (by decide) (by decide)) (gB_w bp2922 (by decide) (by decide)) (by omega) (by omega) (by assumption) (by omega)) dr_cX13_block_37 ⟨wr_10_62, wr_1_18, wr_10_65, by decide, rfl, (Nat.le_of_ble_eq_true rfl), (Nat.le_of_ble_eq_true rfl)⟩ wr_10_63 wr_10_64 hmq2916 heq2916 rfl (show 0 + 0 ≤ 0 by first | omega | decide) (show 0 + 0 ≤ 0 by first | omega | decide) (Nat.le_of_ble_eq_true rfl) (fun r2949 w2950 dc2946 ds2947 hp2948 => ?_) (fun _ _ _ _ _ z => z.elim)
  obtain ⟨rfl, rfl, hdc, hds, ht2951⟩ := hp2948
  change G _ _ _ _ _ _ _ (.ref x2926 :: _) _ _ _
  refine G_widen (cs' := 0) (sl' := 0) (by omega) (by omega) ?_
  refine Gp_cast hmx2926 hex2926 rfl dr_cX13_block_40 wr_9_161 (gr_cast 0 rfl) ?_
  refine G_astore_n (L' := [(1, .ref x2926), (0, .ref q2915)]) dr_cX13_block_43 (Nat.le_of_ble_eq_true rfl) rfl ?_
  refine G_aload_n 1 dr_cX13_block_44 rfl ?_
  refine G_dup dr_cX13_block_45 rfl ?_
  refine Gp_get 3 hmq2915 heq2915 dr_cX13_block_46 (gk_X13 D I) (Nat.le_of_ble_eq_true rfl) wr_7_33 rfl ?_
  refine G_iconst 1 dr_cX13_block_49 (by decide +kernel) ?_
  refine G_iadd dr_cX13_block_50 (G_nam fun z2952 hz2952 => ?_)
  have ez2952 : z2952.toInt = p2920.toInt + 1 := by rw [gI_add hz2952 bp2920 (gBl (show Int32.toInt 1 = 1 by decide)) (by decide) (by decide), show Int32.toInt 1 = 1 from by decide]
  have bz2952 : gB z2952 1 1000001 := gB_add (gI_add hz2952 bp2920 (gBl (show Int32.toInt 1 = 1 by decide)) (by decide) (by decide)) bp2920 (gBl (show Int32.toInt 1 = 1 by decide)) (by decide) (by decide)
  refine Gp_put 3 hmq2915 heq2915 dr_cX13_block_51 (gk_X13 D I) (Nat.le_of_ble_eq_true rfl) wr_7_33 rfl rfl rfl (Nat.le_of_ble_eq_true rfl) (fun F2953 e2954 n2955 => ?_)
  have he2956 : F2953 q2916 = .inr (4, [.int p2921, .ref q2917, .int p2922]) := (n2955 q2916 (rn_oo heq2916 heq2915 (by decide))).trans heq2916
  have he2957 : F2953 q2917 = .inl (I (.object "java/lang/Object"), n2924, .inr (.inr (.inr (.inr f2923)))) := (n2955 q2917 (rn_ao heq2917 heq2915)).trans heq2917
  have he2958 : F2953 y2925 = .inr (4, [.int p2927, .ref (D.2 1002 1), .int p2928]) := (n2955 y2925 (rn_oo hey2925 heq2915 (by decide))).trans hey2925
  have he2959 : F2953 x2926 = .inr (17, [.ref y2925, .ref qo2929, .int p2930, .int p2931]) := (n2955 x2926 (rn_oo hex2926 heq2915 (by decide))).trans hex2926
  have he2960 : F2953 q2915 = .inr (18, [.ref q2916, .ref qo2918, .int p2919, .int z2952]) := e2954
  have hfr2961 : rFr [q2915] P2913 F2914 F2953 := rFr_put (rFr_rf (W := []) (P := P2913) (F := F2914)) n2955
  refine G_aload_n 0 dr_cX13_block_54 rfl ?_
  refine Gp_get 0 hmx2926 he2959 dr_cX13_block_55 (gk_X12 D I) (Nat.le_of_ble_eq_true rfl) wr_9_219 rfl ?_
  refine Gw_callV (As := []) (gV_ok D I) (cp_1471_ArrayList_clear l hl0 D I P2913 F2953 y2925 p2927 p2928 hmy2925 he2958 (gB_w bp2928 (by decide) (by decide)) (by omega)) dr_cX13_block_58 ⟨wr_10_74, wr_1_18, wr_10_77, by decide, rfl, (Nat.le_of_ble_eq_true rfl), (Nat.le_of_ble_eq_true rfl)⟩ wr_10_75 wr_10_76 hmy2925 he2958 rfl (show 0 + 0 ≤ 0 by first | omega | decide) (show 0 + 0 ≤ 0 by first | omega | decide) (Nat.le_of_ble_eq_true rfl) (fun r2965 w2966 dc2962 ds2963 hp2964 => ?_) (fun _ _ _ _ _ z => z.elim)
  obtain ⟨F2968, o2967, rfl, rfl, hfr2970, he2971, hdc, hds⟩ := hp2964
  have he2972 : F2968 q2915 = .inr (18, [.ref q2916, .ref qo2918, .int p2919, .int z2952]) := (hfr2970 q2915 hmq2915 (nm_c (rn_oo he2960 he2958 (by decide)) nm_n)).trans he2960
  have he2973 : F2968 q2916 = .inr (4, [.int p2921, .ref q2917, .int p2922]) := (hfr2970 q2916 hmq2916 (nm_c hneq2916y2925 nm_n)).trans he2956
  have he2974 : F2968 q2917 = .inl (I (.object "java/lang/Object"), n2924, .inr (.inr (.inr (.inr f2923)))) := (hfr2970 q2917 hmq2917 (nm_c (rn_ao he2957 he2958) nm_n)).trans he2957
  have he2975 : F2968 x2926 = .inr (17, [.ref y2925, .ref qo2929, .int p2930, .int p2931]) := (hfr2970 x2926 hmx2926 (nm_c (rn_oo he2959 he2958 (by decide)) nm_n)).trans he2959
  have hfr2976 : rFr [q2915, y2925] P2913 F2914 F2968 := rFr_call (rSub_rf (P := P2913)) hfr2961 hfr2970 (fun b hb hn => ⟨(nm_c (fun e => hn (e ▸ List.mem_cons_self)) nm_n), (nm_c (fun e => hn (e ▸ (List.mem_cons_of_mem _ List.mem_cons_self))) nm_n)⟩)
  have bo2967 := gB_any o2967
  change G _ _ _ _ _ _ _ _ _ _ _
  refine G_widen (cs' := 0) (sl' := 0) (by omega) (by omega) ?_
  refine G_aload_n 0 dr_cX13_block_61 rfl ?_
  exact G_aretA (FieldType.object "SpillForgeModel$Block") dr_cX13_block_62 rfl (by first | exact Or.inl ⟨_, rfl⟩ | exact Or.inr ⟨_, rfl⟩) (Or.inr ⟨_, rfl⟩) (Nat.le_of_ble_eq_true rfl) (Nat.le_of_ble_eq_true rfl) ⟨F2968, z2952, o2967, rfl, rfl, hfr2976, he2972, he2973, he2974, he2975, he2971, (Nat.le_of_ble_eq_true rfl), (Nat.le_of_ble_eq_true rfl), bz2952, (by have qa0 : Int32.toInt 0 = 0 := (by decide); omega)⟩
abbrev ky_3029_Block_init : gKey := (cX12_init, 1, "SpillForgeModel$Block", none, [], "<init>", fun _ _ => True)
def pp_3029_Block_init (D : va_G) (I : FieldType → ClassId) (P3024 : List Nat) (F3025 : Nat → va_E) (q3026 : Nat) (p3027 : Int32) (p3028 : Int32) : Option Value → va_W → Nat → Nat → Prop := fun r w dc ds => ∃ (P3091 : List Nat) (F3092 : Nat → va_E) (q3089 : Nat) (q3090 : Nat), r = none ∧ w = va_pl P3091 F3092 ∧ rSub P3024 P3091 ∧ rFr [q3026] P3024 F3025 F3092 ∧ F3092 q3026 = .inr (17, [.ref q3089, .ref q3090, .int p3027, .int p3028]) ∧ F3092 q3089 = .inr (4, [.int 0, .ref (D.2 1002 1), .int 0]) ∧ F3092 q3090 = .inr (20, [.int 0, .int 0, .int 0, .int 0, .int 0, .int 0, .int 0]) ∧ q3089 ∈ P3091 ∧ q3089 ∉ P3024 ∧ q3090 ∈ P3091 ∧ q3090 ∉ P3024 ∧ dc ≤ 2 ∧ ds ≤ 10
set_option maxRecDepth 100000 in
set_option maxHeartbeats 4000000 in
theorem cp_3029_Block_init (l : Launch) (hl0 : l.stackTraces = false) (D : va_G) (I : FieldType → ClassId) (P3024 : List Nat) (F3025 : Nat → va_E) (q3026 : Nat) (p3027 : Int32) (p3028 : Int32) (hmq3026 : q3026 ∈ P3024) (heq3026 : F3025 q3026 = .inr (17, [.null, .null, .int p3027, .int p3028])) (bp3027 : gB p3027 0 39) (bp3028 : gB p3028 0 39) : CtA (gV D I) l yX12_init cX12_init 1 none 4 72 2 10 [.ref q3026] (va_pl P3024 F3025) (pp_3029_Block_init D I P3024 F3025 q3026 p3027 p3028) gNA := by
  refine CtA_of hl0 (by decide) (Nat.le_of_ble_eq_true rfl) ?_
  refine G_aload_n 0 dr_cX12_init_0 rfl ?_
  refine G_obj dr_cX12_init_1 wr_9_166 wr_1_51 wr_1_52 (Nat.le_of_ble_eq_true rfl) (Nat.le_of_ble_eq_true rfl) ?_
  refine G_aload_n 0 dr_cX12_init_4 rfl ?_
  refine G_new [.int 0, .null, .int 0] dr_cX12_init_5 (gk_Jx4a65c D I) wr_9_167 wr_7_4 wr_1_18 (gfs_Jx4a65c) (show 0 + 1 ≤ 2 by first | omega | decide) (show 0 + 3 ≤ 10 by first | omega | decide) (fun q3030 => Gp_in (fun P3031 F3032 hq3033 hP3034 e3035 n3036 => ?_))
  refine G_widen (cs' := 1) (sl' := 3) (by omega) (by omega) ?_
  have he3037 : F3032 q3026 = .inr (17, [.null, .null, .int p3027, .int p3028]) := (n3036 q3026 (fun h => hq3033 (h ▸ hmq3026))).trans heq3026
  have he3038 : F3032 q3030 = .inr (4, [.int 0, .null, .int 0]) := e3035
  have hm3039 : q3026 ∈ P3031 := (hP3034 q3026).mpr (Or.inl hmq3026)
  have hm3040 : q3030 ∈ P3031 := (hP3034 q3030).mpr (Or.inr rfl)
  have hq3041 : q3030 ∉ P3024 := fun z => hq3033 ((rSub_rf (P := P3024)) q3030 z)
  have hfr3042 : rFr [] P3024 F3025 F3032 := rFr_new (rSub_rf (P := P3024)) hq3033 (rFr_rf (W := []) (P := P3024) (F := F3025)) n3036
  have hsb3043 : rSub P3024 P3031 := rSub_new (rSub_rf (P := P3024)) hP3034
  refine G_dup dr_cX12_init_8 rfl ?_
  refine Gw_callI (As := []) (gV_ok D I) (cp_1606_ArrayList_init l hl0 D I P3031 F3032 q3030 0 0 hm3040 he3038) dr_cX12_init_9 ⟨wr_9_168, wr_1_18, wr_7_7, by decide, rfl, (Nat.le_of_ble_eq_true rfl), (Nat.le_of_ble_eq_true rfl)⟩ wr_7_6 rfl (show 1 + 0 ≤ 2 by first | omega | decide) (show 3 + 0 ≤ 10 by first | omega | decide) (Nat.le_of_ble_eq_true rfl) (fun r3047 w3048 dc3044 ds3045 hp3046 => ?_)
  obtain ⟨F3049, rfl, rfl, hfr3051, he3052, hdc, hds⟩ := hp3046
  have he3053 : F3049 q3026 = .inr (17, [.null, .null, .int p3027, .int p3028]) := (hfr3051 q3026 hm3039 (nm_c (fun h => hq3041 (h ▸ hmq3026)) nm_n)).trans he3037
  have hfr3054 : rFr [] P3024 F3025 F3049 := rFr_call hsb3043 hfr3042 hfr3051 (fun b hb hn => ⟨nm_n, (nm_c (fun e => hq3041 (e ▸ hb)) nm_n)⟩)
  change G _ _ _ _ _ _ _ _ _ _ _
  refine G_widen (cs' := 1) (sl' := 3) (by omega) (by omega) ?_
  refine Gp_putF 0 hm3039 he3053 dr_cX12_init_12 (gk_X12 D I) (Nat.le_of_ble_eq_true rfl) wr_9_218 rfl rfl rfl rfl rfl (Nat.le_of_ble_eq_true rfl) (fun F3055 e3056 n3057 => ?_)
  have he3058 : F3055 q3030 = .inr (4, [.int 0, .ref (D.2 1002 1), .int 0]) := (n3057 q3030 (fun h => hq3041 (h ▸ hmq3026))).trans he3052
  have he3059 : F3055 q3026 = .inr (17, [.ref q3030, .null, .int p3027, .int p3028]) := e3056
  have hfr3060 : rFr [q3026] P3024 F3025 F3055 := rFr_put hfr3054 n3057
  refine G_aload_n 0 dr_cX12_init_15 rfl ?_
  refine G_new [.int 0, .int 0, .int 0, .int 0, .int 0, .int 0, .int 0] dr_cX12_init_16 (gk_X15 D I) wr_9_169 wr_9_170 wr_1_39 (gfs_X15) (show 1 + 1 ≤ 2 by first | omega | decide) (show 3 + 7 ≤ 10 by first | omega | decide) (fun q3061 => Gp_in (fun P3062 F3063 hq3064 hP3065 e3066 n3067 => ?_))
  refine G_widen (cs' := 2) (sl' := 10) (by omega) (by omega) ?_
  have he3068 : F3063 q3026 = .inr (17, [.ref q3030, .null, .int p3027, .int p3028]) := (n3067 q3026 (fun h => hq3064 (h ▸ hm3039))).trans he3059
  have he3069 : F3063 q3030 = .inr (4, [.int 0, .ref (D.2 1002 1), .int 0]) := (n3067 q3030 (fun h => hq3064 (h ▸ hm3040))).trans he3058
  have he3070 : F3063 q3061 = .inr (20, [.int 0, .int 0, .int 0, .int 0, .int 0, .int 0, .int 0]) := e3066
  have hm3071 : q3026 ∈ P3062 := (hP3065 q3026).mpr (Or.inl hm3039)
  have hm3072 : q3030 ∈ P3062 := (hP3065 q3030).mpr (Or.inl hm3040)
  have hm3073 : q3061 ∈ P3062 := (hP3065 q3061).mpr (Or.inr rfl)
  have hq3074 : q3061 ∉ P3024 := fun z => hq3064 (hsb3043 q3061 z)
  have hfr3075 : rFr [q3026] P3024 F3025 F3063 := rFr_new hsb3043 hq3064 hfr3060 n3067
  have hsb3076 : rSub P3024 P3062 := rSub_new hsb3043 hP3065
  refine G_dup dr_cX12_init_19 rfl ?_
  refine Gw_callIN (As := []) (gV_ok D I) (cp_2427_Row_init l hl0 D I P3062 F3063 q3061 0 0 0 0 0 0 0 hm3073 he3070 (gB_w (gBl (show Int32.toInt 0 = 0 by decide)) (by decide) (by decide)) (gB_w (gBl (show Int32.toInt 0 = 0 by decide)) (by decide) (by decide)) (gB_w (gBl (show Int32.toInt 0 = 0 by decide)) (by decide) (by decide)) (gB_w (gBl (show Int32.toInt 0 = 0 by decide)) (by decide) (by decide)) (gB_w (gBl (show Int32.toInt 0 = 0 by decide)) (by decide) (by decide))) dr_cX12_init_20 ⟨(fun _ _ _ h => gn_w 79 rfl h), wr_1_39, wr_9_173, by decide, rfl, (Nat.le_of_ble_eq_true rfl), (Nat.le_of_ble_eq_true rfl)⟩ wr_9_172 rfl (show 2 + 0 ≤ 2 by first | omega | decide) (show 10 + 0 ≤ 10 by first | omega | decide) (Nat.le_of_ble_eq_true rfl) (fun r3080 w3081 dc3077 ds3078 hp3079 => ?_)
  obtain ⟨rfl, rfl, hdc, hds⟩ := hp3079
  change G _ _ _ _ _ _ _ _ _ _ _
  refine G_widen (cs' := 2) (sl' := 10) (by omega) (by omega) ?_
  refine Gp_putF 1 hm3071 he3068 dr_cX12_init_23 (gk_X12 D I) (Nat.le_of_ble_eq_true rfl) wr_9_222 rfl rfl rfl rfl rfl (Nat.le_of_ble_eq_true rfl) (fun F3082 e3083 n3084 => ?_)
  have he3085 : F3082 q3030 = .inr (4, [.int 0, .ref (D.2 1002 1), .int 0]) := (n3084 q3030 (fun h => hq3041 (h ▸ hmq3026))).trans he3069
  have he3086 : F3082 q3061 = .inr (20, [.int 0, .int 0, .int 0, .int 0, .int 0, .int 0, .int 0]) := (n3084 q3061 (fun h => hq3074 (h ▸ hmq3026))).trans he3070
  have he3087 : F3082 q3026 = .inr (17, [.ref q3030, .ref q3061, .int p3027, .int p3028]) := e3083
  have hfr3088 : rFr [q3026] P3024 F3025 F3082 := rFr_put' List.mem_cons_self hfr3075 n3084
  exact G_vretA dr_cX12_init_26 rfl (Nat.le_of_ble_eq_true rfl) (Nat.le_of_ble_eq_true rfl) ⟨P3062, F3082, q3030, q3061, rfl, rfl, hsb3076, hfr3088, he3087, he3085, he3086, hm3072, hq3041, hm3073, hq3074, (Nat.le_of_ble_eq_true rfl), (Nat.le_of_ble_eq_true rfl)⟩
abbrev ky_3185_ArrayList_add : gKey := (cJx4a65c_add_72be8, 4, "java/util/ArrayList", none, [], "add", fun _ _ => True)
def pp_3185_ArrayList_add (D : va_G) (I : FieldType → ClassId) (P3158 : List Nat) (F3159 : Nat → va_E) (q3160 : Nat) (q3161 : Nat) (q3162 : Nat) (q3163 : Nat) (q3164 : Nat) (p3165 : Int32) (p3166 : Int32) (p3167 : Int32) (p3168 : Int32) (p3169 : Int32) (f3170 : Nat → Option Nat) (n3171 : Nat) (p3172 : Int32) (p3173 : Int32) (p3174 : Int32) (p3175 : Int32) (p3176 : Int32) (p3177 : Int32) (p3178 : Int32) (p3179 : Int32) (p3180 : Int32) : Option Value → va_W → Nat → Nat → Prop := fun r w dc ds => ∃ (F3213 : Nat → va_E) (o3210 : Int32) (f3211 : Nat → Option Nat), r = none ∧ w = va_pl P3158 F3213 ∧ rFr [q3160, q3162] P3158 F3159 F3213 ∧ F3213 q3160 = .inr (4, [.int p3166, .ref q3162, .int o3210]) ∧ F3213 q3161 = .inr (17, [.ref q3163, .ref q3164, .int p3168, .int p3169]) ∧ F3213 q3162 = .inl (I (.object "java/lang/Object"), n3171, .inr (.inr (.inr (.inr f3211)))) ∧ F3213 q3163 = .inr (4, [.int p3172, .ref (D.2 1002 1), .int p3173]) ∧ F3213 q3164 = .inr (20, [.int p3174, .int p3175, .int p3176, .int p3177, .int p3178, .int p3179, .int p3180]) ∧ dc ≤ 0 ∧ ds ≤ 0 ∧ gB o3210 1 16777217 ∧ o3210.toInt = p3167.toInt + 1 ∧ ((∀ j : Nat, (j : Int) < p3167.toInt → f3211 j = f3170 j) ∧ f3211 p3165.toInt.toNat = some q3161) ∧ rSrcX f3211 f3170 q3161
set_option maxRecDepth 100000 in
set_option maxHeartbeats 4000000 in
theorem cp_3185_ArrayList_add (l : Launch) (hl0 : l.stackTraces = false) (D : va_G) (I : FieldType → ClassId) (P3158 : List Nat) (F3159 : Nat → va_E) (q3160 : Nat) (q3161 : Nat) (q3162 : Nat) (q3163 : Nat) (q3164 : Nat) (p3165 : Int32) (p3166 : Int32) (p3167 : Int32) (p3168 : Int32) (p3169 : Int32) (f3170 : Nat → Option Nat) (n3171 : Nat) (p3172 : Int32) (p3173 : Int32) (p3174 : Int32) (p3175 : Int32) (p3176 : Int32) (p3177 : Int32) (p3178 : Int32) (p3179 : Int32) (p3180 : Int32) (hmq3160 : q3160 ∈ P3158) (hmq3161 : q3161 ∈ P3158) (hmq3162 : q3162 ∈ P3158) (hmq3163 : q3163 ∈ P3158) (hmq3164 : q3164 ∈ P3158) (heq3160 : F3159 q3160 = .inr (4, [.int p3166, .ref q3162, .int p3167])) (heq3161 : F3159 q3161 = .inr (17, [.ref q3163, .ref q3164, .int p3168, .int p3169])) (heq3162 : F3159 q3162 = .inl (I (.object "java/lang/Object"), n3171, .inr (.inr (.inr (.inr f3170))))) (heq3163 : F3159 q3163 = .inr (4, [.int p3172, .ref (D.2 1002 1), .int p3173])) (heq3164 : F3159 q3164 = .inr (20, [.int p3174, .int p3175, .int p3176, .int p3177, .int p3178, .int p3179, .int p3180])) (hneq3160q3163 : q3160 ≠ q3163) (bp3165 : gB p3165 0 16777216) (bp3167 : gB p3167 0 16777216) (bp3168 : gB p3168 0 39) (bp3169 : gB p3169 0 39) (bp3173 : gB p3173 0 16777216) (bp3174 : gB p3174 0 32) (bp3175 : gB p3175 0 1999) (bp3178 : gB p3178 0 1999) (bp3179 : gB p3179 0 1) (bp3180 : gB p3180 0 1) (x3181 : p3167.toInt < (n3171 : Int)) (x3182 : p3165.toInt = p3167.toInt) (x3183 : rEl P3158 F3159 f3170) (x3184 : ((n3171 : Int) ≤ 16777216)) : CtA (gV D I) l yJx4a65c_add_72be8 cJx4a65c_add_72be8 4 none 0 0 0 0 [.ref q3160, .ref q3161, .ref q3162, .int p3165] (va_pl P3158 F3159) (pp_3185_ArrayList_add D I P3158 F3159 q3160 q3161 q3162 q3163 q3164 p3165 p3166 p3167 p3168 p3169 f3170 n3171 p3172 p3173 p3174 p3175 p3176 p3177 p3178 p3179 p3180) gNA := by
  refine CtA_ofF hl0 (by decide +kernel) (Nat.le_of_ble_eq_true rfl) ?_
  have bp3166 := gB_any p3166
  have bp3172 := gB_any p3172
  have bp3176 := gB_any p3176
  have bp3177 := gB_any p3177
  refine G_iload_n 3 dr_cJx4a65c_add_72be8_0 rfl ?_
  refine G_aload_n 2 dr_cJx4a65c_add_72be8_1 rfl ?_
  refine Gp_alen (Int32.ofNat n3171) 4 hmq3162 heq3162 dr_cJx4a65c_add_72be8_2 rfl rfl (G_nam fun z3186 hz3186 => ?_)
  have ez3186 : z3186.toInt = (n3171 : Nat) := gI_ofM hz3186 (by omega)
  have bz3186 : gB z3186 0 16777216 := ⟨by omega, by omega⟩
  refine G_icmp_ne 11 dr_cJx4a65c_add_72be8_3 (by decide +kernel) (fun hc3187 => ?_) (fun hc => absurd (show False by have := gC_eq hc; omega) not_false)
  have r3189 : p3165.toInt ≠ z3186.toInt := gC_ne hc3187
  refine G_aload_n 2 dr_cJx4a65c_add_72be8_11 rfl ?_
  refine G_iload_n 3 dr_cJx4a65c_add_72be8_12 rfl ?_
  refine G_aload_n 1 dr_cJx4a65c_add_72be8_13 rfl ?_
  refine Gp_aast 4 hmq3162 heq3162 dr_cJx4a65c_add_72be8_14 rfl ⟨hmq3161, _, _, _, _, _, heq3161, rfl, gr_cast 2 rfl⟩ (gB_inr (by omega) (by omega)) (fun F3190 e3191 n3192 => ?_)
  obtain ⟨f3193, hf3193⟩ : ∃ z, z = va_up f3170 p3165.toNatClampNeg (some q3161) := ⟨_, rfl⟩
  rw [← hf3193] at e3191
  have he3194 : F3190 q3160 = .inr (4, [.int p3166, .ref q3162, .int p3167]) := (n3192 q3160 (rn_oa heq3160 heq3162)).trans heq3160
  have he3195 : F3190 q3161 = .inr (17, [.ref q3163, .ref q3164, .int p3168, .int p3169]) := (n3192 q3161 (rn_oa heq3161 heq3162)).trans heq3161
  have he3196 : F3190 q3163 = .inr (4, [.int p3172, .ref (D.2 1002 1), .int p3173]) := (n3192 q3163 (rn_oa heq3163 heq3162)).trans heq3163
  have he3197 : F3190 q3164 = .inr (20, [.int p3174, .int p3175, .int p3176, .int p3177, .int p3178, .int p3179, .int p3180]) := (n3192 q3164 (rn_oa heq3164 heq3162)).trans heq3164
  have he3198 : F3190 q3162 = .inl (I (.object "java/lang/Object"), n3171, .inr (.inr (.inr (.inr f3193)))) := e3191
  have hfr3199 : rFr [q3162] P3158 F3159 F3190 := rFr_put (rFr_rf (W := []) (P := P3158) (F := F3159)) n3192
  refine G_aload_n 0 dr_cJx4a65c_add_72be8_15 rfl ?_
  refine G_iload_n 3 dr_cJx4a65c_add_72be8_16 rfl ?_
  refine G_iconst 1 dr_cJx4a65c_add_72be8_17 (by decide +kernel) ?_
  refine G_iadd dr_cJx4a65c_add_72be8_18 (G_nam fun z3200 hz3200 => ?_)
  have ez3200 : z3200.toInt = p3165.toInt + 1 := by rw [gI_add hz3200 bp3165 (gBl (show Int32.toInt 1 = 1 by decide)) (by decide) (by decide), show Int32.toInt 1 = 1 from by decide]
  have bz3200 : gB z3200 1 16777217 := gB_add (gI_add hz3200 bp3165 (gBl (show Int32.toInt 1 = 1 by decide)) (by decide) (by decide)) bp3165 (gBl (show Int32.toInt 1 = 1 by decide)) (by decide) (by decide)
  refine Gp_put 2 hmq3160 he3194 dr_cJx4a65c_add_72be8_19 (gk_Jx4a65c D I) (Nat.le_of_ble_eq_true rfl) wr_7_18 rfl rfl rfl (Nat.le_of_ble_eq_true rfl) (fun F3201 e3202 n3203 => ?_)
  have he3204 : F3201 q3161 = .inr (17, [.ref q3163, .ref q3164, .int p3168, .int p3169]) := (n3203 q3161 (rn_oo he3195 he3194 (by decide))).trans he3195
  have he3205 : F3201 q3162 = .inl (I (.object "java/lang/Object"), n3171, .inr (.inr (.inr (.inr f3193)))) := (n3203 q3162 (rn_ao he3198 he3194)).trans he3198
  have he3206 : F3201 q3163 = .inr (4, [.int p3172, .ref (D.2 1002 1), .int p3173]) := (n3203 q3163 (Ne.symm hneq3160q3163)).trans he3196
  have he3207 : F3201 q3164 = .inr (20, [.int p3174, .int p3175, .int p3176, .int p3177, .int p3178, .int p3179, .int p3180]) := (n3203 q3164 (rn_oo he3197 he3194 (by decide))).trans he3197
  have he3208 : F3201 q3160 = .inr (4, [.int p3166, .ref q3162, .int z3200]) := e3202
  have hfr3209 : rFr [q3160, q3162] P3158 F3159 F3201 := rFr_put hfr3199 n3203
  exact G_vretA dr_cJx4a65c_add_72be8_22 rfl (Nat.le_of_ble_eq_true rfl) (Nat.le_of_ble_eq_true rfl) ⟨F3201, z3200, f3193, rfl, rfl, hfr3209, he3208, he3204, he3205, he3206, he3207, (Nat.le_of_ble_eq_true rfl), (Nat.le_of_ble_eq_true rfl), bz3200, (by omega), (rI_add (fun _ _ => rfl) hf3193 (by omega) (by omega)), (rSrcX_up hf3193 rSrc_rf)⟩
abbrev ky_3147_ArrayList_add : gKey := (cJx4a65c_add_9ea2d, 2, "java/util/ArrayList", (some FieldType.boolean), [], "add", fun _ _ => True)
def pp_3147_ArrayList_add (D : va_G) (I : FieldType → ClassId) (P3122 : List Nat) (F3123 : Nat → va_E) (q3124 : Nat) (q3125 : Nat) (q3126 : Nat) (q3127 : Nat) (q3128 : Nat) (p3129 : Int32) (p3130 : Int32) (p3131 : Int32) (p3132 : Int32) (f3133 : Nat → Option Nat) (n3134 : Nat) (p3135 : Int32) (p3136 : Int32) (p3137 : Int32) (p3138 : Int32) (p3139 : Int32) (p3140 : Int32) (p3141 : Int32) (p3142 : Int32) (p3143 : Int32) : Option Value → va_W → Nat → Nat → Prop := fun r w dc ds => ∃ (F3237 : Nat → va_E) (o3233 : Int32) (o3234 : Int32) (f3235 : Nat → Option Nat), r = some (.int 1) ∧ w = va_pl P3122 F3237 ∧ rFr [q3124, q3126] P3122 F3123 F3237 ∧ F3237 q3124 = .inr (4, [.int o3233, .ref q3126, .int o3234]) ∧ F3237 q3125 = .inr (17, [.ref q3127, .ref q3128, .int p3131, .int p3132]) ∧ F3237 q3126 = .inl (I (.object "java/lang/Object"), n3134, .inr (.inr (.inr (.inr f3235)))) ∧ F3237 q3127 = .inr (4, [.int p3135, .ref (D.2 1002 1), .int p3136]) ∧ F3237 q3128 = .inr (20, [.int p3137, .int p3138, .int p3139, .int p3140, .int p3141, .int p3142, .int p3143]) ∧ dc ≤ 0 ∧ ds ≤ 0 ∧ gB o3234 1 16777217 ∧ o3234.toInt = p3130.toInt + 1 ∧ ((∀ j : Nat, (j : Int) < p3130.toInt → f3235 j = f3133 j) ∧ f3235 p3130.toInt.toNat = some q3125) ∧ rSrcX f3235 f3133 q3125
set_option maxRecDepth 100000 in
set_option maxHeartbeats 4000000 in
theorem cp_3147_ArrayList_add (l : Launch) (hl0 : l.stackTraces = false) (D : va_G) (I : FieldType → ClassId) (P3122 : List Nat) (F3123 : Nat → va_E) (q3124 : Nat) (q3125 : Nat) (q3126 : Nat) (q3127 : Nat) (q3128 : Nat) (p3129 : Int32) (p3130 : Int32) (p3131 : Int32) (p3132 : Int32) (f3133 : Nat → Option Nat) (n3134 : Nat) (p3135 : Int32) (p3136 : Int32) (p3137 : Int32) (p3138 : Int32) (p3139 : Int32) (p3140 : Int32) (p3141 : Int32) (p3142 : Int32) (p3143 : Int32) (hmq3124 : q3124 ∈ P3122) (hmq3125 : q3125 ∈ P3122) (hmq3126 : q3126 ∈ P3122) (hmq3127 : q3127 ∈ P3122) (hmq3128 : q3128 ∈ P3122) (heq3124 : F3123 q3124 = .inr (4, [.int p3129, .ref q3126, .int p3130])) (heq3125 : F3123 q3125 = .inr (17, [.ref q3127, .ref q3128, .int p3131, .int p3132])) (heq3126 : F3123 q3126 = .inl (I (.object "java/lang/Object"), n3134, .inr (.inr (.inr (.inr f3133))))) (heq3127 : F3123 q3127 = .inr (4, [.int p3135, .ref (D.2 1002 1), .int p3136])) (heq3128 : F3123 q3128 = .inr (20, [.int p3137, .int p3138, .int p3139, .int p3140, .int p3141, .int p3142, .int p3143])) (hneq3124q3127 : q3124 ≠ q3127) (bp3130 : gB p3130 0 16777216) (bp3131 : gB p3131 0 39) (bp3132 : gB p3132 0 39) (bp3136 : gB p3136 0 16777216) (bp3137 : gB p3137 0 32) (bp3138 : gB p3138 0 1999) (bp3141 : gB p3141 0 1999) (bp3142 : gB p3142 0 1) (bp3143 : gB p3143 0 1) (x3144 : p3130.toInt < (n3134 : Int)) (x3145 : rEl P3122 F3123 f3133) (x3146 : ((n3134 : Int) ≤ 16777216)) : CtA (gV D I) l yJx4a65c_add_9ea2d cJx4a65c_add_9ea2d 2 (some FieldType.boolean) 1 23 0 0 [.ref q3124, .ref q3125] (va_pl P3122 F3123) (pp_3147_ArrayList_add D I P3122 F3123 q3124 q3125 q3126 q3127 q3128 p3129 p3130 p3131 p3132 f3133 n3134 p3135 p3136 p3137 p3138 p3139 p3140 p3141 p3142 p3143) gNA := by
  refine CtA_ofF hl0 (by decide +kernel) (Nat.le_of_ble_eq_true rfl) ?_
  have bp3129 := gB_any p3129
  have bp3135 := gB_any p3135
  have bp3139 := gB_any p3139
  have bp3140 := gB_any p3140
  refine G_aload_n 0 dr_cJx4a65c_add_9ea2d_0 rfl ?_
  refine G_dup dr_cJx4a65c_add_9ea2d_1 rfl ?_
  refine Gp_getS 0 hmq3124 heq3124 dr_cJx4a65c_add_9ea2d_2 (gk_Jx4a65c D I) (Nat.le_of_ble_eq_true rfl) wr_7_20 wr_7_21 rfl ?_
  refine G_iconst 1 dr_cJx4a65c_add_9ea2d_5 (by decide +kernel) ?_
  refine G_iadd dr_cJx4a65c_add_9ea2d_6 (G_nam fun z3148 hz3148 => ?_)
  have bz3148 : gB z3148 (-2147483648) 2147483647 := gB_any z3148
  refine Gp_putS 0 hmq3124 heq3124 dr_cJx4a65c_add_9ea2d_7 (gk_Jx4a65c D I) (Nat.le_of_ble_eq_true rfl) wr_7_20 wr_7_21 rfl rfl rfl (Nat.le_of_ble_eq_true rfl) (fun F3149 e3150 n3151 => ?_)
  have he3152 : F3149 q3125 = .inr (17, [.ref q3127, .ref q3128, .int p3131, .int p3132]) := (n3151 q3125 (rn_oo heq3125 heq3124 (by decide))).trans heq3125
  have he3153 : F3149 q3126 = .inl (I (.object "java/lang/Object"), n3134, .inr (.inr (.inr (.inr f3133)))) := (n3151 q3126 (rn_ao heq3126 heq3124)).trans heq3126
  have he3154 : F3149 q3127 = .inr (4, [.int p3135, .ref (D.2 1002 1), .int p3136]) := (n3151 q3127 (Ne.symm hneq3124q3127)).trans heq3127
  have he3155 : F3149 q3128 = .inr (20, [.int p3137, .int p3138, .int p3139, .int p3140, .int p3141, .int p3142, .int p3143]) := (n3151 q3128 (rn_oo heq3128 heq3124 (by decide))).trans heq3128
  have he3156 : F3149 q3124 = .inr (4, [.int z3148, .ref q3126, .int p3130]) := e3150
  have hfr3157 : rFr [q3124] P3122 F3123 F3149 := rFr_put (rFr_rf (W := []) (P := P3122) (F := F3123)) n3151
  refine G_aload_n 0 dr_cJx4a65c_add_9ea2d_10 rfl ?_
  refine G_aload_n 1 dr_cJx4a65c_add_9ea2d_11 rfl ?_
  refine G_aload_n 0 dr_cJx4a65c_add_9ea2d_12 rfl ?_
  refine Gp_get 1 hmq3124 he3156 dr_cJx4a65c_add_9ea2d_13 (gk_Jx4a65c D I) (Nat.le_of_ble_eq_true rfl) wr_7_17 rfl ?_
  refine G_aload_n 0 dr_cJx4a65c_add_9ea2d_16 rfl ?_
  refine Gp_get 2 hmq3124 he3156 dr_cJx4a65c_add_9ea2d_17 (gk_Jx4a65c D I) (Nat.le_of_ble_eq_true rfl) wr_7_18 rfl ?_
  refine Gw_callV (As := [.ref q3125, .ref q3126, .int p3130]) (gV_ok D I) (cp_3185_ArrayList_add l hl0 D I P3122 F3149 q3124 q3125 q3126 q3127 q3128 p3130 z3148 p3130 p3131 p3132 f3133 n3134 p3135 p3136 p3137 p3138 p3139 p3140 p3141 p3142 p3143 hmq3124 hmq3125 hmq3126 hmq3127 hmq3128 he3156 he3152 he3153 he3154 he3155 hneq3124q3127 bp3130 bp3130 bp3131 bp3132 bp3136 bp3137 bp3138 bp3141 bp3142 bp3143 (by omega) (by omega) (rEl_frG (rEl_src x3145 rSrc_rf) (rSub_rf (P := P3122)) hfr3157 (rNg_c (rNg_o heq3124 (by decide) (by decide)) rNg_n)) (by omega)) dr_cJx4a65c_add_9ea2d_20 ⟨wr_10_7, wr_1_18, wr_10_10, by decide, rfl, (Nat.le_of_ble_eq_true rfl), (Nat.le_of_ble_eq_true rfl)⟩ wr_10_9 wr_p_85 hmq3124 he3156 rfl (show 0 + 0 ≤ 0 by first | omega | decide) (show 0 + 0 ≤ 0 by first | omega | decide) (Nat.le_of_ble_eq_true rfl) (fun r3217 w3218 dc3214 ds3215 hp3216 => ?_) (fun _ _ _ _ _ z => z.elim)
  obtain ⟨F3224, o3219, f3220, rfl, rfl, hfr3226, he3227, he3228, he3229, he3230, he3231, hdc, hds, bo3219, x3221, x3222, x3223⟩ := hp3216
  have hfr3232 : rFr [q3124, q3126] P3122 F3123 F3224 := rFr_call (rSub_rf (P := P3122)) hfr3157 hfr3226 (fun b hb hn => ⟨(nm_c (fun e => hn (e ▸ List.mem_cons_self)) nm_n), (nm_c (fun e => hn (e ▸ List.mem_cons_self)) (nm_c (fun e => hn (e ▸ (List.mem_cons_of_mem _ List.mem_cons_self))) nm_n))⟩)
  change G _ _ _ _ _ _ _ _ _ _ _
  refine G_widen (cs' := 0) (sl' := 0) (by omega) (by omega) ?_
  refine G_iconst 1 dr_cJx4a65c_add_9ea2d_23 (by decide +kernel) ?_
  exact G_zretA FieldType.boolean dr_cJx4a65c_add_9ea2d_24 rfl rfl (Nat.le_of_ble_eq_true rfl) (Nat.le_of_ble_eq_true rfl) ⟨F3224, z3148, o3219, f3220, rfl, rfl, hfr3232, he3227, he3228, he3229, he3230, he3231, (Nat.le_of_ble_eq_true rfl), (Nat.le_of_ble_eq_true rfl), bo3219, (by omega), (by assumption), (by assumption)⟩
abbrev ky_2997_Code_block : gKey := (cX13_block, 2, "SpillForgeModel$Code", (some (FieldType.object "SpillForgeModel$Block")), [], "block", fun _ _ => True)
def pp_2997_Code_block (D : va_G) (I : FieldType → ClassId) (P2981 : List Nat) (F2982 : Nat → va_E) (q2983 : Nat) (q2984 : Nat) (q2985 : Nat) (qo2986 : Nat) (p2987 : Int32) (p2988 : Int32) (p2989 : Int32) (p2990 : Int32) (f2991 : Nat → Option Nat) (n2992 : Nat) : Option Value → va_W → Nat → Nat → Prop := fun r w dc ds => ∃ (P3301 : List Nat) (F3302 : Nat → va_E) (o3293 : Int32) (q3294 : Nat) (o3295 : Int32) (o3296 : Int32) (q3297 : Nat) (o3298 : Int32) (q3299 : Nat) (f3300 : Nat → Option Nat), r = some (.ref q3294) ∧ w = va_pl P3301 F3302 ∧ rSub P2981 P3301 ∧ rFr [q2983, q2984, q2985] P2981 F2982 F3302 ∧ F3302 q2983 = .inr (18, [.ref q2984, .ref qo2986, .int p2987, .int o3293]) ∧ F3302 q2984 = .inr (4, [.int o3295, .ref q2985, .int o3296]) ∧ F3302 q3294 = .inr (17, [.ref q3297, .ref q3299, .int 0, .int 0]) ∧ F3302 q2985 = .inl (I (.object "java/lang/Object"), n2992, .inr (.inr (.inr (.inr f3300)))) ∧ F3302 q3299 = .inr (20, [.int 0, .int 0, .int 0, .int 0, .int 0, .int 0, .int 0]) ∧ F3302 q3297 = .inr (4, [.int o3298, .ref (D.2 1002 1), .int 0]) ∧ q3294 ∈ P3301 ∧ q3294 ∉ P2981 ∧ q3297 ∈ P3301 ∧ q3297 ∉ P2981 ∧ q3299 ∈ P3301 ∧ q3299 ∉ P2981 ∧ dc ≤ 3 ∧ ds ≤ 14 ∧ gB o3293 1 1000001 ∧ gB o3296 1 16777217 ∧ o3293.toInt = p2988.toInt + 1 ∧ o3296.toInt = p2990.toInt + 1 ∧ ((∀ j : Nat, (j : Int) < p2990.toInt → f3300 j = f2991 j) ∧ f3300 p2990.toInt.toNat = some q3294) ∧ rSrcX f3300 f2991 q3294
set_option maxRecDepth 100000 in
set_option maxHeartbeats 4000000 in
theorem cp_2997_Code_block (l : Launch) (hl0 : l.stackTraces = false) (D : va_G) (I : FieldType → ClassId) (P2981 : List Nat) (F2982 : Nat → va_E) (q2983 : Nat) (q2984 : Nat) (q2985 : Nat) (qo2986 : Nat) (p2987 : Int32) (p2988 : Int32) (p2989 : Int32) (p2990 : Int32) (f2991 : Nat → Option Nat) (n2992 : Nat) (hmq2983 : q2983 ∈ P2981) (hmq2984 : q2984 ∈ P2981) (hmq2985 : q2985 ∈ P2981) (heq2983 : F2982 q2983 = .inr (18, [.ref q2984, .ref qo2986, .int p2987, .int p2988])) (heq2984 : F2982 q2984 = .inr (4, [.int p2989, .ref q2985, .int p2990])) (heq2985 : F2982 q2985 = .inl (I (.object "java/lang/Object"), n2992, .inr (.inr (.inr (.inr f2991))))) (bp2987 : gB p2987 0 1000000) (bp2988 : gB p2988 0 1000000) (bp2990 : gB p2990 0 1000000) (x2993 : p2988.toInt = p2990.toInt) (x2994 : p2990.toInt < (n2992 : Int)) (x2995 : rEl P2981 F2982 f2991) (x2996 : ((n2992 : Int) ≤ 16777216)) : CtA (gV D I) l yX13_block cX13_block 2 (some (FieldType.object "SpillForgeModel$Block")) 5 92 3 14 [.ref q2983] (va_pl P2981 F2982) (pp_2997_Code_block D I P2981 F2982 q2983 q2984 q2985 qo2986 p2987 p2988 p2989 p2990 f2991 n2992) gNA := by
  refine CtA_of hl0 (by decide) (Nat.le_of_ble_eq_true rfl) ?_
  have bp2989 := gB_any p2989
  refine G_aload_n 0 dr_cX13_block_0 rfl ?_
  refine Gp_get 3 hmq2983 heq2983 dr_cX13_block_1 (gk_X13 D I) (Nat.le_of_ble_eq_true rfl) wr_7_33 rfl ?_
  refine G_aload_n 0 dr_cX13_block_4 rfl ?_
  refine Gp_get 0 hmq2983 heq2983 dr_cX13_block_5 (gk_X13 D I) (Nat.le_of_ble_eq_true rfl) wr_7_30 rfl ?_
  refine Gw_callV (As := []) (gV_ok D I) (cp_2299_ArrayList_size l hl0 D I P2981 F2982 q2984 q2985 p2989 p2990 f2991 n2992 hmq2984 hmq2985 heq2984 heq2985 (gB_w bp2990 (by decide) (by decide)) (by omega)) dr_cX13_block_8 ⟨wr_9_157, wr_1_18, wr_9_160, by decide, rfl, (Nat.le_of_ble_eq_true rfl), (Nat.le_of_ble_eq_true rfl)⟩ wr_9_158 wr_9_159 hmq2984 heq2984 rfl (show 0 + 0 ≤ 3 by first | omega | decide) (show 0 + 0 ≤ 14 by first | omega | decide) (Nat.le_of_ble_eq_true rfl) (fun r3001 w3002 dc2998 ds2999 hp3000 => ?_) (fun _ _ _ _ _ z => z.elim)
  obtain ⟨rfl, rfl, hdc, hds⟩ := hp3000
  change G _ _ _ _ _ _ _ (.int p2990 :: _) _ _ _
  refine G_widen (cs' := 0) (sl' := 0) (by omega) (by omega) ?_
  refine G_icmp_ne 29 dr_cX13_block_11 (by decide +kernel) (fun hc => absurd (show False by have := gC_ne hc; omega) not_false) (fun hc3003 => ?_)
  have r3005 : p2988.toInt = p2990.toInt := gC_eq hc3003
  refine G_aload_n 0 dr_cX13_block_14 rfl ?_
  refine Gp_get 0 hmq2983 heq2983 dr_cX13_block_15 (gk_X13 D I) (Nat.le_of_ble_eq_true rfl) wr_7_30 rfl ?_
  refine G_new [.null, .null, .int 0, .int 0] dr_cX13_block_18 (gk_X12 D I) wr_9_161 wr_9_162 wr_1_38 (gfs_X12) (show 0 + 1 ≤ 3 by first | omega | decide) (show 0 + 4 ≤ 14 by first | omega | decide) (fun q3006 => Gp_in (fun P3007 F3008 hq3009 hP3010 e3011 n3012 => ?_))
  refine G_widen (cs' := 1) (sl' := 4) (by omega) (by omega) ?_
  have he3013 : F3008 q2983 = .inr (18, [.ref q2984, .ref qo2986, .int p2987, .int p2988]) := (n3012 q2983 (fun h => hq3009 (h ▸ hmq2983))).trans heq2983
  have he3014 : F3008 q2984 = .inr (4, [.int p2989, .ref q2985, .int p2990]) := (n3012 q2984 (fun h => hq3009 (h ▸ hmq2984))).trans heq2984
  have he3015 : F3008 q2985 = .inl (I (.object "java/lang/Object"), n2992, .inr (.inr (.inr (.inr f2991)))) := (n3012 q2985 (fun h => hq3009 (h ▸ hmq2985))).trans heq2985
  have he3016 : F3008 q3006 = .inr (17, [.null, .null, .int 0, .int 0]) := e3011
  have hm3017 : q2983 ∈ P3007 := (hP3010 q2983).mpr (Or.inl hmq2983)
  have hm3018 : q2984 ∈ P3007 := (hP3010 q2984).mpr (Or.inl hmq2984)
  have hm3019 : q2985 ∈ P3007 := (hP3010 q2985).mpr (Or.inl hmq2985)
  have hm3020 : q3006 ∈ P3007 := (hP3010 q3006).mpr (Or.inr rfl)
  have hq3021 : q3006 ∉ P2981 := fun z => hq3009 ((rSub_rf (P := P2981)) q3006 z)
  have hfr3022 : rFr [] P2981 F2982 F3008 := rFr_new (rSub_rf (P := P2981)) hq3009 (rFr_rf (W := []) (P := P2981) (F := F2982)) n3012
  have hsb3023 : rSub P2981 P3007 := rSub_new (rSub_rf (P := P2981)) hP3010
  refine G_dup dr_cX13_block_21 rfl ?_
  refine Gw_callIN (As := []) (gV_ok D I) (cp_3029_Block_init l hl0 D I P3007 F3008 q3006 0 0 hm3020 he3016 (gB_w (gBl (show Int32.toInt 0 = 0 by decide)) (by decide) (by decide)) (gB_w (gBl (show Int32.toInt 0 = 0 by decide)) (by decide) (by decide))) dr_cX13_block_22 ⟨(fun _ _ _ h => gn_w 78 rfl h), wr_1_38, wr_9_165, by decide, rfl, (Nat.le_of_ble_eq_true rfl), (Nat.le_of_ble_eq_true rfl)⟩ wr_9_164 rfl (show 1 + 2 ≤ 3 by first | omega | decide) (show 4 + 10 ≤ 14 by first | omega | decide) (Nat.le_of_ble_eq_true rfl) (fun r3096 w3097 dc3093 ds3094 hp3095 => ?_)
  obtain ⟨P3100, F3101, q3098, q3099, rfl, rfl, hsb3102, hfr3103, he3104, he3105, he3106, hm3107, hq3108, hm3109, hq3110, hdc, hds⟩ := hp3095
  have hm3111 : q2983 ∈ P3100 := hsb3102 q2983 hm3017
  have hm3112 : q2984 ∈ P3100 := hsb3102 q2984 hm3018
  have hm3113 : q2985 ∈ P3100 := hsb3102 q2985 hm3019
  have hm3114 : q3006 ∈ P3100 := hsb3102 q3006 hm3020
  have hq3115 : q3098 ∉ P2981 := fun z => hq3108 (hsb3023 q3098 z)
  have hq3116 : q3099 ∉ P2981 := fun z => hq3110 (hsb3023 q3099 z)
  have hsb3117 : rSub P2981 P3100 := rSub_tr hsb3023 hsb3102
  have he3118 : F3101 q2983 = .inr (18, [.ref q2984, .ref qo2986, .int p2987, .int p2988]) := (hfr3103 q2983 hm3017 (nm_c (fun h => hq3021 (h ▸ hmq2983)) nm_n)).trans he3013
  have he3119 : F3101 q2984 = .inr (4, [.int p2989, .ref q2985, .int p2990]) := (hfr3103 q2984 hm3018 (nm_c (fun h => hq3021 (h ▸ hmq2984)) nm_n)).trans he3014
  have he3120 : F3101 q2985 = .inl (I (.object "java/lang/Object"), n2992, .inr (.inr (.inr (.inr f2991)))) := (hfr3103 q2985 hm3019 (nm_c (fun h => hq3021 (h ▸ hmq2985)) nm_n)).trans he3015
  have hfr3121 : rFr [] P2981 F2982 F3101 := rFr_call hsb3023 hfr3022 hfr3103 (fun b hb hn => ⟨nm_n, (nm_c (fun e => hq3021 (e ▸ hb)) nm_n)⟩)
  change G _ _ _ _ _ _ _ _ _ _ _
  refine G_widen (cs' := 3) (sl' := 14) (by omega) (by omega) ?_
  refine Gw_callV (As := [.ref q3006]) (gV_ok D I) (cp_3147_ArrayList_add l hl0 D I P3100 F3101 q2984 q3006 q2985 q3098 q3099 p2989 p2990 0 0 f2991 n2992 0 0 0 0 0 0 0 0 0 hm3112 hm3114 hm3113 hm3107 hm3109 he3119 he3104 he3120 he3105 he3106 (fun h => hq3115 (h ▸ hmq2984)) (gB_w bp2990 (by decide) (by decide)) (gB_w (gBl (show Int32.toInt 0 = 0 by decide)) (by decide) (by decide)) (gB_w (gBl (show Int32.toInt 0 = 0 by decide)) (by decide) (by decide)) (gB_w (gBl (show Int32.toInt 0 = 0 by decide)) (by decide) (by decide)) (gB_w (gBl (show Int32.toInt 0 = 0 by decide)) (by decide) (by decide)) (gB_w (gBl (show Int32.toInt 0 = 0 by decide)) (by decide) (by decide)) (gB_w (gBl (show Int32.toInt 0 = 0 by decide)) (by decide) (by decide)) (gB_w (gBl (show Int32.toInt 0 = 0 by decide)) (by decide) (by decide)) (gB_w (gBl (show Int32.toInt 0 = 0 by decide)) (by decide) (by decide)) (by have qa0 : Int32.toInt 0 = 0 := (by decide); omega) (rEl_frG (rEl_src x2995 rSrc_rf) hsb3117 hfr3121 rNg_n) (by have qa0 : Int32.toInt 0 = 0 := (by decide); omega)) dr_cX13_block_25 ⟨wr_10_3, wr_1_18, wr_10_6, by decide, rfl, (Nat.le_of_ble_eq_true rfl), (Nat.le_of_ble_eq_true rfl)⟩ wr_10_4 wr_10_5 hm3112 he3119 rfl (show 3 + 0 ≤ 3 by first | omega | decide) (show 14 + 0 ≤ 14 by first | omega | decide) (Nat.le_of_ble_eq_true rfl) (fun r3241 w3242 dc3238 ds3239 hp3240 => ?_) (fun _ _ _ _ _ z => z.elim)
  obtain ⟨F3249, o3243, o3244, f3245, rfl, rfl, hfr3251, he3252, he3253, he3254, he3255, he3256, hdc, hds, bo3244, x3246, x3247, x3248⟩ := hp3240
  have he3257 : F3249 q2983 = .inr (18, [.ref q2984, .ref qo2986, .int p2987, .int p2988]) := (hfr3251 q2983 hm3111 (nm_c (rn_oo he3118 he3119 (by decide)) (nm_c (rn_oa he3118 he3120) nm_n))).trans he3118
  have hfr3258 : rFr [q2984, q2985] P2981 F2982 F3249 := rFr_call hsb3117 hfr3121 hfr3251 (fun b hb hn => ⟨nm_n, (nm_c (fun e => hn (e ▸ List.mem_cons_self)) (nm_c (fun e => hn (e ▸ (List.mem_cons_of_mem _ List.mem_cons_self))) nm_n))⟩)
  have bo3243 := gB_any o3243
  change G _ _ _ _ _ _ _ (.int 1 :: _) _ _ _
  refine G_widen (cs' := 3) (sl' := 14) (by omega) (by omega) ?_
  have hx3259 : f3245 p2988.toNatClampNeg = some q3006 := by show f3245 p2988.toInt.toNat = _; rw [show p2988.toInt = p2990.toInt by omega]; exact x3247.2
  refine G_pop dr_cX13_block_28 rfl ?_
  refine G_aload_n 0 dr_cX13_block_29 rfl ?_
  refine Gp_get 0 hm3111 he3257 dr_cX13_block_30 (gk_X13 D I) (Nat.le_of_ble_eq_true rfl) wr_7_30 rfl ?_
  refine G_aload_n 0 dr_cX13_block_33 rfl ?_
  refine Gp_get 3 hm3111 he3257 dr_cX13_block_34 (gk_X13 D I) (Nat.le_of_ble_eq_true rfl) wr_7_33 rfl ?_
  refine Gw_callV (As := [.int p2988]) (gV_ok D I) (cp_22_ArrayList_get l hl0 D I P3100 F3249 q2984 q2985 p2988 o3243 o3244 f3245 n2992 q3006 hm3112 hm3113 he3252 he3254 (gB_w bp2988 (by decide) (by decide)) ⟨by omega, by omega⟩ (by have qa0 : Int32.toInt 0 = 0 := (by decide); omega) (by have qa0 : Int32.toInt 0 = 0 := (by decide); omega) (by assumption) (by have qa0 : Int32.toInt 0 = 0 := (by decide); omega)) dr_cX13_block_37 ⟨wr_10_62, wr_1_18, wr_10_65, by decide, rfl, (Nat.le_of_ble_eq_true rfl), (Nat.le_of_ble_eq_true rfl)⟩ wr_10_63 wr_10_64 hm3112 he3252 rfl (show 3 + 0 ≤ 3 by first | omega | decide) (show 14 + 0 ≤ 14 by first | omega | decide) (Nat.le_of_ble_eq_true rfl) (fun r3263 w3264 dc3260 ds3261 hp3262 => ?_) (fun _ _ _ _ _ z => z.elim)
  obtain ⟨rfl, rfl, hdc, hds, ht3265⟩ := hp3262
  change G _ _ _ _ _ _ _ (.ref q3006 :: _) _ _ _
  refine G_widen (cs' := 3) (sl' := 14) (by omega) (by omega) ?_
  refine Gp_cast hm3114 he3253 rfl dr_cX13_block_40 wr_9_161 (gr_cast 0 rfl) ?_
  refine G_astore_n (L' := [(1, .ref q3006), (0, .ref q2983)]) dr_cX13_block_43 (Nat.le_of_ble_eq_true rfl) rfl ?_
  refine G_aload_n 1 dr_cX13_block_44 rfl ?_
  refine G_dup dr_cX13_block_45 rfl ?_
  refine Gp_get 3 hm3111 he3257 dr_cX13_block_46 (gk_X13 D I) (Nat.le_of_ble_eq_true rfl) wr_7_33 rfl ?_
  refine G_iconst 1 dr_cX13_block_49 (by decide +kernel) ?_
  refine G_iadd dr_cX13_block_50 (G_nam fun z3266 hz3266 => ?_)
  have ez3266 : z3266.toInt = p2988.toInt + 1 := by rw [gI_add hz3266 bp2988 (gBl (show Int32.toInt 1 = 1 by decide)) (by decide) (by decide), show Int32.toInt 1 = 1 from by decide]
  have bz3266 : gB z3266 1 1000001 := gB_add (gI_add hz3266 bp2988 (gBl (show Int32.toInt 1 = 1 by decide)) (by decide) (by decide)) bp2988 (gBl (show Int32.toInt 1 = 1 by decide)) (by decide) (by decide)
  refine Gp_put 3 hm3111 he3257 dr_cX13_block_51 (gk_X13 D I) (Nat.le_of_ble_eq_true rfl) wr_7_33 rfl rfl rfl (Nat.le_of_ble_eq_true rfl) (fun F3267 e3268 n3269 => ?_)
  have he3270 : F3267 q2984 = .inr (4, [.int o3243, .ref q2985, .int o3244]) := (n3269 q2984 (rn_oo he3252 he3257 (by decide))).trans he3252
  have he3271 : F3267 q3006 = .inr (17, [.ref q3098, .ref q3099, .int 0, .int 0]) := (n3269 q3006 (fun h => hq3021 (h ▸ hmq2983))).trans he3253
  have he3272 : F3267 q2985 = .inl (I (.object "java/lang/Object"), n2992, .inr (.inr (.inr (.inr f3245)))) := (n3269 q2985 (rn_ao he3254 he3257)).trans he3254
  have he3273 : F3267 q3098 = .inr (4, [.int 0, .ref (D.2 1002 1), .int 0]) := (n3269 q3098 (fun h => hq3115 (h ▸ hmq2983))).trans he3255
  have he3274 : F3267 q3099 = .inr (20, [.int 0, .int 0, .int 0, .int 0, .int 0, .int 0, .int 0]) := (n3269 q3099 (fun h => hq3116 (h ▸ hmq2983))).trans he3256
  have he3275 : F3267 q2983 = .inr (18, [.ref q2984, .ref qo2986, .int p2987, .int z3266]) := e3268
  have hfr3276 : rFr [q2983, q2984, q2985] P2981 F2982 F3267 := rFr_put hfr3258 n3269
  refine G_aload_n 0 dr_cX13_block_54 rfl ?_
  refine Gp_get 0 hm3114 he3271 dr_cX13_block_55 (gk_X12 D I) (Nat.le_of_ble_eq_true rfl) wr_9_219 rfl ?_
  refine Gw_callV (As := []) (gV_ok D I) (cp_1471_ArrayList_clear l hl0 D I P3100 F3267 q3098 0 0 hm3107 he3273 (gB_w (gBl (show Int32.toInt 0 = 0 by decide)) (by decide) (by decide)) (by have qa0 : Int32.toInt 0 = 0 := (by decide); omega)) dr_cX13_block_58 ⟨wr_10_74, wr_1_18, wr_10_77, by decide, rfl, (Nat.le_of_ble_eq_true rfl), (Nat.le_of_ble_eq_true rfl)⟩ wr_10_75 wr_10_76 hm3107 he3273 rfl (show 3 + 0 ≤ 3 by first | omega | decide) (show 14 + 0 ≤ 14 by first | omega | decide) (Nat.le_of_ble_eq_true rfl) (fun r3280 w3281 dc3277 ds3278 hp3279 => ?_) (fun _ _ _ _ _ z => z.elim)
  obtain ⟨F3283, o3282, rfl, rfl, hfr3285, he3286, hdc, hds⟩ := hp3279
  have he3287 : F3283 q2983 = .inr (18, [.ref q2984, .ref qo2986, .int p2987, .int z3266]) := (hfr3285 q2983 hm3111 (nm_c (fun h => hq3115 (h ▸ hmq2983)) nm_n)).trans he3275
  have he3288 : F3283 q2984 = .inr (4, [.int o3243, .ref q2985, .int o3244]) := (hfr3285 q2984 hm3112 (nm_c (fun h => hq3115 (h ▸ hmq2984)) nm_n)).trans he3270
  have he3289 : F3283 q3006 = .inr (17, [.ref q3098, .ref q3099, .int 0, .int 0]) := (hfr3285 q3006 hm3114 (nm_c (rn_oo he3271 he3273 (by decide)) nm_n)).trans he3271
  have he3290 : F3283 q2985 = .inl (I (.object "java/lang/Object"), n2992, .inr (.inr (.inr (.inr f3245)))) := (hfr3285 q2985 hm3113 (nm_c (fun h => hq3115 (h ▸ hmq2985)) nm_n)).trans he3272
  have he3291 : F3283 q3099 = .inr (20, [.int 0, .int 0, .int 0, .int 0, .int 0, .int 0, .int 0]) := (hfr3285 q3099 hm3109 (nm_c (rn_oo he3274 he3273 (by decide)) nm_n)).trans he3274
  have hfr3292 : rFr [q2983, q2984, q2985] P2981 F2982 F3283 := rFr_call hsb3117 hfr3276 hfr3285 (fun b hb hn => ⟨(nm_c (fun e => hn (e ▸ List.mem_cons_self)) (nm_c (fun e => hn (e ▸ (List.mem_cons_of_mem _ List.mem_cons_self))) (nm_c (fun e => hn (e ▸ (List.mem_cons_of_mem _ (List.mem_cons_of_mem _ List.mem_cons_self)))) nm_n))), (nm_c (fun e => hq3115 (e ▸ hb)) nm_n)⟩)
  have bo3282 := gB_any o3282
  change G _ _ _ _ _ _ _ _ _ _ _
  refine G_widen (cs' := 3) (sl' := 14) (by omega) (by omega) ?_
  refine G_aload_n 0 dr_cX13_block_61 rfl ?_
  exact G_aretA (FieldType.object "SpillForgeModel$Block") dr_cX13_block_62 rfl (by first | exact Or.inl ⟨_, rfl⟩ | exact Or.inr ⟨_, rfl⟩) (Or.inr ⟨_, rfl⟩) (Nat.le_of_ble_eq_true rfl) (Nat.le_of_ble_eq_true rfl) ⟨P3100, F3283, z3266, q3006, o3243, o3244, q3098, o3282, q3099, f3245, rfl, rfl, hsb3117, hfr3292, he3287, he3288, he3289, he3290, he3291, he3286, hm3114, hq3021, hm3107, hq3115, hm3109, hq3116, (Nat.le_of_ble_eq_true rfl), (Nat.le_of_ble_eq_true rfl), bz3266, bo3244, (by have qa0 : Int32.toInt 0 = 0 := (by decide); omega), (by have qa0 : Int32.toInt 0 = 0 := (by decide); omega), (by assumption), (by assumption)⟩
