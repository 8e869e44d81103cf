theorem dr_cX17_run__0 : decode cX17_run_ 0 = .ok (.aload_n 0, 1) := by decide +kernel
theorem dr_cX17_run__1 : decode cX17_run_ 1 = .ok (.iconst 0, 1) := by decide +kernel
theorem dr_cX17_run__2 : decode cX17_run_ 2 = .ok (.putfield 380, 3) := by decide +kernel
theorem dr_cX17_run__5 : decode cX17_run_ 5 = .ok (.iload_n 2, 1) := by decide +kernel
theorem dr_cX17_run__6 : decode cX17_run_ 6 = .ok (.iconst 1, 1) := by decide +kernel
theorem dr_cX17_run__7 : decode cX17_run_ 7 = .ok (.if_icmp .lt 10, 3) := by decide +kernel
theorem dr_cX17_run__17 : decode cX17_run_ 17 = .ok (.aload_n 0, 1) := by decide +kernel
theorem dr_cX17_run__18 : decode cX17_run_ 18 = .ok (.iconst 1, 1) := by decide +kernel
theorem dr_cX17_run__19 : decode cX17_run_ 19 = .ok (.invokevirtual 385, 3) := by decide +kernel
theorem dr_cX17_run__22 : decode cX17_run_ 22 = .ok (.ireturn, 1) := by decide +kernel
theorem dr_cX17_run__10 : decode cX17_run_ 10 = .ok (.iload_n 2, 1) := by decide +kernel
theorem dr_cX17_run__11 : decode cX17_run_ 11 = .ok (.ldc_w 434, 3) := by decide +kernel
theorem wr_11_91 : (Jvm.Cond.constant "SpillForgeModel" (434 : Nat) (100000 : Int32)) ∈ gw := gw_11 91 rfl rfl
theorem dr_cX17_run__14 : decode cX17_run_ 14 = .ok (.if_icmp .le 9, 3) := by decide +kernel
theorem dr_cX17_run__23 : decode cX17_run_ 23 = .ok (.iload_n 1, 1) := by decide +kernel
theorem dr_cX17_run__24 : decode cX17_run_ 24 = .ok (.ifCond .eq 13, 3) := by decide +kernel
theorem dr_cX17_run__37 : decode cX17_run_ 37 = .ok (.aload_n 0, 1) := by decide +kernel
theorem dr_cX17_run__38 : decode cX17_run_ 38 = .ok (.getfield 414, 3) := by decide +kernel
theorem wr_7_83 : (Jvm.Cond.fieldLink "SpillForgeModel" (414 : Nat) "SpillForgeModel" "program" "Z") ∈ gw := gw_7 83 rfl rfl
theorem dr_cX17_run__41 : decode cX17_run_ 41 = .ok (.ifCond .ne 9, 3) := by decide +kernel
theorem dr_cX17_run__50 : decode cX17_run_ 50 = .ok (.aload_n 0, 1) := by decide +kernel
theorem dr_cX17_run__51 : decode cX17_run_ 51 = .ok (.aload_n 0, 1) := by decide +kernel
theorem dr_cX17_run__52 : decode cX17_run_ 52 = .ok (.iload_n 1, 1) := by decide +kernel
theorem dr_cX17_run__53 : decode cX17_run_ 53 = .ok (.ifCond .eq 10, 3) := by decide +kernel
theorem dr_cX17_run__63 : decode cX17_run_ 63 = .ok (.aload_n 0, 1) := by decide +kernel
theorem dr_cX17_run__64 : decode cX17_run_ 64 = .ok (.getfield 361, 3) := by decide +kernel
theorem wr_7_80 : (Jvm.Cond.fieldLink "SpillForgeModel" (361 : Nat) "SpillForgeModel" "code" "LSpillForgeModel$Code;") ∈ gw := gw_7 80 rfl rfl
theorem dr_cX17_run__67 : decode cX17_run_ 67 = .ok (.iload_n 2, 1) := by decide +kernel
theorem dr_cX17_run__68 : decode cX17_run_ 68 = .ok (.invokevirtual 435, 3) := by decide +kernel
theorem wr_11_92 : (Jvm.Cond.methodLink "SpillForgeModel" (435 : Nat) ({ cls := "SpillForgeModel", name := "run", desc := "(LSpillForgeModel$Code;I)I" } : Jvm.MethodName)) ∈ gw := gw_11 92 rfl rfl
theorem wr_11_95 : (Jvm.Cond.code ({ cls := "SpillForgeModel", name := "run", desc := "(LSpillForgeModel$Code;I)I" } : Jvm.MethodName) prog_14_method_29_code (7 : Nat) (Option.some Jvm.ClassFile.FieldType.int)) ∈ gw := gw_11 95 rfl rfl
theorem wr_11_94 : (Jvm.Cond.instanceMethod ({ cls := "SpillForgeModel", name := "run", desc := "(LSpillForgeModel$Code;I)I" } : Jvm.MethodName)) ∈ gw := gw_11 94 rfl rfl
theorem wr_p_113 : Cond.selects "SpillForgeModel" ⟨"SpillForgeModel", "run", "(LSpillForgeModel$Code;I)I"⟩ ⟨"SpillForgeModel", "run", "(LSpillForgeModel$Code;I)I"⟩ ∈ gw := gw_p _ 113 rfl rfl rfl
theorem dr_cX17_run__71 : decode cX17_run_ 71 = .ok (.putfield 371, 3) := by decide +kernel
theorem dr_cX17_run__74 : decode cX17_run_ 74 = .ok (.aload_n 0, 1) := by decide +kernel
theorem dr_cX17_run__75 : decode cX17_run_ 75 = .ok (.getfield 371, 3) := by decide +kernel
theorem dr_cX17_run__78 : decode cX17_run_ 78 = .ok (.ireturn, 1) := by decide +kernel
theorem dr_cX17_run__44 : decode cX17_run_ 44 = .ok (.aload_n 0, 1) := by decide +kernel
theorem dr_cX17_run__45 : decode cX17_run_ 45 = .ok (.iconst 2, 1) := by decide +kernel
theorem dr_cX17_run__46 : decode cX17_run_ 46 = .ok (.invokevirtual 385, 3) := by decide +kernel
theorem dr_cX17_run__49 : decode cX17_run_ 49 = .ok (.ireturn, 1) := by decide +kernel
theorem dr_cX17_run__27 : decode cX17_run_ 27 = .ok (.aload_n 0, 1) := by decide +kernel
theorem dr_cX17_run__28 : decode cX17_run_ 28 = .ok (.getfield 416, 3) := by decide +kernel
theorem wr_7_84 : (Jvm.Cond.fieldLink "SpillForgeModel" (416 : Nat) "SpillForgeModel" "isGiven" "Z") ∈ gw := gw_7 84 rfl rfl
theorem dr_cX17_run__31 : decode cX17_run_ 31 = .ok (.ifCond .ne 19, 3) := by decide +kernel
theorem dr_cX17_run__56 : decode cX17_run_ 56 = .ok (.aload_n 0, 1) := by decide +kernel
theorem dr_cX17_run__57 : decode cX17_run_ 57 = .ok (.getfield 365, 3) := by decide +kernel
theorem wr_7_81 : (Jvm.Cond.fieldLink "SpillForgeModel" (365 : Nat) "SpillForgeModel" "given" "LSpillForgeModel$Code;") ∈ gw := gw_7 81 rfl rfl
theorem dr_cX17_run__60 : decode cX17_run_ 60 = .ok (.goto 7, 3) := by decide +kernel
theorem dr_cX17_run__34 : decode cX17_run_ 34 = .ok (.goto 10, 3) := by decide +kernel
abbrev ky_580388_SpillForgeModel_run : gKey := (cX17_run, 7, "SpillForgeModel", (some FieldType.int), [], "run", fun _ _ => True)
def pt_580388_SpillForgeModel_run (D : va_G) (I : FieldType → ClassId) (γ el : Nat → Nat → Nat) (P580382 : List Nat) (F580383 : Nat → va_E) (q580384 : Nat) (q580385 : Nat) (p580386 : Int32) : Option Value → va_W → Nat → Nat → Prop := fun r w dc ds => ∃ (F585620 : Nat → va_E) (o585619 : Int32), r = some (.int o585619) ∧ w = va_pl P580382 F585620 ∧ RS D I P580382 F585620 γ el ∧ rStr γ [] F580383 F585620 ∧ dc ≤ 0 ∧ ds ≤ 0 ∧ gB o585619 0 5 ∧ (fI (F585620 q580384) 9).toInt = (fI (F580383 q580384) 9).toInt ∧ (fI (F585620 q580384) 10).toInt = (fI (F580383 q580384) 10).toInt ∧ (fI (F585620 q580384) 32).toInt = (fI (F580383 q580384) 32).toInt
set_option maxRecDepth 100000 in
set_option maxHeartbeats 4000000 in
theorem ct_580388_SpillForgeModel_run (l : Launch) (hl0 : l.stackTraces = false) (D : va_G) (I : FieldType → ClassId) (γ el : Nat → Nat → Nat) (P580382 : List Nat) (F580383 : Nat → va_E) (q580384 : Nat) (q580385 : Nat) (p580386 : Int32) (hT : RS D I P580382 F580383 γ el) (htq580384 : rKd γ q580384 10) (htq580385 : rKd γ q580385 9) (bp580386 : gB p580386 1 100000) (x580387 : 0 < γ 6 (γ 1 q580385)) : CtA (gV D I) l yX17_run cX17_run 7 (some FieldType.int) 4 85 0 0 [.ref q580384, .ref q580385, .int p580386] (va_pl P580382 F580383) (pt_580388_SpillForgeModel_run D I γ el P580382 F580383 q580384 q580385 p580386) gNA := by
  refine CtA_of hl0 (by decide) (Nat.le_of_ble_eq_true rfl) ?_
  have hm580389 : q580384 ∈ P580382 := RS_m hT htq580384 (by decide)
  refine rk10_e (show rk_10 γ (F580383 q580384) from RS_o hT htq580384) (fun q580391 q580392 p580393 p580394 p580395 p580396 p580397 p580398 p580399 p580400 p580401 p580402 p580403 p580404 p580405 p580406 p580407 he580390 hB580434 ht580408 ht580409 ht580410 ht580411 ht580412 ht580413 ht580414 ht580415 ht580416 ht580417 ht580418 ht580419 ht580420 ht580421 ht580422 ht580423 ht580424 ht580425 ht580426 ht580427 ht580428 ht580429 ht580430 ht580431 hB580435 => ?_)
  have ac580436 : (fI (F580383 q580384) 26).toInt = p580402.toInt := by rw [he580390]; rfl
  have bp580402 : gB p580402 0 100000 := (hB580434.2.2.2.2.2.1)
  have ac580437 : (fI (F580383 q580384) 9).toInt = p580393.toInt := by rw [he580390]; rfl
  have bp580393 : gB p580393 0 1 := (hB580434.1)
  have ac580438 : (fI (F580383 q580384) 10).toInt = p580394.toInt := by rw [he580390]; rfl
  have bp580394 : gB p580394 0 1 := (hB580434.2.1)
  have ac580439 : (fI (F580383 q580384) 32).toInt = p580405.toInt := by rw [he580390]; rfl
  have bp580405 : gB p580405 0 8192 := (hB580434.2.2.2.2.2.2.2.1)
  refine G_iconst 0 dr_cX17_run_0 (by decide +kernel) ?_
  refine G_istore_n (L' := [(3, .int 0), (0, .ref q580384), (1, .ref q580385), (2, .int p580386)]) dr_cX17_run_1 (Nat.le_of_ble_eq_true rfl) rfl ?_
  have hlp2_584738 : ∀ (n2_584738 : Nat) (F584733 : Nat → va_E) (g584732 : Int32), gB g584732 0 2000 → RS D I P580382 F584733 γ el → rStr γ [] F580383 F584733 → (fI (F584733 q580384) 9).toInt = (fI (F580383 q580384) 9).toInt → (fI (F584733 q580384) 10).toInt = (fI (F580383 q580384) 10).toInt → (fI (F584733 q580384) 32).toInt = (fI (F580383 q580384) 32).toInt → ((2001 : Int) - g584732.toInt).toNat < n2_584738 → G (gV D I) l (gRm 4 85 0 0) (gMA (gV D I) (pt_580388_SpillForgeModel_run D I γ el P580382 F580383 q580384 q580385 p580386) gNA 0 0) ky_580388_SpillForgeModel_run 2 [(3, .int g584732), (0, .ref q580384), (1, .ref q580385), (2, .int p580386)] [] (va_pl P580382 F584733) 0 0 := by
    intro n2_584738
    induction n2_584738 with
    | zero => intro F584733 g584732 bg584732 hT584734 hs584735 x584736 x584737 x584738 hm2_584738; exact absurd hm2_584738 (Nat.not_lt_zero _)
    | succ n2_584738 ih2_584738 =>
      intro F584733 g584732 bg584732 hT584734 hs584735 x584736 x584737 x584738 hm2_584738
      have hs584740 : rStr γ [] F580383 F584733 := fun b h0 hb hw => (hs584735 b h0 hb hw).trans ((rStr_rf (γ := γ) (W := []) (F := F580383)) b h0 hb hw).symm
      have hs584741 : rStr γ [] F580383 F584733 := rStr_tr (rStr_rf (γ := γ) (W := []) (F := F580383)) hs584740
      have hm584742 : q580384 ∈ P580382 := RS_m hT584734 htq580384 (by decide)
      refine rk10_e (show rk_10 γ (F584733 q580384) from RS_o hT584734 htq580384) (fun q584744 q584745 p584746 p584747 p584748 p584749 p584750 p584751 p584752 p584753 p584754 p584755 p584756 p584757 p584758 p584759 p584760 he584743 hB584787 ht584761 ht584762 ht584763 ht584764 ht584765 ht584766 ht584767 ht584768 ht584769 ht584770 ht584771 ht584772 ht584773 ht584774 ht584775 ht584776 ht584777 ht584778 ht584779 ht584780 ht584781 ht584782 ht584783 ht584784 hB584788 => ?_)
      have ac584789 : (fI (F584733 q580384) 26).toInt = p584755.toInt := by rw [he584743]; rfl
      have bp584755 : gB p584755 0 100000 := (hB584787.2.2.2.2.2.1)
      have ac584790 : (fI (F584733 q580384) 9).toInt = p584746.toInt := by rw [he584743]; rfl
      have bp584746 : gB p584746 0 1 := (hB584787.1)
      have ac584791 : (fI (F584733 q580384) 10).toInt = p584747.toInt := by rw [he584743]; rfl
      have bp584747 : gB p584747 0 1 := (hB584787.2.1)
      have ac584792 : (fI (F584733 q580384) 32).toInt = p584758.toInt := by rw [he584743]; rfl
      have bp584758 : gB p584758 0 8192 := (hB584787.2.2.2.2.2.2.2.1)
      have ac584793 : (fI (F584733 q580384) 26).toInt = p584755.toInt := by rw [he584743]; rfl
      have ac584794 : (fI (F584733 q580384) 9).toInt = p584746.toInt := by rw [he584743]; rfl
      have ac584795 : (fI (F584733 q580384) 10).toInt = p584747.toInt := by rw [he584743]; rfl
      have ac584796 : (fI (F584733 q580384) 32).toInt = p584758.toInt := by rw [he584743]; rfl
      refine G_iload_n 0 dr_cX17_run_2 rfl ?_
      refine G_sipush 2000 dr_cX17_run_3 (by decide +kernel) ?_
      refine G_icmp_ge 29 dr_cX17_run_6 (by decide +kernel) (fun hc584797 => ?_) (fun hc584797 => ?_)
      · have r584798 : 2000 ≤ g584732.toInt := gj_leL hc584797 (show Int32.toInt 2000 = 2000 by decide)
        have bg584732' : gB g584732 2000 2000 := ⟨by omega, by omega⟩
        refine G_aload_n 1 dr_cX17_run_29 rfl ?_
        refine G_iconst 0 dr_cX17_run_30 (by decide +kernel) ?_
        refine Gp_put 24 hm584742 he584743 dr_cX17_run_31 (gk_X17 D I) (Nat.le_of_ble_eq_true rfl) wr_7_98 rfl rfl rfl (Nat.le_of_ble_eq_true rfl) (fun F584799 e584800 n584801 => ?_)
        have he584802 : F584799 q580384 = .inr (22, [.ref (γ 9 0), .ref (γ 9 1), .ref (γ 9 2), .ref (γ 9 3), .ref (γ 9 4), .ref (γ 9 5), .ref (γ 9 6), .ref (γ 9 7), .ref (γ 9 8), .int p584746, .int p584747, .int p584748, .int p584749, .int p584750, .int p584751, .ref (γ 9 15), .ref (γ 9 16), .ref (γ 9 17), .ref (γ 9 18), .ref (γ 9 19), .ref (γ 9 20), .ref (γ 9 21), .ref (γ 9 22), .int p584752, .int 0, .int p584754, .int p584755, .int p584756, .ref q584744, .ref (γ 9 29), .int p584757, .ref (γ 9 31), .int p584758, .int p584759, .int p584760, .ref q584745]) := e584800
        have hs584803 : rStr γ [] F580383 F584799 := rStr_put hs584735 n584801 htq580384 (by decide)
        refine G_aload_n 1 dr_cX17_run_34 rfl ?_
        refine G_iconst 0 dr_cX17_run_35 (by decide +kernel) ?_
        refine Gp_put 25 hm584742 he584802 dr_cX17_run_36 (gk_X17 D I) (Nat.le_of_ble_eq_true rfl) wr_7_99 rfl rfl rfl (Nat.le_of_ble_eq_true rfl) (fun F584804 e584805 n584806 => ?_)
        have he584807 : F584804 q580384 = .inr (22, [.ref (γ 9 0), .ref (γ 9 1), .ref (γ 9 2), .ref (γ 9 3), .ref (γ 9 4), .ref (γ 9 5), .ref (γ 9 6), .ref (γ 9 7), .ref (γ 9 8), .int p584746, .int p584747, .int p584748, .int p584749, .int p584750, .int p584751, .ref (γ 9 15), .ref (γ 9 16), .ref (γ 9 17), .ref (γ 9 18), .ref (γ 9 19), .ref (γ 9 20), .ref (γ 9 21), .ref (γ 9 22), .int p584752, .int 0, .int 0, .int p584755, .int p584756, .ref q584744, .ref (γ 9 29), .int p584757, .ref (γ 9 31), .int p584758, .int p584759, .int p584760, .ref q584745]) := e584805
        have hs584808 : rStr γ [] F580383 F584804 := rStr_put hs584803 n584806 htq580384 (by decide)
        have n584809 : ∀ b, b ≠ q580384 → F584804 b = F584733 b := fun b hb => (n584806 b hb).trans (n584801 b hb)
        refine G_aload_n 1 dr_cX17_run_39 rfl ?_
        refine G_iconst 0 dr_cX17_run_40 (by decide +kernel) ?_
        refine Gp_put 26 hm584742 he584807 dr_cX17_run_41 (gk_X17 D I) (Nat.le_of_ble_eq_true rfl) wr_7_100 rfl rfl rfl (Nat.le_of_ble_eq_true rfl) (fun F584810 e584811 n584812 => ?_)
        have he584813 : F584810 q580384 = .inr (22, [.ref (γ 9 0), .ref (γ 9 1), .ref (γ 9 2), .ref (γ 9 3), .ref (γ 9 4), .ref (γ 9 5), .ref (γ 9 6), .ref (γ 9 7), .ref (γ 9 8), .int p584746, .int p584747, .int p584748, .int p584749, .int p584750, .int p584751, .ref (γ 9 15), .ref (γ 9 16), .ref (γ 9 17), .ref (γ 9 18), .ref (γ 9 19), .ref (γ 9 20), .ref (γ 9 21), .ref (γ 9 22), .int p584752, .int 0, .int 0, .int 0, .int p584756, .ref q584744, .ref (γ 9 29), .int p584757, .ref (γ 9 31), .int p584758, .int p584759, .int p584760, .ref q584745]) := e584811
        have hs584814 : rStr γ [] F580383 F584810 := rStr_put hs584808 n584812 htq580384 (by decide)
        have n584815 : ∀ b, b ≠ q580384 → F584810 b = F584733 b := fun b hb => (n584812 b hb).trans (n584809 b hb)
        refine G_aload_n 1 dr_cX17_run_44 rfl ?_
        refine G_iconst 0 dr_cX17_run_45 (by decide +kernel) ?_
        refine Gp_put 27 hm584742 he584813 dr_cX17_run_46 (gk_X17 D I) (Nat.le_of_ble_eq_true rfl) wr_7_101 rfl rfl rfl (Nat.le_of_ble_eq_true rfl) (fun F584816 e584817 n584818 => ?_)
        have he584819 : F584816 q580384 = .inr (22, [.ref (γ 9 0), .ref (γ 9 1), .ref (γ 9 2), .ref (γ 9 3), .ref (γ 9 4), .ref (γ 9 5), .ref (γ 9 6), .ref (γ 9 7), .ref (γ 9 8), .int p584746, .int p584747, .int p584748, .int p584749, .int p584750, .int p584751, .ref (γ 9 15), .ref (γ 9 16), .ref (γ 9 17), .ref (γ 9 18), .ref (γ 9 19), .ref (γ 9 20), .ref (γ 9 21), .ref (γ 9 22), .int p584752, .int 0, .int 0, .int 0, .int 0, .ref q584744, .ref (γ 9 29), .int p584757, .ref (γ 9 31), .int p584758, .int p584759, .int p584760, .ref q584745]) := e584817
        have hs584820 : rStr γ [] F580383 F584816 := rStr_put hs584814 n584818 htq580384 (by decide)
        have n584821 : ∀ b, b ≠ q580384 → F584816 b = F584733 b := fun b hb => (n584818 b hb).trans (n584815 b hb)
        refine G_iconst 0 dr_cX17_run_49 (by decide +kernel) ?_
        refine G_istore_n (L' := [(3, .int 0), (0, .ref q580384), (1, .ref q580385), (2, .int p580386)]) dr_cX17_run_50 (Nat.le_of_ble_eq_true rfl) rfl ?_
        refine G_iconst 0 dr_cX17_run_51 (by decide +kernel) ?_
        refine G_istore (L' := [(4, .int 0), (3, .int 0), (0, .ref q580384), (1, .ref q580385), (2, .int p580386)]) dr_cX17_run_52 (Nat.le_of_ble_eq_true rfl) rfl ?_
        have hT584822 : RS D I P580382 F584816 γ el := RS_set hT584734 n584821 htq580384 (by decide) ⟨q584744, q584745, p584746, p584747, p584748, p584749, p584750, p584751, p584752, 0, 0, 0, 0, p584757, p584758, p584759, p584760, he584819, ⟨bp584746, bp584747, (hB584787.2.2.1), (hB584787.2.2.2.1), (gB_w (gBl (show Int32.toInt 0 = 0 by decide)) (by decide) (by decide)), (gB_w (gBl (show Int32.toInt 0 = 0 by decide)) (by decide) (by decide)), (gB_w (gBl (show Int32.toInt 0 = 0 by decide)) (by decide) (by decide)), bp584758, (hB584787.2.2.2.2.2.2.2.2)⟩, ht584761, ht584762, ht584763, ht584764, ht584765, ht584766, ht584767, ht584768, ht584769, ht584770, ht584771, ht584772, ht584773, ht584774, ht584775, ht584776, ht584777, ht584778, ht584779, ht584780, ht584781, ht584782, ht584783, ht584784, hB584788⟩
        have hlp54_585175 : ∀ (n54_585175 : Nat) (F585168 : Nat → va_E) (g585166 : Int32) (g585167 : Int32), gB g585166 0 39 → gB g585167 0 1000000 → RS D I P580382 F585168 γ el → rStr γ [] F580383 F585168 → g585166.toInt < γ 6 (γ 1 q580385) → (fI (F585168 q580384) 26).toInt ≤ p580386.toInt → (fI (F585168 q580384) 9).toInt = (fI (F580383 q580384) 9).toInt → (fI (F585168 q580384) 10).toInt = (fI (F580383 q580384) 10).toInt → (fI (F585168 q580384) 32).toInt = (fI (F580383 q580384) 32).toInt → (p580386.toInt - (fI (F585168 q580384) 26).toInt).toNat < n54_585175 → G (gV D I) l (gRm 4 85 0 0) (gMA (gV D I) (pt_580388_SpillForgeModel_run D I γ el P580382 F580383 q580384 q580385 p580386) gNA 0 0) ky_580388_SpillForgeModel_run 54 [(4, .int g585167), (3, .int g585166), (0, .ref q580384), (1, .ref q580385), (2, .int p580386)] [] (va_pl P580382 F585168) 0 0 := by
          intro n54_585175
          induction n54_585175 with
          | zero => intro F585168 g585166 g585167 bg585166 bg585167 hT585169 hs585170 x585171 x585172 x585173 x585174 x585175 hm54_585175; exact absurd hm54_585175 (Nat.not_lt_zero _)
          | succ n54_585175 ih54_585175 =>
            intro F585168 g585166 g585167 bg585166 bg585167 hT585169 hs585170 x585171 x585172 x585173 x585174 x585175 hm54_585175
            have hs585177 : rStr γ [] F584816 F585168 := fun b h0 hb hw => (hs585170 b h0 hb hw).trans (hs584820 b h0 hb hw).symm
            have hs585178 : rStr γ [] F580383 F585168 := rStr_tr hs584820 hs585177
            have hm585179 : q580384 ∈ P580382 := RS_m hT585169 htq580384 (by decide)
            refine rk10_e (show rk_10 γ (F585168 q580384) from RS_o hT585169 htq580384) (fun q585181 q585182 p585183 p585184 p585185 p585186 p585187 p585188 p585189 p585190 p585191 p585192 p585193 p585194 p585195 p585196 p585197 he585180 hB585224 ht585198 ht585199 ht585200 ht585201 ht585202 ht585203 ht585204 ht585205 ht585206 ht585207 ht585208 ht585209 ht585210 ht585211 ht585212 ht585213 ht585214 ht585215 ht585216 ht585217 ht585218 ht585219 ht585220 ht585221 hB585225 => ?_)
            have ac585226 : (fI (F585168 q580384) 26).toInt = p585192.toInt := by rw [he585180]; rfl
            have bp585192 : gB p585192 0 100000 := (hB585224.2.2.2.2.2.1)
            have ac585227 : (fI (F585168 q580384) 9).toInt = p585183.toInt := by rw [he585180]; rfl
            have bp585183 : gB p585183 0 1 := (hB585224.1)
            have ac585228 : (fI (F585168 q580384) 10).toInt = p585184.toInt := by rw [he585180]; rfl
            have bp585184 : gB p585184 0 1 := (hB585224.2.1)
            have ac585229 : (fI (F585168 q580384) 32).toInt = p585195.toInt := by rw [he585180]; rfl
            have bp585195 : gB p585195 0 8192 := (hB585224.2.2.2.2.2.2.2.1)
            have ac585230 : (fI (F585168 q580384) 26).toInt = p585192.toInt := by rw [he585180]; rfl
            have ac585231 : (fI (F585168 q580384) 9).toInt = p585183.toInt := by rw [he585180]; rfl
            have ac585232 : (fI (F585168 q580384) 10).toInt = p585184.toInt := by rw [he585180]; rfl
            have ac585233 : (fI (F585168 q580384) 32).toInt = p585195.toInt := by rw [he585180]; rfl
            refine G_aload_n 3 dr_cX17_run_54 rfl ?_
            refine G_iload_n 1 dr_cX17_run_55 rfl ?_
            have hm585234 : q580385 ∈ P580382 := RS_m hT585169 htq580385 (by decide)
            obtain ⟨q585236, q585237, p585238, p585239, he585235, ht585255, ht585240, ht585241, ht585242, ht585243, r585244, r585245, r585246, r585247, r585248, r585249, r585250, r585251, r585252, r585253, r585254⟩ := show rk_9 γ el q580385 (F585168 q580385) from RS_o hT585169 htq580385
            have bp585238 : gB p585238 0 1000000 := ⟨by omega, by omega⟩
            have bp585239 : gB p585239 0 1000000 := ⟨by omega, by omega⟩
            have hm585256 : q585236 ∈ P580382 := RS_m hT585169 ht585240 (by decide)
            obtain ⟨⟨p585258, p585259, q585260, he585257, r585261, r585262, r585263, r585265⟩, r585264⟩ := show rk_4 D I γ el F585168 q585236 from RS_o hT585169 ht585240
            have bp585258 := gB_any p585258
            have bp585259 : gB p585259 0 1000000 := ⟨by omega, by omega⟩
            obtain ⟨r585266, r585267, n585274, f585275, r585268, r585269, r585270, r585271, r585272, r585273⟩ := rLC_n r585263 (by omega)
            have hm585276 : q585260 ∈ P580382 := RS_m hT585169 r585266 (by decide)
            obtain ⟨q585277, hx585278⟩ : ∃ x, x = el q585236 g585166.toInt.toNat := ⟨_, rfl⟩
            have hx585279 : f585275 g585166.toNatClampNeg = some q585277 := (r585272 _ (show g585166.toInt.toNat < γ 2 q585236 by omega)).trans (by rw [hx585278])
            have ht585282 : rKd γ q585277 2 := by rw [hx585278]; exact (r585251 _ (by omega)).resolve_right (fun z => absurd z.1 (by omega))
            have ht585283 : rFm γ q585277 q585236 := by rw [hx585278]; exact (r585264 _ (show g585166.toInt.toNat < γ 2 q585236 by omega)).2.1
            have hm585284 : q585277 ∈ P580382 := RS_m hT585169 ht585282 (by decide)
            obtain ⟨q585286, q585287, p585288, p585289, he585285, ht585296, ht585290, ht585291, ht585292, ht585293, ht585294, bp585288, bp585289, r585295, r585297, r585298⟩ := show rk_2 γ q585277 (F585168 q585277) from RS_o hT585169 ht585282
            have fm585299 : γ 6 (γ 1 q585277) = γ 6 (γ 1 q580385) := by rw [show γ 1 q585277 = γ 1 q585236 from ht585283, show γ 1 q585236 = γ 1 q580385 from ht585241]
            refine Gw_callV (As := [.int g585166]) (gV_ok D I) (cp_7901_Code_get l hl0 D I P580382 F585168 q580385 q585236 q585260 g585166 q585237 p585238 p585239 p585258 p585259 f585275 n585274 q585277 q585286 q585287 p585288 p585289 hm585234 hm585256 hm585276 hm585284 he585235 he585257 r585268 he585285 (gB_w bg585166 (by decide) (by decide)) (gB_w bp585259 (by decide) (by decide)) (by omega) (by omega) (by assumption) (by omega)) dr_cX17_run_56 ⟨wr_10_161, wr_1_15, wr_10_141, by decide, rfl, (Nat.le_of_ble_eq_true rfl), (Nat.le_of_ble_eq_true rfl)⟩ wr_10_139 wr_10_140 hm585234 he585235 rfl (show 0 + 0 ≤ 0 by first | omega | decide) (show 0 + 0 ≤ 0 by first | omega | decide) (Nat.le_of_ble_eq_true rfl) (fun r585303 w585304 dc585300 ds585301 hp585302 => ?_) (fun _ _ _ _ _ z => z.elim)
            obtain ⟨rfl, rfl, hdc, hds, ht585305⟩ := hp585302
            change G _ _ _ _ _ _ _ (.ref q585277 :: _) _ _ _
            refine G_widen (cs' := 0) (sl' := 0) (by omega) (by omega) ?_
            refine G_astore (L' := [(5, .ref q585277), (4, .int g585167), (3, .int g585166), (0, .ref q580384), (1, .ref q580385), (2, .int p580386)]) dr_cX17_run_59 (Nat.le_of_ble_eq_true rfl) rfl ?_
            refine G_aload_n 3 dr_cX17_run_61 rfl ?_
            refine Gp_get 26 hm585179 he585180 dr_cX17_run_62 (gk_X17 D I) (Nat.le_of_ble_eq_true rfl) wr_7_100 rfl ?_
            refine G_iload_n 5 dr_cX17_run_65 rfl ?_
            refine G_icmp_ne 71 dr_cX17_run_66 (by decide +kernel) (fun hc585306 => ?_) (fun hc585306 => ?_)
            · have r585307 : p585192.toInt ≠ p580386.toInt := gC_ne hc585306
              refine G_aload_n 3 dr_cX17_run_71 rfl ?_
              refine G_dup dr_cX17_run_72 rfl ?_
              refine Gp_get 26 hm585179 he585180 dr_cX17_run_73 (gk_X17 D I) (Nat.le_of_ble_eq_true rfl) wr_7_100 rfl ?_
              refine G_iconst 1 dr_cX17_run_76 (by decide +kernel) ?_
              refine G_iadd dr_cX17_run_77 (G_nam fun z585308 hz585308 => ?_)
              have ez585308 : z585308.toInt = p585192.toInt + 1 := by rw [gI_add hz585308 bp585192 (gBl (show Int32.toInt 1 = 1 by decide)) (by decide) (by decide), show Int32.toInt 1 = 1 from by decide]
              have bz585308 : gB z585308 1 100001 := gB_add (gI_add hz585308 bp585192 (gBl (show Int32.toInt 1 = 1 by decide)) (by decide) (by decide)) bp585192 (gBl (show Int32.toInt 1 = 1 by decide)) (by decide) (by decide)
              refine Gp_put 26 hm585179 he585180 dr_cX17_run_78 (gk_X17 D I) (Nat.le_of_ble_eq_true rfl) wr_7_100 rfl rfl rfl (Nat.le_of_ble_eq_true rfl) (fun F585309 e585310 n585311 => ?_)
              have he585312 : F585309 q580385 = .inr (18, [.ref q585236, .ref q585237, .int p585238, .int p585239]) := (n585311 q580385 (rn_oo he585235 he585180 (by decide))).trans he585235
              have he585313 : F585309 q585236 = .inr (4, [.int p585258, .ref q585260, .int p585259]) := (n585311 q585236 (rn_oo he585257 he585180 (by decide))).trans he585257
              have he585314 : F585309 q585260 = .inl (I (.object "java/lang/Object"), n585274, .inr (.inr (.inr (.inr f585275)))) := (n585311 q585260 (rn_ao r585268 he585180)).trans r585268
              have he585315 : F585309 q585277 = .inr (17, [.ref q585286, .ref q585287, .int p585288, .int p585289]) := (n585311 q585277 (rn_oo he585285 he585180 (by decide))).trans he585285
              have he585316 : F585309 q580384 = .inr (22, [.ref (γ 9 0), .ref (γ 9 1), .ref (γ 9 2), .ref (γ 9 3), .ref (γ 9 4), .ref (γ 9 5), .ref (γ 9 6), .ref (γ 9 7), .ref (γ 9 8), .int p585183, .int p585184, .int p585185, .int p585186, .int p585187, .int p585188, .ref (γ 9 15), .ref (γ 9 16), .ref (γ 9 17), .ref (γ 9 18), .ref (γ 9 19), .ref (γ 9 20), .ref (γ 9 21), .ref (γ 9 22), .int p585189, .int p585190, .int p585191, .int z585308, .int p585193, .ref q585181, .ref (γ 9 29), .int p585194, .ref (γ 9 31), .int p585195, .int p585196, .int p585197, .ref q585182]) := e585310
              have hs585317 : rStr γ [] F580383 F585309 := rStr_put hs585170 n585311 htq580384 (by decide)
              refine G_iload 1 dr_cX17_run_81 rfl ?_
              refine G_aload 0 dr_cX17_run_83 rfl ?_
              refine Gp_get 0 hm585284 he585315 dr_cX17_run_85 (gk_X12 D I) (Nat.le_of_ble_eq_true rfl) wr_9_220 rfl ?_
              have hT585318 : RS D I P580382 F585309 γ el := RS_set hT585169 n585311 htq580384 (by decide) ⟨q585181, q585182, p585183, p585184, p585185, p585186, p585187, p585188, p585189, p585190, p585191, z585308, p585193, p585194, p585195, p585196, p585197, he585316, ⟨bp585183, bp585184, (hB585224.2.2.1), (hB585224.2.2.2.1), (hB585224.2.2.2.2.1), ⟨by omega, by omega⟩, (hB585224.2.2.2.2.2.2.1), bp585195, (hB585224.2.2.2.2.2.2.2.2)⟩, ht585198, ht585199, ht585200, ht585201, ht585202, ht585203, ht585204, ht585205, ht585206, ht585207, ht585208, ht585209, ht585210, ht585211, ht585212, ht585213, ht585214, ht585215, ht585216, ht585217, ht585218, ht585219, ht585220, ht585221, hB585225⟩
              have hm585319 : q585286 ∈ P580382 := RS_m hT585318 ht585290 (by decide)
              obtain ⟨⟨p585321, p585322, q585323, he585320, r585324, r585325, r585326, r585328⟩, r585327⟩ := show rk_3 D I γ el F585309 q585286 from RS_o hT585318 ht585290
              have bp585321 := gB_any p585321
              have bp585322 : gB p585322 0 1000000 := ⟨by omega, by omega⟩
              refine Gw_callV (As := []) (gV_ok D I) (cp_7_ArrayList_size l hl0 D I P580382 F585309 q585286 p585321 q585323 p585322 hm585319 he585320 (gB_w bp585322 (by decide) (by decide))) dr_cX17_run_88 ⟨wr_10_200, wr_1_18, wr_9_160, by decide, rfl, (Nat.le_of_ble_eq_true rfl), (Nat.le_of_ble_eq_true rfl)⟩ wr_9_158 wr_9_159 hm585319 he585320 rfl (show 0 + 0 ≤ 0 by first | omega | decide) (show 0 + 0 ≤ 0 by first | omega | decide) (Nat.le_of_ble_eq_true rfl) (fun r585332 w585333 dc585329 ds585330 hp585331 => ?_) (fun _ _ _ _ _ z => z.elim)
              obtain ⟨rfl, rfl, hdc, hds⟩ := hp585331
              change G _ _ _ _ _ _ _ (.int p585322 :: _) _ _ _
              refine G_widen (cs' := 0) (sl' := 0) (by omega) (by omega) ?_
              refine G_icmp_ge 127 dr_cX17_run_91 (by decide +kernel) (fun hc585334 => ?_) (fun hc585334 => ?_)
              · have r585335 : p585322.toInt ≤ g585167.toInt := gC_le hc585334
                refine G_aload 0 dr_cX17_run_127 rfl ?_
                refine Gp_get 1 hm585284 he585315 dr_cX17_run_129 (gk_X12 D I) (Nat.le_of_ble_eq_true rfl) wr_9_223 rfl ?_
                refine G_astore (L' := [(6, .ref q585287), (5, .ref q585277), (4, .int g585167), (3, .int g585166), (0, .ref q580384), (1, .ref q580385), (2, .int p580386)]) dr_cX17_run_132 (Nat.le_of_ble_eq_true rfl) rfl ?_
                refine G_aload 0 dr_cX17_run_134 rfl ?_
                have hm585336 : q585287 ∈ P580382 := RS_m hT585318 ht585292 (by decide)
                obtain ⟨p585338, p585339, p585340, p585341, p585342, p585343, p585344, he585337, bp585338, bp585339, bp585342, bp585343, bp585344, r585345, r585346, r585347, r585348, r585349⟩ := show rk_1 γ q585287 (F585309 q585287) from RS_o hT585318 ht585292
                have bp585340 := gB_any p585340
                have bp585341 := gB_any p585341
                refine Gp_get 0 hm585336 he585337 dr_cX17_run_136 (gk_X15 D I) (Nat.le_of_ble_eq_true rfl) wr_9_177 rfl ?_
                refine G_bipush 32 dr_cX17_run_139 (by decide +kernel) ?_
                refine G_icmp_ne 164 dr_cX17_run_141 (by decide +kernel) (fun hc585350 => ?_) (fun hc585350 => ?_)
                · have r585351 : p585338.toInt ≠ 32 := gj_neq hc585350 (show Int32.toInt 32 = 32 by decide)
                  have bp585338' : gB p585338 0 31 := ⟨by omega, by omega⟩
                  refine G_aload 0 dr_cX17_run_164 rfl ?_
                  refine Gp_get 0 hm585336 he585337 dr_cX17_run_166 (gk_X15 D I) (Nat.le_of_ble_eq_true rfl) wr_9_177 rfl ?_
                  refine G_bipush 30 dr_cX17_run_169 (by decide +kernel) ?_
                  refine G_icmp_eq 191 dr_cX17_run_171 (by decide +kernel) (fun hc585352 => ?_) (fun hc585352 => ?_)
                  · have r585353 : p585338.toInt = 30 := gj_eq hc585352 (show Int32.toInt 30 = 30 by decide)
                    have bp585338'' : gB p585338 30 30 := ⟨by omega, by omega⟩
                    refine G_aload 1 dr_cX17_run_191 rfl ?_
                    refine Gp_get 2 hm585284 he585315 dr_cX17_run_193 (gk_X12 D I) (Nat.le_of_ble_eq_true rfl) wr_9_229 rfl ?_
                    refine G_goto 204 dr_cX17_run_196 (by decide +kernel) ?_
                    refine G_istore_n (L' := [(3, .int p585288), (6, .ref q585287), (5, .ref q585277), (4, .int g585167), (0, .ref q580384), (1, .ref q580385), (2, .int p580386)]) dr_cX17_run_204 (Nat.le_of_ble_eq_true rfl) rfl ?_
                    refine G_iconst 0 dr_cX17_run_205 (by decide +kernel) ?_
                    refine G_istore (L' := [(4, .int 0), (3, .int p585288), (6, .ref q585287), (5, .ref q585277), (0, .ref q580384), (1, .ref q580385), (2, .int p580386)]) dr_cX17_run_206 (Nat.le_of_ble_eq_true rfl) rfl ?_
                    refine G_goto 54 dr_cX17_run_208 (by decide +kernel) ?_
                    refine G_lv (L' := [(4, .int 0), (3, .int p585288), (0, .ref q580384), (1, .ref q580385), (2, .int p580386)]) [0, 1, 4, 5, 6] rfl ?_
                    have ac585354 : (fI (F585309 q580384) 26).toInt = z585308.toInt := by rw [he585316]; rfl
                    have ac585355 : (fI (F585309 q580384) 9).toInt = p585183.toInt := by rw [he585316]; rfl
                    have ac585356 : (fI (F585309 q580384) 10).toInt = p585184.toInt := by rw [he585316]; rfl
                    have ac585357 : (fI (F585309 q580384) 32).toInt = p585195.toInt := by rw [he585316]; rfl
                    exact ih54_585175 F585309 p585288 0 bp585288 (gB_w (gBl (show Int32.toInt 0 = 0 by decide)) (by decide) (by decide)) hT585318 hs585317 (by have qa0 : Int32.toInt 0 = 0 := (by decide); omega) (by omega) (by omega) (by omega) (by omega) (by have qa0 : Int32.toInt 0 = 0 := (by decide); omega)
                  · have r585358 : p585338.toInt ≠ 30 := gj_neq hc585352 (show Int32.toInt 30 = 30 by decide)
                    refine G_aload_n 4 dr_cX17_run_174 rfl ?_
                    refine G_aload 0 dr_cX17_run_175 rfl ?_
                    refine Gp_get 5 hm585336 he585337 dr_cX17_run_177 (gk_X15 D I) (Nat.le_of_ble_eq_true rfl) wr_9_197 rfl ?_
                    refine G_aload 0 dr_cX17_run_180 rfl ?_
                    refine Gp_get 2 hm585336 he585337 dr_cX17_run_182 (gk_X15 D I) (Nat.le_of_ble_eq_true rfl) wr_9_186 rfl ?_
                    refine Gw_callV (As := [.int p585343, .int p585340]) (gV_ok D I) (ct_7532_SpillForgeModel_value l hl0 D I γ el P580382 F585309 q580384 p585343 p585340 hT585318 htq580384 bp585343 (by omega)) dr_cX17_run_185 ⟨wr_11_100, wr_1_14, wr_11_103, by decide, rfl, (Nat.le_of_ble_eq_true rfl), (Nat.le_of_ble_eq_true rfl)⟩ wr_11_102 wr_p_115 hm585179 he585316 rfl (show 0 + 0 ≤ 0 by first | omega | decide) (show 0 + 0 ≤ 0 by first | omega | decide) (Nat.le_of_ble_eq_true rfl) (fun r585362 w585363 dc585359 ds585360 hp585361 => ?_) (fun _ _ _ _ _ z => z.elim)
                    obtain ⟨o585364, rfl, rfl, hdc, hds, ht585365⟩ := hp585361
                    have bo585364 := gB_any o585364
                    change G _ _ _ _ _ _ _ (.int o585364 :: _) _ _ _
                    refine G_widen (cs' := 0) (sl' := 0) (by omega) (by omega) ?_
                    refine G_if_eq 199 dr_cX17_run_188 (by decide +kernel) (fun hc585366 => ?_) (fun hc585366 => ?_)
                    · have r585367 : o585364.toInt = 0 := gj_eq hc585366 (show Int32.toInt 0 = 0 by decide)
                      have bo585364' : gB o585364 0 0 := ⟨by omega, by omega⟩
                      refine G_aload 1 dr_cX17_run_199 rfl ?_
                      refine Gp_get 3 hm585284 he585315 dr_cX17_run_201 (gk_X12 D I) (Nat.le_of_ble_eq_true rfl) wr_9_233 rfl ?_
                      refine G_istore_n (L' := [(3, .int p585289), (6, .ref q585287), (5, .ref q585277), (4, .int g585167), (0, .ref q580384), (1, .ref q580385), (2, .int p580386)]) dr_cX17_run_204 (Nat.le_of_ble_eq_true rfl) rfl ?_
                      refine G_iconst 0 dr_cX17_run_205 (by decide +kernel) ?_
                      refine G_istore (L' := [(4, .int 0), (3, .int p585289), (6, .ref q585287), (5, .ref q585277), (0, .ref q580384), (1, .ref q580385), (2, .int p580386)]) dr_cX17_run_206 (Nat.le_of_ble_eq_true rfl) rfl ?_
                      refine G_goto 54 dr_cX17_run_208 (by decide +kernel) ?_
                      refine G_lv (L' := [(4, .int 0), (3, .int p585289), (0, .ref q580384), (1, .ref q580385), (2, .int p580386)]) [0, 1, 4, 5, 6] rfl ?_
                      have ac585368 : (fI (F585309 q580384) 26).toInt = z585308.toInt := by rw [he585316]; rfl
                      have ac585369 : (fI (F585309 q580384) 9).toInt = p585183.toInt := by rw [he585316]; rfl
                      have ac585370 : (fI (F585309 q580384) 10).toInt = p585184.toInt := by rw [he585316]; rfl
                      have ac585371 : (fI (F585309 q580384) 32).toInt = p585195.toInt := by rw [he585316]; rfl
                      exact ih54_585175 F585309 p585289 0 bp585289 (gB_w (gBl (show Int32.toInt 0 = 0 by decide)) (by decide) (by decide)) hT585318 hs585317 (by have qa0 : Int32.toInt 0 = 0 := (by decide); omega) (by omega) (by omega) (by omega) (by omega) (by have qa0 : Int32.toInt 0 = 0 := (by decide); omega)
                    · have r585372 : o585364.toInt ≠ 0 := gj_neq hc585366 (show Int32.toInt 0 = 0 by decide)
                      refine G_aload 1 dr_cX17_run_191 rfl ?_
                      refine Gp_get 2 hm585284 he585315 dr_cX17_run_193 (gk_X12 D I) (Nat.le_of_ble_eq_true rfl) wr_9_229 rfl ?_
                      refine G_goto 204 dr_cX17_run_196 (by decide +kernel) ?_
                      refine G_istore_n (L' := [(3, .int p585288), (6, .ref q585287), (5, .ref q585277), (4, .int g585167), (0, .ref q580384), (1, .ref q580385), (2, .int p580386)]) dr_cX17_run_204 (Nat.le_of_ble_eq_true rfl) rfl ?_
                      refine G_iconst 0 dr_cX17_run_205 (by decide +kernel) ?_
                      refine G_istore (L' := [(4, .int 0), (3, .int p585288), (6, .ref q585287), (5, .ref q585277), (0, .ref q580384), (1, .ref q580385), (2, .int p580386)]) dr_cX17_run_206 (Nat.le_of_ble_eq_true rfl) rfl ?_
                      refine G_goto 54 dr_cX17_run_208 (by decide +kernel) ?_
                      refine G_lv (L' := [(4, .int 0), (3, .int p585288), (0, .ref q580384), (1, .ref q580385), (2, .int p580386)]) [0, 1, 4, 5, 6] rfl ?_
                      have ac585373 : (fI (F585309 q580384) 26).toInt = z585308.toInt := by rw [he585316]; rfl
                      have ac585374 : (fI (F585309 q580384) 9).toInt = p585183.toInt := by rw [he585316]; rfl
                      have ac585375 : (fI (F585309 q580384) 10).toInt = p585184.toInt := by rw [he585316]; rfl
                      have ac585376 : (fI (F585309 q580384) 32).toInt = p585195.toInt := by rw [he585316]; rfl
                      exact ih54_585175 F585309 p585288 0 bp585288 (gB_w (gBl (show Int32.toInt 0 = 0 by decide)) (by decide) (by decide)) hT585318 hs585317 (by have qa0 : Int32.toInt 0 = 0 := (by decide); omega) (by omega) (by omega) (by omega) (by omega) (by have qa0 : Int32.toInt 0 = 0 := (by decide); omega)
                · have r585377 : p585338.toInt = 32 := gj_eq hc585350 (show Int32.toInt 32 = 32 by decide)
                  have bp585338' : gB p585338 32 32 := ⟨by omega, by omega⟩
                  refine G_aload_n 4 dr_cX17_run_144 rfl ?_
                  refine G_aload_n 4 dr_cX17_run_145 rfl ?_
                  refine G_aload 0 dr_cX17_run_146 rfl ?_
                  refine Gp_get 5 hm585336 he585337 dr_cX17_run_148 (gk_X15 D I) (Nat.le_of_ble_eq_true rfl) wr_9_197 rfl ?_
                  refine G_aload 0 dr_cX17_run_151 rfl ?_
                  refine Gp_get 2 hm585336 he585337 dr_cX17_run_153 (gk_X15 D I) (Nat.le_of_ble_eq_true rfl) wr_9_186 rfl ?_
                  refine Gw_callV (As := [.int p585343, .int p585340]) (gV_ok D I) (ct_7532_SpillForgeModel_value l hl0 D I γ el P580382 F585309 q580384 p585343 p585340 hT585318 htq580384 bp585343 (by omega)) dr_cX17_run_156 ⟨wr_11_100, wr_1_14, wr_11_103, by decide, rfl, (Nat.le_of_ble_eq_true rfl), (Nat.le_of_ble_eq_true rfl)⟩ wr_11_102 wr_p_115 hm585179 he585316 rfl (show 0 + 0 ≤ 0 by first | omega | decide) (show 0 + 0 ≤ 0 by first | omega | decide) (Nat.le_of_ble_eq_true rfl) (fun r585381 w585382 dc585378 ds585379 hp585380 => ?_) (fun _ _ _ _ _ z => z.elim)
                  obtain ⟨o585383, rfl, rfl, hdc, hds, ht585384⟩ := hp585380
                  have bo585383 := gB_any o585383
                  change G _ _ _ _ _ _ _ (.int o585383 :: _) _ _ _
                  refine G_widen (cs' := 0) (sl' := 0) (by omega) (by omega) ?_
                  refine Gp_put 24 hm585179 he585316 dr_cX17_run_159 (gk_X17 D I) (Nat.le_of_ble_eq_true rfl) wr_7_98 rfl rfl rfl (Nat.le_of_ble_eq_true rfl) (fun F585385 e585386 n585387 => ?_)
                  have he585388 : F585385 q580385 = .inr (18, [.ref q585236, .ref q585237, .int p585238, .int p585239]) := (n585387 q580385 (rn_oo he585312 he585316 (by decide))).trans he585312
                  have he585389 : F585385 q585236 = .inr (4, [.int p585258, .ref q585260, .int p585259]) := (n585387 q585236 (rn_oo he585313 he585316 (by decide))).trans he585313
                  have he585390 : F585385 q585260 = .inl (I (.object "java/lang/Object"), n585274, .inr (.inr (.inr (.inr f585275)))) := (n585387 q585260 (rn_ao he585314 he585316)).trans he585314
                  have he585391 : F585385 q585277 = .inr (17, [.ref q585286, .ref q585287, .int p585288, .int p585289]) := (n585387 q585277 (rn_oo he585315 he585316 (by decide))).trans he585315
                  have he585392 : F585385 q585286 = .inr (4, [.int p585321, .ref q585323, .int p585322]) := (n585387 q585286 (rn_oo he585320 he585316 (by decide))).trans he585320
                  have he585393 : F585385 q585287 = .inr (20, [.int p585338, .int p585339, .int p585340, .int p585341, .int p585342, .int p585343, .int p585344]) := (n585387 q585287 (rn_oo he585337 he585316 (by decide))).trans he585337
                  have he585394 : F585385 q580384 = .inr (22, [.ref (γ 9 0), .ref (γ 9 1), .ref (γ 9 2), .ref (γ 9 3), .ref (γ 9 4), .ref (γ 9 5), .ref (γ 9 6), .ref (γ 9 7), .ref (γ 9 8), .int p585183, .int p585184, .int p585185, .int p585186, .int p585187, .int p585188, .ref (γ 9 15), .ref (γ 9 16), .ref (γ 9 17), .ref (γ 9 18), .ref (γ 9 19), .ref (γ 9 20), .ref (γ 9 21), .ref (γ 9 22), .int p585189, .int o585383, .int p585191, .int z585308, .int p585193, .ref q585181, .ref (γ 9 29), .int p585194, .ref (γ 9 31), .int p585195, .int p585196, .int p585197, .ref q585182]) := e585386
                  have hs585395 : rStr γ [] F580383 F585385 := rStr_put hs585317 n585387 htq580384 (by decide)
                  refine G_iconst 0 dr_cX17_run_162 (by decide +kernel) ?_
                  have hT585396 : RS D I P580382 F585385 γ el := RS_set hT585318 n585387 htq580384 (by decide) ⟨q585181, q585182, p585183, p585184, p585185, p585186, p585187, p585188, p585189, o585383, p585191, z585308, p585193, p585194, p585195, p585196, p585197, he585394, ⟨bp585183, bp585184, (hB585224.2.2.1), (hB585224.2.2.2.1), (hB585224.2.2.2.2.1), ⟨by omega, by omega⟩, (hB585224.2.2.2.2.2.2.1), bp585195, (hB585224.2.2.2.2.2.2.2.2)⟩, ht585198, ht585199, ht585200, ht585201, ht585202, ht585203, ht585204, ht585205, ht585206, ht585207, ht585208, ht585209, ht585210, ht585211, ht585212, ht585213, ht585214, ht585215, ht585216, ht585217, ht585218, ht585219, ht585220, ht585221, hB585225⟩
                  have ac585397 : (fI (F585385 q580384) 26).toInt = z585308.toInt := by rw [he585394]; rfl
                  have ac585398 : (fI (F585385 q580384) 9).toInt = p585183.toInt := by rw [he585394]; rfl
                  have ac585399 : (fI (F585385 q580384) 10).toInt = p585184.toInt := by rw [he585394]; rfl
                  have ac585400 : (fI (F585385 q580384) 32).toInt = p585195.toInt := by rw [he585394]; rfl
                  exact G_iretA dr_cX17_run_163 rfl (Nat.le_of_ble_eq_true rfl) (Nat.le_of_ble_eq_true rfl) ⟨F585385, 0, rfl, rfl, hT585396, hs585395, (Nat.le_of_ble_eq_true rfl), (Nat.le_of_ble_eq_true rfl), (gB_w (gBl (show Int32.toInt 0 = 0 by decide)) (by decide) (by decide)), (by have qa0 : Int32.toInt 0 = 0 := (by decide); omega), (by have qa0 : Int32.toInt 0 = 0 := (by decide); omega), (by have qa0 : Int32.toInt 0 = 0 := (by decide); omega)⟩
              · have r585401 : g585167.toInt < p585322.toInt := gC_nle hc585334
                have bg585167' : gB g585167 0 999999 := ⟨by omega, by omega⟩
                have bp585322' : gB p585322 1 1000000 := ⟨by omega, by omega⟩
                refine G_aload_n 3 dr_cX17_run_94 rfl ?_
                refine G_aload 0 dr_cX17_run_95 rfl ?_
                refine Gp_get 0 hm585284 he585315 dr_cX17_run_97 (gk_X12 D I) (Nat.le_of_ble_eq_true rfl) wr_9_220 rfl ?_
                refine G_iload 1 dr_cX17_run_100 rfl ?_
                obtain ⟨r585402, r585403, n585410, f585411, r585404, r585405, r585406, r585407, r585408, r585409⟩ := rLC_n r585326 (by omega)
                have hm585412 : q585323 ∈ P580382 := RS_m hT585318 r585402 (by decide)
                obtain ⟨q585413, hx585414⟩ : ∃ x, x = el q585286 g585167.toInt.toNat := ⟨_, rfl⟩
                have hx585415 : f585411 g585167.toNatClampNeg = some q585413 := (r585408 _ (show g585167.toInt.toNat < γ 2 q585286 by omega)).trans (by rw [hx585414])
                have ht585416 : rKd γ q585413 1 := by rw [hx585414]; exact (r585327 _ (show g585167.toInt.toNat < γ 2 q585286 by omega)).1
                have ht585417 : rFm γ q585413 q585286 := by rw [hx585414]; exact (r585327 _ (show g585167.toInt.toNat < γ 2 q585286 by omega)).2.1
                refine Gw_callV (As := [.int g585167]) (gV_ok D I) (cp_22_ArrayList_get l hl0 D I P580382 F585309 q585286 q585323 g585167 p585321 p585322 f585411 n585410 q585413 hm585319 hm585412 he585320 r585404 (gB_w bg585167' (by decide) (by decide)) (gB_w bp585322' (by decide) (by decide)) (by omega) (by omega) (by assumption) (by omega)) dr_cX17_run_102 ⟨wr_10_201, wr_1_18, wr_10_65, by decide, rfl, (Nat.le_of_ble_eq_true rfl), (Nat.le_of_ble_eq_true rfl)⟩ wr_10_63 wr_10_64 hm585319 he585320 rfl (show 0 + 0 ≤ 0 by first | omega | decide) (show 0 + 0 ≤ 0 by first | omega | decide) (Nat.le_of_ble_eq_true rfl) (fun r585421 w585422 dc585418 ds585419 hp585420 => ?_) (fun _ _ _ _ _ z => z.elim)
                obtain ⟨rfl, rfl, hdc, hds, ht585423⟩ := hp585420
                change G _ _ _ _ _ _ _ (.ref q585413 :: _) _ _ _
                refine G_widen (cs' := 0) (sl' := 0) (by omega) (by omega) ?_
                have hm585424 : q585413 ∈ P580382 := RS_m hT585318 ht585416 (by decide)
                obtain ⟨p585426, p585427, p585428, p585429, p585430, p585431, p585432, he585425, bp585426, bp585427, bp585430, bp585431, bp585432, r585433, r585434, r585435, r585436, r585437⟩ := show rk_1 γ q585413 (F585309 q585413) from RS_o hT585318 ht585416
                have bp585428 := gB_any p585428
                have bp585429 := gB_any p585429
                refine Gp_cast hm585424 he585425 rfl dr_cX17_run_105 wr_10_202 (gr_cast 1 rfl) ?_
                have ac585438 : (fI (F585309 q580384) 26).toInt = z585308.toInt := by rw [he585316]; rfl
                have ac585439 : (fI (F585309 q580384) 9).toInt = p585183.toInt := by rw [he585316]; rfl
                have ac585440 : (fI (F585309 q580384) 10).toInt = p585184.toInt := by rw [he585316]; rfl
                have ac585441 : (fI (F585309 q580384) 32).toInt = p585195.toInt := by rw [he585316]; rfl
                refine Gw_callV (As := [.ref q585413]) (gV_ok D I) (ct_581168_SpillForgeModel_step l hl0 D I γ el P580382 F585309 q580384 q585413 hT585318 htq580384 ht585416) dr_cX17_run_108 ⟨wr_11_96, wr_1_14, wr_11_99, by decide, rfl, (Nat.le_of_ble_eq_true rfl), (Nat.le_of_ble_eq_true rfl)⟩ wr_11_98 wr_p_114 hm585179 he585316 rfl (show 0 + 0 ≤ 0 by first | omega | decide) (show 0 + 0 ≤ 0 by first | omega | decide) (Nat.le_of_ble_eq_true rfl) (fun r585445 w585446 dc585442 ds585443 hp585444 => ?_) (fun _ _ _ _ _ z => z.elim)
                obtain ⟨F585452, o585447, rfl, rfl, hT585453, hs585454, hdc, hds, bo585447, x585448, x585449, x585450, x585451⟩ := hp585444
                have he585455 : F585452 q580385 = .inr (18, [.ref q585236, .ref q585237, .int p585238, .int p585239]) := (hs585454 q580385 (rT0 htq580385 (by decide)) (rT1 htq580385 (by decide)) (rT2 htq580385 (by decide))).trans he585312
                have he585456 : F585452 q585236 = .inr (4, [.int p585258, .ref q585260, .int p585259]) := (hs585454 q585236 (rT0 ht585240 (by decide)) (rT1 ht585240 (by decide)) (rT2 ht585240 (by decide))).trans he585313
                have he585457 : F585452 q585260 = .inl (I (.object "java/lang/Object"), n585274, .inr (.inr (.inr (.inr f585275)))) := (hs585454 q585260 (rT0 r585266 (by decide)) (rT1 r585266 (by decide)) (rT2 r585266 (by decide))).trans he585314
                have he585458 : F585452 q585277 = .inr (17, [.ref q585286, .ref q585287, .int p585288, .int p585289]) := (hs585454 q585277 (rT0 ht585282 (by decide)) (rT1 ht585282 (by decide)) (rT2 ht585282 (by decide))).trans he585315
                have he585459 : F585452 q585286 = .inr (4, [.int p585321, .ref q585323, .int p585322]) := (hs585454 q585286 (rT0 ht585290 (by decide)) (rT1 ht585290 (by decide)) (rT2 ht585290 (by decide))).trans he585320
                have he585460 : F585452 q585323 = .inl (I (.object "java/lang/Object"), n585410, .inr (.inr (.inr (.inr f585411)))) := (hs585454 q585323 (rT0 r585402 (by decide)) (rT1 r585402 (by decide)) (rT2 r585402 (by decide))).trans r585404
                have he585461 : F585452 q585413 = .inr (20, [.int p585426, .int p585427, .int p585428, .int p585429, .int p585430, .int p585431, .int p585432]) := (hs585454 q585413 (rT0 ht585416 (by decide)) (rT1 ht585416 (by decide)) (rT2 ht585416 (by decide))).trans he585425
                have hs585462 : rStr γ [] F580383 F585452 := rStr_tr hs585317 hs585454
                change G _ _ _ _ _ _ _ (.int o585447 :: _) _ _ _
                refine G_widen (cs' := 0) (sl' := 0) (by omega) (by omega) ?_
                refine G_istore (L' := [(6, .int o585447), (5, .ref q585277), (4, .int g585167), (3, .int g585166), (0, .ref q580384), (1, .ref q580385), (2, .int p580386)]) dr_cX17_run_111 (Nat.le_of_ble_eq_true rfl) rfl ?_
                refine G_iload 0 dr_cX17_run_113 rfl ?_
                refine G_if_lt 121 dr_cX17_run_115 (by decide +kernel) (fun hc585463 => ?_) (fun hc585463 => ?_)
                · have r585464 : o585447.toInt < 0 := gj_lt hc585463 (show Int32.toInt 0 = 0 by decide)
                  have bo585447' : gB o585447 (-1) (-1) := ⟨by omega, by omega⟩
                  obtain ⟨z585465, hz585465⟩ : ∃ z : Int32, z = g585167 + Int32.ofInt 1 := ⟨_, rfl⟩
                  have ez585465 : z585465.toInt = g585167.toInt + 1 := gI_inc hz585465 (by decide) bg585167' (by decide) (by decide)
                  have bz585465 : gB z585465 1 1000000 := ⟨by omega, by omega⟩
                  refine G_iinc (L' := [(4, .int z585465), (6, .int o585447), (5, .ref q585277), (3, .int g585166), (0, .ref q580384), (1, .ref q580385), (2, .int p580386)]) z585465 2 dr_cX17_run_121 rfl hz585465.symm (Nat.le_of_ble_eq_true rfl) rfl ?_
                  refine G_goto 54 dr_cX17_run_124 (by decide +kernel) ?_
                  refine G_lv (L' := [(4, .int z585465), (3, .int g585166), (0, .ref q580384), (1, .ref q580385), (2, .int p580386)]) [0, 3, 4, 5, 6] rfl ?_
                  have hm585466 : q580384 ∈ P580382 := RS_m hT585453 htq580384 (by decide)
                  refine rk10_e (show rk_10 γ (F585452 q580384) from RS_o hT585453 htq580384) (fun q585468 q585469 p585470 p585471 p585472 p585473 p585474 p585475 p585476 p585477 p585478 p585479 p585480 p585481 p585482 p585483 p585484 he585467 hB585511 ht585485 ht585486 ht585487 ht585488 ht585489 ht585490 ht585491 ht585492 ht585493 ht585494 ht585495 ht585496 ht585497 ht585498 ht585499 ht585500 ht585501 ht585502 ht585503 ht585504 ht585505 ht585506 ht585507 ht585508 hB585512 => ?_)
                  have ac585513 : (fI (F585452 q580384) 26).toInt = p585479.toInt := by rw [he585467]; rfl
                  have bp585479 : gB p585479 0 100000 := (hB585511.2.2.2.2.2.1)
                  have ac585514 : (fI (F585452 q580384) 9).toInt = p585470.toInt := by rw [he585467]; rfl
                  have bp585470 : gB p585470 0 1 := (hB585511.1)
                  have ac585515 : (fI (F585452 q580384) 10).toInt = p585471.toInt := by rw [he585467]; rfl
                  have bp585471 : gB p585471 0 1 := (hB585511.2.1)
                  have ac585516 : (fI (F585452 q580384) 32).toInt = p585482.toInt := by rw [he585467]; rfl
                  have bp585482 : gB p585482 0 8192 := (hB585511.2.2.2.2.2.2.2.1)
                  have ac585517 : (fI (F585452 q580384) 26).toInt = p585479.toInt := by rw [he585467]; rfl
                  have ac585518 : (fI (F585452 q580384) 9).toInt = p585470.toInt := by rw [he585467]; rfl
                  have ac585519 : (fI (F585452 q580384) 10).toInt = p585471.toInt := by rw [he585467]; rfl
                  have ac585520 : (fI (F585452 q580384) 32).toInt = p585482.toInt := by rw [he585467]; rfl
                  exact ih54_585175 F585452 g585166 z585465 bg585166 (gB_w bz585465 (by decide) (by decide)) hT585453 hs585462 (by omega) (by omega) (by omega) (by omega) (by omega) (by omega)
                · have r585521 : 0 ≤ o585447.toInt := gj_nlt hc585463 (show Int32.toInt 0 = 0 by decide)
                  have bo585447' : gB o585447 0 5 := ⟨by omega, by omega⟩
                  refine G_iload 0 dr_cX17_run_118 rfl ?_
                  have hm585522 : q580384 ∈ P580382 := RS_m hT585453 htq580384 (by decide)
                  refine rk10_e (show rk_10 γ (F585452 q580384) from RS_o hT585453 htq580384) (fun q585524 q585525 p585526 p585527 p585528 p585529 p585530 p585531 p585532 p585533 p585534 p585535 p585536 p585537 p585538 p585539 p585540 he585523 hB585567 ht585541 ht585542 ht585543 ht585544 ht585545 ht585546 ht585547 ht585548 ht585549 ht585550 ht585551 ht585552 ht585553 ht585554 ht585555 ht585556 ht585557 ht585558 ht585559 ht585560 ht585561 ht585562 ht585563 ht585564 hB585568 => ?_)
                  have ac585569 : (fI (F585452 q580384) 26).toInt = p585535.toInt := by rw [he585523]; rfl
                  have bp585535 : gB p585535 0 100000 := (hB585567.2.2.2.2.2.1)
                  have ac585570 : (fI (F585452 q580384) 9).toInt = p585526.toInt := by rw [he585523]; rfl
                  have bp585526 : gB p585526 0 1 := (hB585567.1)
                  have ac585571 : (fI (F585452 q580384) 10).toInt = p585527.toInt := by rw [he585523]; rfl
                  have bp585527 : gB p585527 0 1 := (hB585567.2.1)
                  have ac585572 : (fI (F585452 q580384) 32).toInt = p585538.toInt := by rw [he585523]; rfl
                  have bp585538 : gB p585538 0 8192 := (hB585567.2.2.2.2.2.2.2.1)
                  have ac585573 : (fI (F585452 q580384) 26).toInt = p585535.toInt := by rw [he585523]; rfl
                  have ac585574 : (fI (F585452 q580384) 9).toInt = p585526.toInt := by rw [he585523]; rfl
                  have ac585575 : (fI (F585452 q580384) 10).toInt = p585527.toInt := by rw [he585523]; rfl
                  have ac585576 : (fI (F585452 q580384) 32).toInt = p585538.toInt := by rw [he585523]; rfl
                  exact G_iretA dr_cX17_run_120 rfl (Nat.le_of_ble_eq_true rfl) (Nat.le_of_ble_eq_true rfl) ⟨F585452, o585447, rfl, rfl, hT585453, hs585462, (Nat.le_of_ble_eq_true rfl), (Nat.le_of_ble_eq_true rfl), bo585447', (by omega), (by omega), (by omega)⟩
            · have r585577 : p585192.toInt = p580386.toInt := gC_eq hc585306
              have bp585192' : gB p585192 1 100000 := ⟨by omega, by omega⟩
              refine G_iconst 4 dr_cX17_run_69 (by decide +kernel) ?_
              have ac585578 : (fI (F585168 q580384) 26).toInt = p585192.toInt := by rw [he585180]; rfl
              have ac585579 : (fI (F585168 q580384) 9).toInt = p585183.toInt := by rw [he585180]; rfl
              have ac585580 : (fI (F585168 q580384) 10).toInt = p585184.toInt := by rw [he585180]; rfl
              have ac585581 : (fI (F585168 q580384) 32).toInt = p585195.toInt := by rw [he585180]; rfl
              exact G_iretA dr_cX17_run_70 rfl (Nat.le_of_ble_eq_true rfl) (Nat.le_of_ble_eq_true rfl) ⟨F585168, 4, rfl, rfl, hT585169, hs585170, (Nat.le_of_ble_eq_true rfl), (Nat.le_of_ble_eq_true rfl), (gB_w (gBl (show Int32.toInt 4 = 4 by decide)) (by decide) (by decide)), (by have qa0 : Int32.toInt 4 = 4 := (by decide); omega), (by have qa0 : Int32.toInt 4 = 4 := (by decide); omega), (by have qa0 : Int32.toInt 4 = 4 := (by decide); omega)⟩
        have ac585582 : (fI (F584816 q580384) 26).toInt = 0 := by rw [he584819]; show Int32.toInt 0 = 0; decide
        have ac585583 : (fI (F584816 q580384) 9).toInt = p584746.toInt := by rw [he584819]; rfl
        have ac585584 : (fI (F584816 q580384) 10).toInt = p584747.toInt := by rw [he584819]; rfl
        have ac585585 : (fI (F584816 q580384) 32).toInt = p584758.toInt := by rw [he584819]; rfl
        exact hlp54_585175 ((p580386.toInt - (fI (F584816 q580384) 26).toInt).toNat + 1) F584816 0 0 (gB_w (gBl (show Int32.toInt 0 = 0 by decide)) (by decide) (by decide)) (gB_w (gBl (show Int32.toInt 0 = 0 by decide)) (by decide) (by decide)) hT584822 hs584820 (by have qa0 : Int32.toInt 0 = 0 := (by decide); omega) (by omega) (by omega) (by omega) (by omega) (Nat.lt_succ_self _)
      · have r585586 : g584732.toInt < 2000 := gj_nleL hc584797 (show Int32.toInt 2000 = 2000 by decide)
        have bg584732' : gB g584732 0 1999 := ⟨by omega, by omega⟩
        refine G_aload_n 1 dr_cX17_run_9 rfl ?_
        refine Gp_get 20 hm584742 he584743 dr_cX17_run_10 (gk_X17 D I) (Nat.le_of_ble_eq_true rfl) wr_7_94 rfl ?_
        refine G_iload_n 0 dr_cX17_run_13 rfl ?_
        refine G_iconst 0 dr_cX17_run_14 (by decide +kernel) ?_
        have hm585587 : (γ 9 20) ∈ P580382 := RS_m hT584734 ht584777 (by decide)
        obtain ⟨f585589, he585588⟩ := show rk_22 I (F584733 (γ 9 20)) from RS_o hT584734 ht584777
        refine Gp_iast 0 hm585587 he585588 dr_cX17_run_15 rfl (gB_in bg584732' (by decide) (by decide)) (fun F585590 e585591 n585592 => ?_)
        obtain ⟨f585593, hf585593⟩ : ∃ z, z = upd f585589 g584732.toNatClampNeg 0 := ⟨_, rfl⟩
        rw [← hf585593] at e585591
        have he585594 : F585590 q580384 = .inr (22, [.ref (γ 9 0), .ref (γ 9 1), .ref (γ 9 2), .ref (γ 9 3), .ref (γ 9 4), .ref (γ 9 5), .ref (γ 9 6), .ref (γ 9 7), .ref (γ 9 8), .int p584746, .int p584747, .int p584748, .int p584749, .int p584750, .int p584751, .ref (γ 9 15), .ref (γ 9 16), .ref (γ 9 17), .ref (γ 9 18), .ref (γ 9 19), .ref (γ 9 20), .ref (γ 9 21), .ref (γ 9 22), .int p584752, .int p584753, .int p584754, .int p584755, .int p584756, .ref q584744, .ref (γ 9 29), .int p584757, .ref (γ 9 31), .int p584758, .int p584759, .int p584760, .ref q584745]) := (n585592 q580384 (rn_oa he584743 he585588)).trans he584743
        have he585595 : F585590 (γ 9 20) = .inl (I .int, 2000, .inl f585593) := e585591
        have hs585596 : rStr γ [] F580383 F585590 := rStr_put hs584735 n585592 ht584777 (by decide)
        refine G_aload_n 1 dr_cX17_run_16 rfl ?_
        refine Gp_get 21 hm584742 he585594 dr_cX17_run_17 (gk_X17 D I) (Nat.le_of_ble_eq_true rfl) wr_7_95 rfl ?_
        refine G_iload_n 0 dr_cX17_run_20 rfl ?_
        refine G_iconst 0 dr_cX17_run_21 (by decide +kernel) ?_
        have hT585597 : RS D I P580382 F585590 γ el := RS_set hT584734 n585592 ht584777 (by decide) ⟨f585593, he585595⟩
        have hm585598 : (γ 9 21) ∈ P580382 := RS_m hT585597 ht584778 (by decide)
        obtain ⟨f585600, he585599⟩ := show rk_23 I (F585590 (γ 9 21)) from RS_o hT585597 ht584778
        refine Gp_iast 0 hm585598 he585599 dr_cX17_run_22 rfl (gB_in bg584732' (by decide) (by decide)) (fun F585601 e585602 n585603 => ?_)
        obtain ⟨f585604, hf585604⟩ : ∃ z, z = upd f585600 g584732.toNatClampNeg 0 := ⟨_, rfl⟩
        rw [← hf585604] at e585602
        have he585605 : F585601 q580384 = .inr (22, [.ref (γ 9 0), .ref (γ 9 1), .ref (γ 9 2), .ref (γ 9 3), .ref (γ 9 4), .ref (γ 9 5), .ref (γ 9 6), .ref (γ 9 7), .ref (γ 9 8), .int p584746, .int p584747, .int p584748, .int p584749, .int p584750, .int p584751, .ref (γ 9 15), .ref (γ 9 16), .ref (γ 9 17), .ref (γ 9 18), .ref (γ 9 19), .ref (γ 9 20), .ref (γ 9 21), .ref (γ 9 22), .int p584752, .int p584753, .int p584754, .int p584755, .int p584756, .ref q584744, .ref (γ 9 29), .int p584757, .ref (γ 9 31), .int p584758, .int p584759, .int p584760, .ref q584745]) := (n585603 q580384 (rn_oa he585594 he585599)).trans he585594
        have he585606 : F585601 (γ 9 20) = .inl (I .int, 2000, .inl f585593) := (n585603 (γ 9 20) (rn_ty ht584777 ht584778 (by decide))).trans he585595
        have he585607 : F585601 (γ 9 21) = .inl (I .int, 2000, .inl f585604) := e585602
        have hs585608 : rStr γ [] F580383 F585601 := rStr_put hs585596 n585603 ht584778 (by decide)
        obtain ⟨z585609, hz585609⟩ : ∃ z : Int32, z = g584732 + Int32.ofInt 1 := ⟨_, rfl⟩
        have ez585609 : z585609.toInt = g584732.toInt + 1 := gI_inc hz585609 (by decide) bg584732' (by decide) (by decide)
        have bz585609 : gB z585609 1 2000 := ⟨by omega, by omega⟩
        refine G_iinc (L' := [(3, .int z585609), (0, .ref q580384), (1, .ref q580385), (2, .int p580386)]) z585609 0 dr_cX17_run_23 rfl hz585609.symm (Nat.le_of_ble_eq_true rfl) rfl ?_
        refine G_goto 2 dr_cX17_run_26 (by decide +kernel) ?_
        have hT585610 : RS D I P580382 F585601 γ el := RS_set hT585597 n585603 ht584778 (by decide) ⟨f585604, he585607⟩
        have ac585611 : (fI (F585601 q580384) 26).toInt = p584755.toInt := by rw [he585605]; rfl
        have ac585612 : (fI (F585601 q580384) 9).toInt = p584746.toInt := by rw [he585605]; rfl
        have ac585613 : (fI (F585601 q580384) 10).toInt = p584747.toInt := by rw [he585605]; rfl
        have ac585614 : (fI (F585601 q580384) 32).toInt = p584758.toInt := by rw [he585605]; rfl
        exact ih2_584738 F585601 z585609 (gB_w bz585609 (by decide) (by decide)) hT585610 hs585608 (by omega) (by omega) (by omega) (mz_up ez585609 (Int.le_trans bg584732'.2 (by decide)) hm2_584738)
  have ac585615 : (fI (F580383 q580384) 26).toInt = p580402.toInt := by rw [he580390]; rfl
  have ac585616 : (fI (F580383 q580384) 9).toInt = p580393.toInt := by rw [he580390]; rfl
  have ac585617 : (fI (F580383 q580384) 10).toInt = p580394.toInt := by rw [he580390]; rfl
  have ac585618 : (fI (F580383 q580384) 32).toInt = p580405.toInt := by rw [he580390]; rfl
  exact hlp2_584738 (((2001 : Int) - 0).toNat + 1) F580383 0 (gB_w (gBl (show Int32.toInt 0 = 0 by decide)) (by decide) (by decide)) hT (rStr_rf (γ := γ) (W := []) (F := F580383)) (by omega) (by omega) (by omega) (Nat.lt_succ_self _)
abbrev ky_585628_SpillForgeModel_run : gKey := (cX17_run_, 3, "SpillForgeModel", (some FieldType.int), [], "run", fun _ _ => True)
def pt_585628_SpillForgeModel_run (D : va_G) (I : FieldType → ClassId) (γ el : Nat → Nat → Nat) (P585621 : List Nat) (F585622 : Nat → va_E) (q585623 : Nat) (p585624 : Int32) (p585625 : Int32) : Option Value → va_W → Nat → Nat → Prop := fun r w dc ds => ∃ (F586136 : Nat → va_E) (o586135 : Int32), r = some (.int o586135) ∧ w = va_pl P585621 F586136 ∧ RS D I P585621 F586136 γ el ∧ rStr γ [] F585622 F586136 ∧ dc ≤ 0 ∧ ds ≤ 0 ∧ gB o586135 0 5 ∧ (fI (F586136 q585623) 9).toInt = (fI (F585622 q585623) 9).toInt ∧ (fI (F586136 q585623) 10).toInt = (fI (F585622 q585623) 10).toInt ∧ (fI (F586136 q585623) 32).toInt = (fI (F585622 q585623) 32).toInt
set_option maxRecDepth 100000 in
set_option maxHeartbeats 4000000 in
theorem ct_585628_SpillForgeModel_run (l : Launch) (hl0 : l.stackTraces = false) (D : va_G) (I : FieldType → ClassId) (γ el : Nat → Nat → Nat) (P585621 : List Nat) (F585622 : Nat → va_E) (q585623 : Nat) (p585624 : Int32) (p585625 : Int32) (hT : RS D I P585621 F585622 γ el) (htq585623 : rKd γ q585623 10) (bp585624 : gB p585624 0 1) (x585626 : ((fI (F585622 q585623) 9).toInt = 0 ∨ 0 < γ 6 0)) (x585627 : ((fI (F585622 q585623) 10).toInt = 0 ∨ 0 < γ 6 1)) : CtA (gV D I) l yX17_run_ cX17_run_ 3 (some FieldType.int) 5 111 0 0 [.ref q585623, .int p585624, .int p585625] (va_pl P585621 F585622) (pt_585628_SpillForgeModel_run D I γ el P585621 F585622 q585623 p585624 p585625) gNA := by
  refine CtA_of hl0 (by decide) (Nat.le_of_ble_eq_true rfl) ?_
  have bp585625 := gB_any p585625
  have hm585629 : q585623 ∈ P585621 := RS_m hT htq585623 (by decide)
  refine rk10_e (show rk_10 γ (F585622 q585623) from RS_o hT htq585623) (fun q585631 q585632 p585633 p585634 p585635 p585636 p585637 p585638 p585639 p585640 p585641 p585642 p585643 p585644 p585645 p585646 p585647 he585630 hB585674 ht585648 ht585649 ht585650 ht585651 ht585652 ht585653 ht585654 ht585655 ht585656 ht585657 ht585658 ht585659 ht585660 ht585661 ht585662 ht585663 ht585664 ht585665 ht585666 ht585667 ht585668 ht585669 ht585670 ht585671 hB585675 => ?_)
  have ac585676 : (fI (F585622 q585623) 9).toInt = p585633.toInt := by rw [he585630]; rfl
  have bp585633 : gB p585633 0 1 := (hB585674.1)
  have ac585677 : (fI (F585622 q585623) 10).toInt = p585634.toInt := by rw [he585630]; rfl
  have bp585634 : gB p585634 0 1 := (hB585674.2.1)
  have ac585678 : (fI (F585622 q585623) 32).toInt = p585645.toInt := by rw [he585630]; rfl
  have bp585645 : gB p585645 0 8192 := (hB585674.2.2.2.2.2.2.2.1)
  have fq585679 : γ 6 (γ 1 (γ 9 6)) = γ 6 0 := by rw [show γ 1 (γ 9 6) = 0 from ht585669]
  have fq585680 : γ 6 (γ 1 (γ 9 7)) = γ 6 1 := by rw [show γ 1 (γ 9 7) = 1 from ht585670]
  have fq585681 : γ 6 (γ 1 (γ 9 8)) = γ 6 2 := by rw [show γ 1 (γ 9 8) = 2 from ht585671]
  have r585682 : p585647.toInt ≤ γ 12 q585632 := by have z := hB585675; unfold rM2 at z; exact z.2.2
  refine G_aload_n 0 dr_cX17_run__0 rfl ?_
  refine G_iconst 0 dr_cX17_run__1 (by decide +kernel) ?_
  refine Gp_put 30 hm585629 he585630 dr_cX17_run__2 (gk_X17 D I) (Nat.le_of_ble_eq_true rfl) wr_7_104 rfl rfl rfl (Nat.le_of_ble_eq_true rfl) (fun F585683 e585684 n585685 => ?_)
  have he585686 : F585683 q585623 = .inr (22, [.ref (γ 9 0), .ref (γ 9 1), .ref (γ 9 2), .ref (γ 9 3), .ref (γ 9 4), .ref (γ 9 5), .ref (γ 9 6), .ref (γ 9 7), .ref (γ 9 8), .int p585633, .int p585634, .int p585635, .int p585636, .int p585637, .int p585638, .ref (γ 9 15), .ref (γ 9 16), .ref (γ 9 17), .ref (γ 9 18), .ref (γ 9 19), .ref (γ 9 20), .ref (γ 9 21), .ref (γ 9 22), .int p585639, .int p585640, .int p585641, .int p585642, .int p585643, .ref q585631, .ref (γ 9 29), .int 0, .ref (γ 9 31), .int p585645, .int p585646, .int p585647, .ref q585632]) := e585684
  have hs585687 : rStr γ [] F585622 F585683 := rStr_put (rStr_rf (γ := γ) (W := []) (F := F585622)) n585685 htq585623 (by decide)
  refine G_iload_n 2 dr_cX17_run__5 rfl ?_
  refine G_iconst 1 dr_cX17_run__6 (by decide +kernel) ?_
  refine G_icmp_lt 17 dr_cX17_run__7 (by decide +kernel) (fun hc585688 => ?_) (fun hc585688 => ?_)
  · have r585689 : p585625.toInt < 1 := gj_lt hc585688 (show Int32.toInt 1 = 1 by decide)
    have bp585625' : gB p585625 (-2147483648) 0 := ⟨by omega, by omega⟩
    refine G_aload_n 0 dr_cX17_run__17 rfl ?_
    refine G_iconst 1 dr_cX17_run__18 (by decide +kernel) ?_
    have hT585690 : RS D I P585621 F585683 γ el := RS_set hT n585685 htq585623 (by decide) ⟨q585631, q585632, p585633, p585634, p585635, p585636, p585637, p585638, p585639, p585640, p585641, p585642, p585643, 0, p585645, p585646, p585647, he585686, ⟨bp585633, bp585634, (hB585674.2.2.1), (hB585674.2.2.2.1), (hB585674.2.2.2.2.1), (hB585674.2.2.2.2.2.1), (hB585674.2.2.2.2.2.2.1), bp585645, (hB585674.2.2.2.2.2.2.2.2)⟩, ht585648, ht585649, ht585650, ht585651, ht585652, ht585653, ht585654, ht585655, ht585656, ht585657, ht585658, ht585659, ht585660, ht585661, ht585662, ht585663, ht585664, ht585665, ht585666, ht585667, ht585668, ht585669, ht585670, ht585671, hB585675⟩
    have ac585691 : (fI (F585683 q585623) 9).toInt = p585633.toInt := by rw [he585686]; rfl
    have ac585692 : (fI (F585683 q585623) 10).toInt = p585634.toInt := by rw [he585686]; rfl
    have ac585693 : (fI (F585683 q585623) 32).toInt = p585645.toInt := by rw [he585686]; rfl
    refine Gw_callV (As := [.int 1]) (gV_ok D I) (ct_578755_SpillForgeModel_no l hl0 D I γ el P585621 F585683 q585623 1 hT585690 htq585623) dr_cX17_run__19 ⟨wr_7_191, wr_1_14, wr_7_194, by decide, rfl, (Nat.le_of_ble_eq_true rfl), (Nat.le_of_ble_eq_true rfl)⟩ wr_7_193 wr_p_73 hm585629 he585686 rfl (show 0 + 0 ≤ 0 by first | omega | decide) (show 0 + 0 ≤ 0 by first | omega | decide) (Nat.le_of_ble_eq_true rfl) (fun r585697 w585698 dc585694 ds585695 hp585696 => ?_) (fun _ _ _ _ _ z => z.elim)
    obtain ⟨F585703, rfl, rfl, hT585704, hs585705, hdc, hds, x585699, x585700, x585701, x585702⟩ := hp585696
    have hs585706 : rStr γ [] F585622 F585703 := rStr_tr hs585687 hs585705
    rw [show Int32.toInt 1 = 1 from by decide] at x585702
    change G _ _ _ _ _ _ _ (.int 0 :: _) _ _ _
    refine G_widen (cs' := 0) (sl' := 0) (by omega) (by omega) ?_
    have hm585707 : q585623 ∈ P585621 := RS_m hT585704 htq585623 (by decide)
    refine rk10_e (show rk_10 γ (F585703 q585623) from RS_o hT585704 htq585623) (fun q585709 q585710 p585711 p585712 p585713 p585714 p585715 p585716 p585717 p585718 p585719 p585720 p585721 p585722 p585723 p585724 p585725 he585708 hB585752 ht585726 ht585727 ht585728 ht585729 ht585730 ht585731 ht585732 ht585733 ht585734 ht585735 ht585736 ht585737 ht585738 ht585739 ht585740 ht585741 ht585742 ht585743 ht585744 ht585745 ht585746 ht585747 ht585748 ht585749 hB585753 => ?_)
    have ac585754 : (fI (F585703 q585623) 9).toInt = p585711.toInt := by rw [he585708]; rfl
    have bp585711 : gB p585711 0 1 := (hB585752.1)
    have ac585755 : (fI (F585703 q585623) 10).toInt = p585712.toInt := by rw [he585708]; rfl
    have bp585712 : gB p585712 0 1 := (hB585752.2.1)
    have ac585756 : (fI (F585703 q585623) 32).toInt = p585723.toInt := by rw [he585708]; rfl
    have bp585723 : gB p585723 0 8192 := (hB585752.2.2.2.2.2.2.2.1)
    have ac585757 : (fI (F585703 q585623) 9).toInt = p585711.toInt := by rw [he585708]; rfl
    have ac585758 : (fI (F585703 q585623) 10).toInt = p585712.toInt := by rw [he585708]; rfl
    have ac585759 : (fI (F585703 q585623) 32).toInt = p585723.toInt := by rw [he585708]; rfl
    exact G_iretA dr_cX17_run__22 rfl (Nat.le_of_ble_eq_true rfl) (Nat.le_of_ble_eq_true rfl) ⟨F585703, 0, rfl, rfl, hT585704, hs585706, (Nat.le_of_ble_eq_true rfl), (Nat.le_of_ble_eq_true rfl), (gB_w (gBl (show Int32.toInt 0 = 0 by decide)) (by decide) (by decide)), (by have qa0 : Int32.toInt 0 = 0 := (by decide); omega), (by have qa0 : Int32.toInt 0 = 0 := (by decide); omega), (by have qa0 : Int32.toInt 0 = 0 := (by decide); omega)⟩
  · have r585760 : 1 ≤ p585625.toInt := gj_nlt hc585688 (show Int32.toInt 1 = 1 by decide)
    have bp585625' : gB p585625 1 2147483647 := ⟨by omega, by omega⟩
    refine G_iload_n 2 dr_cX17_run__10 rfl ?_
    refine G_ldcw 100000 dr_cX17_run__11 wr_11_91 ?_
    refine G_icmp_le 23 dr_cX17_run__14 (by decide +kernel) (fun hc585761 => ?_) (fun hc585761 => ?_)
    · have r585762 : p585625.toInt ≤ 100000 := gj_le hc585761 (show Int32.toInt 100000 = 100000 by decide)
      have bp585625'' : gB p585625 1 100000 := ⟨by omega, by omega⟩
      refine G_iload_n 1 dr_cX17_run__23 rfl ?_
      refine G_if_eq 37 dr_cX17_run__24 (by decide +kernel) (fun hc585763 => ?_) (fun hc585763 => ?_)
      · have r585764 : p585624.toInt = 0 := gj_eq hc585763 (show Int32.toInt 0 = 0 by decide)
        have bp585624' : gB p585624 0 0 := gB_t0 r585764
        refine G_aload_n 0 dr_cX17_run__37 rfl ?_
        refine Gp_get 9 hm585629 he585686 dr_cX17_run__38 (gk_X17 D I) (Nat.le_of_ble_eq_true rfl) wr_7_83 rfl ?_
        refine G_if_ne 50 dr_cX17_run__41 (by decide +kernel) (fun hc585765 => ?_) (fun hc585765 => ?_)
        · have r585766 : p585633.toInt ≠ 0 := gj_neq hc585765 (show Int32.toInt 0 = 0 by decide)
          have bp585633' : gB p585633 1 1 := gB_t1 bp585633 r585766
          refine G_aload_n 0 dr_cX17_run__50 rfl ?_
          refine G_aload_n 0 dr_cX17_run__51 rfl ?_
          refine G_iload_n 1 dr_cX17_run__52 rfl ?_
          refine G_if_eq 63 dr_cX17_run__53 (by decide +kernel) (fun _ => ?_) (fun hc => absurd (show False by have := gj_neq hc (show Int32.toInt 0 = 0 by decide); omega) not_false)
          refine G_aload_n 0 dr_cX17_run__63 rfl ?_
          refine Gp_get 6 hm585629 he585686 dr_cX17_run__64 (gk_X17 D I) (Nat.le_of_ble_eq_true rfl) wr_7_80 rfl ?_
          refine G_iload_n 2 dr_cX17_run__67 rfl ?_
          have hT585767 : RS D I P585621 F585683 γ el := RS_set hT n585685 htq585623 (by decide) ⟨q585631, q585632, p585633, p585634, p585635, p585636, p585637, p585638, p585639, p585640, p585641, p585642, p585643, 0, p585645, p585646, p585647, he585686, ⟨(gB_w bp585633' (by decide) (by decide)), bp585634, (hB585674.2.2.1), (hB585674.2.2.2.1), (hB585674.2.2.2.2.1), (hB585674.2.2.2.2.2.1), (hB585674.2.2.2.2.2.2.1), bp585645, (hB585674.2.2.2.2.2.2.2.2)⟩, ht585648, ht585649, ht585650, ht585651, ht585652, ht585653, ht585654, ht585655, ht585656, ht585657, ht585658, ht585659, ht585660, ht585661, ht585662, ht585663, ht585664, ht585665, ht585666, ht585667, ht585668, ht585669, ht585670, ht585671, hB585675⟩
          have ac585768 : (fI (F585683 q585623) 9).toInt = p585633.toInt := by rw [he585686]; rfl
          have ac585769 : (fI (F585683 q585623) 10).toInt = p585634.toInt := by rw [he585686]; rfl
          have ac585770 : (fI (F585683 q585623) 32).toInt = p585645.toInt := by rw [he585686]; rfl
          refine Gw_callV (As := [.ref (γ 9 6), .int p585625]) (gV_ok D I) (ct_580388_SpillForgeModel_run l hl0 D I γ el P585621 F585683 q585623 (γ 9 6) p585625 hT585767 htq585623 ht585656 bp585625'' (by have qa0 : Int32.toInt 0 = 0 := (by decide); omega)) dr_cX17_run__68 ⟨wr_11_92, wr_1_14, wr_11_95, by decide, rfl, (Nat.le_of_ble_eq_true rfl), (Nat.le_of_ble_eq_true rfl)⟩ wr_11_94 wr_p_113 hm585629 he585686 rfl (show 0 + 0 ≤ 0 by first | omega | decide) (show 0 + 0 ≤ 0 by first | omega | decide) (Nat.le_of_ble_eq_true rfl) (fun r585774 w585775 dc585771 ds585772 hp585773 => ?_) (fun _ _ _ _ _ z => z.elim)
          obtain ⟨F585780, o585776, rfl, rfl, hT585781, hs585782, hdc, hds, bo585776, x585777, x585778, x585779⟩ := hp585773
          have hs585783 : rStr γ [] F585622 F585780 := rStr_tr hs585687 hs585782
          change G _ _ _ _ _ _ _ (.int o585776 :: _) _ _ _
          refine G_widen (cs' := 0) (sl' := 0) (by omega) (by omega) ?_
          have hm585784 : q585623 ∈ P585621 := RS_m hT585781 htq585623 (by decide)
          refine rk10_e (show rk_10 γ (F585780 q585623) from RS_o hT585781 htq585623) (fun q585786 q585787 p585788 p585789 p585790 p585791 p585792 p585793 p585794 p585795 p585796 p585797 p585798 p585799 p585800 p585801 p585802 he585785 hB585829 ht585803 ht585804 ht585805 ht585806 ht585807 ht585808 ht585809 ht585810 ht585811 ht585812 ht585813 ht585814 ht585815 ht585816 ht585817 ht585818 ht585819 ht585820 ht585821 ht585822 ht585823 ht585824 ht585825 ht585826 hB585830 => ?_)
          have ac585831 : (fI (F585780 q585623) 9).toInt = p585788.toInt := by rw [he585785]; rfl
          have bp585788 : gB p585788 0 1 := (hB585829.1)
          have ac585832 : (fI (F585780 q585623) 10).toInt = p585789.toInt := by rw [he585785]; rfl
          have bp585789 : gB p585789 0 1 := (hB585829.2.1)
          have ac585833 : (fI (F585780 q585623) 32).toInt = p585800.toInt := by rw [he585785]; rfl
          have bp585800 : gB p585800 0 8192 := (hB585829.2.2.2.2.2.2.2.1)
          refine Gp_put 23 hm585784 he585785 dr_cX17_run__71 (gk_X17 D I) (Nat.le_of_ble_eq_true rfl) wr_7_97 rfl rfl rfl (Nat.le_of_ble_eq_true rfl) (fun F585834 e585835 n585836 => ?_)
          have he585837 : F585834 q585623 = .inr (22, [.ref (γ 9 0), .ref (γ 9 1), .ref (γ 9 2), .ref (γ 9 3), .ref (γ 9 4), .ref (γ 9 5), .ref (γ 9 6), .ref (γ 9 7), .ref (γ 9 8), .int p585788, .int p585789, .int p585790, .int p585791, .int p585792, .int p585793, .ref (γ 9 15), .ref (γ 9 16), .ref (γ 9 17), .ref (γ 9 18), .ref (γ 9 19), .ref (γ 9 20), .ref (γ 9 21), .ref (γ 9 22), .int o585776, .int p585795, .int p585796, .int p585797, .int p585798, .ref q585786, .ref (γ 9 29), .int p585799, .ref (γ 9 31), .int p585800, .int p585801, .int p585802, .ref q585787]) := e585835
          have hs585838 : rStr γ [] F585622 F585834 := rStr_put hs585783 n585836 htq585623 (by decide)
          refine G_aload_n 0 dr_cX17_run__74 rfl ?_
          refine Gp_get 23 hm585784 he585837 dr_cX17_run__75 (gk_X17 D I) (Nat.le_of_ble_eq_true rfl) wr_7_97 rfl ?_
          have hT585839 : RS D I P585621 F585834 γ el := RS_set hT585781 n585836 htq585623 (by decide) ⟨q585786, q585787, p585788, p585789, p585790, p585791, p585792, p585793, o585776, p585795, p585796, p585797, p585798, p585799, p585800, p585801, p585802, he585837, ⟨bp585788, bp585789, (hB585829.2.2.1), (hB585829.2.2.2.1), (hB585829.2.2.2.2.1), (hB585829.2.2.2.2.2.1), (hB585829.2.2.2.2.2.2.1), bp585800, (hB585829.2.2.2.2.2.2.2.2)⟩, ht585803, ht585804, ht585805, ht585806, ht585807, ht585808, ht585809, ht585810, ht585811, ht585812, ht585813, ht585814, ht585815, ht585816, ht585817, ht585818, ht585819, ht585820, ht585821, ht585822, ht585823, ht585824, ht585825, ht585826, hB585830⟩
          have ac585840 : (fI (F585834 q585623) 9).toInt = p585788.toInt := by rw [he585837]; rfl
          have ac585841 : (fI (F585834 q585623) 10).toInt = p585789.toInt := by rw [he585837]; rfl
          have ac585842 : (fI (F585834 q585623) 32).toInt = p585800.toInt := by rw [he585837]; rfl
          exact G_iretA dr_cX17_run__78 rfl (Nat.le_of_ble_eq_true rfl) (Nat.le_of_ble_eq_true rfl) ⟨F585834, o585776, rfl, rfl, hT585839, hs585838, (Nat.le_of_ble_eq_true rfl), (Nat.le_of_ble_eq_true rfl), bo585776, (by omega), (by omega), (by omega)⟩
        · have r585843 : p585633.toInt = 0 := gj_eq hc585765 (show Int32.toInt 0 = 0 by decide)
          have bp585633' : gB p585633 0 0 := gB_t0 r585843
          refine G_aload_n 0 dr_cX17_run__44 rfl ?_
          refine G_iconst 2 dr_cX17_run__45 (by decide +kernel) ?_
          have hT585844 : RS D I P585621 F585683 γ el := RS_set hT n585685 htq585623 (by decide) ⟨q585631, q585632, p585633, p585634, p585635, p585636, p585637, p585638, p585639, p585640, p585641, p585642, p585643, 0, p585645, p585646, p585647, he585686, ⟨(gB_w bp585633' (by decide) (by decide)), bp585634, (hB585674.2.2.1), (hB585674.2.2.2.1), (hB585674.2.2.2.2.1), (hB585674.2.2.2.2.2.1), (hB585674.2.2.2.2.2.2.1), bp585645, (hB585674.2.2.2.2.2.2.2.2)⟩, ht585648, ht585649, ht585650, ht585651, ht585652, ht585653, ht585654, ht585655, ht585656, ht585657, ht585658, ht585659, ht585660, ht585661, ht585662, ht585663, ht585664, ht585665, ht585666, ht585667, ht585668, ht585669, ht585670, ht585671, hB585675⟩
          have ac585845 : (fI (F585683 q585623) 9).toInt = p585633.toInt := by rw [he585686]; rfl
          have ac585846 : (fI (F585683 q585623) 10).toInt = p585634.toInt := by rw [he585686]; rfl
          have ac585847 : (fI (F585683 q585623) 32).toInt = p585645.toInt := by rw [he585686]; rfl
          refine Gw_callV (As := [.int 2]) (gV_ok D I) (ct_578755_SpillForgeModel_no l hl0 D I γ el P585621 F585683 q585623 2 hT585844 htq585623) dr_cX17_run__46 ⟨wr_7_191, wr_1_14, wr_7_194, by decide, rfl, (Nat.le_of_ble_eq_true rfl), (Nat.le_of_ble_eq_true rfl)⟩ wr_7_193 wr_p_73 hm585629 he585686 rfl (show 0 + 0 ≤ 0 by first | omega | decide) (show 0 + 0 ≤ 0 by first | omega | decide) (Nat.le_of_ble_eq_true rfl) (fun r585851 w585852 dc585848 ds585849 hp585850 => ?_) (fun _ _ _ _ _ z => z.elim)
          obtain ⟨F585857, rfl, rfl, hT585858, hs585859, hdc, hds, x585853, x585854, x585855, x585856⟩ := hp585850
          have hs585860 : rStr γ [] F585622 F585857 := rStr_tr hs585687 hs585859
          rw [show Int32.toInt 2 = 2 from by decide] at x585856
          change G _ _ _ _ _ _ _ (.int 0 :: _) _ _ _
          refine G_widen (cs' := 0) (sl' := 0) (by omega) (by omega) ?_
          have hm585861 : q585623 ∈ P585621 := RS_m hT585858 htq585623 (by decide)
          refine rk10_e (show rk_10 γ (F585857 q585623) from RS_o hT585858 htq585623) (fun q585863 q585864 p585865 p585866 p585867 p585868 p585869 p585870 p585871 p585872 p585873 p585874 p585875 p585876 p585877 p585878 p585879 he585862 hB585906 ht585880 ht585881 ht585882 ht585883 ht585884 ht585885 ht585886 ht585887 ht585888 ht585889 ht585890 ht585891 ht585892 ht585893 ht585894 ht585895 ht585896 ht585897 ht585898 ht585899 ht585900 ht585901 ht585902 ht585903 hB585907 => ?_)
          have ac585908 : (fI (F585857 q585623) 9).toInt = p585865.toInt := by rw [he585862]; rfl
          have bp585865 : gB p585865 0 1 := (hB585906.1)
          have ac585909 : (fI (F585857 q585623) 10).toInt = p585866.toInt := by rw [he585862]; rfl
          have bp585866 : gB p585866 0 1 := (hB585906.2.1)
          have ac585910 : (fI (F585857 q585623) 32).toInt = p585877.toInt := by rw [he585862]; rfl
          have bp585877 : gB p585877 0 8192 := (hB585906.2.2.2.2.2.2.2.1)
          have ac585911 : (fI (F585857 q585623) 9).toInt = p585865.toInt := by rw [he585862]; rfl
          have ac585912 : (fI (F585857 q585623) 10).toInt = p585866.toInt := by rw [he585862]; rfl
          have ac585913 : (fI (F585857 q585623) 32).toInt = p585877.toInt := by rw [he585862]; rfl
          exact G_iretA dr_cX17_run__49 rfl (Nat.le_of_ble_eq_true rfl) (Nat.le_of_ble_eq_true rfl) ⟨F585857, 0, rfl, rfl, hT585858, hs585860, (Nat.le_of_ble_eq_true rfl), (Nat.le_of_ble_eq_true rfl), (gB_w (gBl (show Int32.toInt 0 = 0 by decide)) (by decide) (by decide)), (by have qa0 : Int32.toInt 0 = 0 := (by decide); omega), (by have qa0 : Int32.toInt 0 = 0 := (by decide); omega), (by have qa0 : Int32.toInt 0 = 0 := (by decide); omega)⟩
      · have r585914 : p585624.toInt ≠ 0 := gj_neq hc585763 (show Int32.toInt 0 = 0 by decide)
        have bp585624' : gB p585624 1 1 := gB_t1 bp585624 r585914
        refine G_aload_n 0 dr_cX17_run__27 rfl ?_
        refine Gp_get 10 hm585629 he585686 dr_cX17_run__28 (gk_X17 D I) (Nat.le_of_ble_eq_true rfl) wr_7_84 rfl ?_
        refine G_if_ne 50 dr_cX17_run__31 (by decide +kernel) (fun hc585915 => ?_) (fun hc585915 => ?_)
        · have r585916 : p585634.toInt ≠ 0 := gj_neq hc585915 (show Int32.toInt 0 = 0 by decide)
          have bp585634' : gB p585634 1 1 := gB_t1 bp585634 r585916
          refine G_aload_n 0 dr_cX17_run__50 rfl ?_
          refine G_aload_n 0 dr_cX17_run__51 rfl ?_
          refine G_iload_n 1 dr_cX17_run__52 rfl ?_
          refine G_if_eq 63 dr_cX17_run__53 (by decide +kernel) (fun hc => absurd (show False by have := gj_eq hc (show Int32.toInt 0 = 0 by decide); omega) not_false) (fun _ => ?_)
          refine G_aload_n 0 dr_cX17_run__56 rfl ?_
          refine Gp_get 7 hm585629 he585686 dr_cX17_run__57 (gk_X17 D I) (Nat.le_of_ble_eq_true rfl) wr_7_81 rfl ?_
          refine G_goto 67 dr_cX17_run__60 (by decide +kernel) ?_
          refine G_iload_n 2 dr_cX17_run__67 rfl ?_
          have hT585917 : RS D I P585621 F585683 γ el := RS_set hT n585685 htq585623 (by decide) ⟨q585631, q585632, p585633, p585634, p585635, p585636, p585637, p585638, p585639, p585640, p585641, p585642, p585643, 0, p585645, p585646, p585647, he585686, ⟨bp585633, (gB_w bp585634' (by decide) (by decide)), (hB585674.2.2.1), (hB585674.2.2.2.1), (hB585674.2.2.2.2.1), (hB585674.2.2.2.2.2.1), (hB585674.2.2.2.2.2.2.1), bp585645, (hB585674.2.2.2.2.2.2.2.2)⟩, ht585648, ht585649, ht585650, ht585651, ht585652, ht585653, ht585654, ht585655, ht585656, ht585657, ht585658, ht585659, ht585660, ht585661, ht585662, ht585663, ht585664, ht585665, ht585666, ht585667, ht585668, ht585669, ht585670, ht585671, hB585675⟩
          have ac585918 : (fI (F585683 q585623) 9).toInt = p585633.toInt := by rw [he585686]; rfl
          have ac585919 : (fI (F585683 q585623) 10).toInt = p585634.toInt := by rw [he585686]; rfl
          have ac585920 : (fI (F585683 q585623) 32).toInt = p585645.toInt := by rw [he585686]; rfl
          refine Gw_callV (As := [.ref (γ 9 7), .int p585625]) (gV_ok D I) (ct_580388_SpillForgeModel_run l hl0 D I γ el P585621 F585683 q585623 (γ 9 7) p585625 hT585917 htq585623 ht585657 bp585625'' (by have qa0 : Int32.toInt 0 = 0 := (by decide); omega)) dr_cX17_run__68 ⟨wr_11_92, wr_1_14, wr_11_95, by decide, rfl, (Nat.le_of_ble_eq_true rfl), (Nat.le_of_ble_eq_true rfl)⟩ wr_11_94 wr_p_113 hm585629 he585686 rfl (show 0 + 0 ≤ 0 by first | omega | decide) (show 0 + 0 ≤ 0 by first | omega | decide) (Nat.le_of_ble_eq_true rfl) (fun r585924 w585925 dc585921 ds585922 hp585923 => ?_) (fun _ _ _ _ _ z => z.elim)
          obtain ⟨F585930, o585926, rfl, rfl, hT585931, hs585932, hdc, hds, bo585926, x585927, x585928, x585929⟩ := hp585923
          have hs585933 : rStr γ [] F585622 F585930 := rStr_tr hs585687 hs585932
          change G _ _ _ _ _ _ _ (.int o585926 :: _) _ _ _
          refine G_widen (cs' := 0) (sl' := 0) (by omega) (by omega) ?_
          have hm585934 : q585623 ∈ P585621 := RS_m hT585931 htq585623 (by decide)
          refine rk10_e (show rk_10 γ (F585930 q585623) from RS_o hT585931 htq585623) (fun q585936 q585937 p585938 p585939 p585940 p585941 p585942 p585943 p585944 p585945 p585946 p585947 p585948 p585949 p585950 p585951 p585952 he585935 hB585979 ht585953 ht585954 ht585955 ht585956 ht585957 ht585958 ht585959 ht585960 ht585961 ht585962 ht585963 ht585964 ht585965 ht585966 ht585967 ht585968 ht585969 ht585970 ht585971 ht585972 ht585973 ht585974 ht585975 ht585976 hB585980 => ?_)
          have ac585981 : (fI (F585930 q585623) 9).toInt = p585938.toInt := by rw [he585935]; rfl
          have bp585938 : gB p585938 0 1 := (hB585979.1)
          have ac585982 : (fI (F585930 q585623) 10).toInt = p585939.toInt := by rw [he585935]; rfl
          have bp585939 : gB p585939 0 1 := (hB585979.2.1)
          have ac585983 : (fI (F585930 q585623) 32).toInt = p585950.toInt := by rw [he585935]; rfl
          have bp585950 : gB p585950 0 8192 := (hB585979.2.2.2.2.2.2.2.1)
          refine Gp_put 23 hm585934 he585935 dr_cX17_run__71 (gk_X17 D I) (Nat.le_of_ble_eq_true rfl) wr_7_97 rfl rfl rfl (Nat.le_of_ble_eq_true rfl) (fun F585984 e585985 n585986 => ?_)
          have he585987 : F585984 q585623 = .inr (22, [.ref (γ 9 0), .ref (γ 9 1), .ref (γ 9 2), .ref (γ 9 3), .ref (γ 9 4), .ref (γ 9 5), .ref (γ 9 6), .ref (γ 9 7), .ref (γ 9 8), .int p585938, .int p585939, .int p585940, .int p585941, .int p585942, .int p585943, .ref (γ 9 15), .ref (γ 9 16), .ref (γ 9 17), .ref (γ 9 18), .ref (γ 9 19), .ref (γ 9 20), .ref (γ 9 21), .ref (γ 9 22), .int o585926, .int p585945, .int p585946, .int p585947, .int p585948, .ref q585936, .ref (γ 9 29), .int p585949, .ref (γ 9 31), .int p585950, .int p585951, .int p585952, .ref q585937]) := e585985
          have hs585988 : rStr γ [] F585622 F585984 := rStr_put hs585933 n585986 htq585623 (by decide)
          refine G_aload_n 0 dr_cX17_run__74 rfl ?_
          refine Gp_get 23 hm585934 he585987 dr_cX17_run__75 (gk_X17 D I) (Nat.le_of_ble_eq_true rfl) wr_7_97 rfl ?_
          have hT585989 : RS D I P585621 F585984 γ el := RS_set hT585931 n585986 htq585623 (by decide) ⟨q585936, q585937, p585938, p585939, p585940, p585941, p585942, p585943, o585926, p585945, p585946, p585947, p585948, p585949, p585950, p585951, p585952, he585987, ⟨bp585938, bp585939, (hB585979.2.2.1), (hB585979.2.2.2.1), (hB585979.2.2.2.2.1), (hB585979.2.2.2.2.2.1), (hB585979.2.2.2.2.2.2.1), bp585950, (hB585979.2.2.2.2.2.2.2.2)⟩, ht585953, ht585954, ht585955, ht585956, ht585957, ht585958, ht585959, ht585960, ht585961, ht585962, ht585963, ht585964, ht585965, ht585966, ht585967, ht585968, ht585969, ht585970, ht585971, ht585972, ht585973, ht585974, ht585975, ht585976, hB585980⟩
          have ac585990 : (fI (F585984 q585623) 9).toInt = p585938.toInt := by rw [he585987]; rfl
          have ac585991 : (fI (F585984 q585623) 10).toInt = p585939.toInt := by rw [he585987]; rfl
          have ac585992 : (fI (F585984 q585623) 32).toInt = p585950.toInt := by rw [he585987]; rfl
          exact G_iretA dr_cX17_run__78 rfl (Nat.le_of_ble_eq_true rfl) (Nat.le_of_ble_eq_true rfl) ⟨F585984, o585926, rfl, rfl, hT585989, hs585988, (Nat.le_of_ble_eq_true rfl), (Nat.le_of_ble_eq_true rfl), bo585926, (by omega), (by omega), (by omega)⟩
        · have r585993 : p585634.toInt = 0 := gj_eq hc585915 (show Int32.toInt 0 = 0 by decide)
          have bp585634' : gB p585634 0 0 := gB_t0 r585993
          refine G_goto 44 dr_cX17_run__34 (by decide +kernel) ?_
          refine G_aload_n 0 dr_cX17_run__44 rfl ?_
          refine G_iconst 2 dr_cX17_run__45 (by decide +kernel) ?_
          have hT585994 : RS D I P585621 F585683 γ el := RS_set hT n585685 htq585623 (by decide) ⟨q585631, q585632, p585633, p585634, p585635, p585636, p585637, p585638, p585639, p585640, p585641, p585642, p585643, 0, p585645, p585646, p585647, he585686, ⟨bp585633, (gB_w bp585634' (by decide) (by decide)), (hB585674.2.2.1), (hB585674.2.2.2.1), (hB585674.2.2.2.2.1), (hB585674.2.2.2.2.2.1), (hB585674.2.2.2.2.2.2.1), bp585645, (hB585674.2.2.2.2.2.2.2.2)⟩, ht585648, ht585649, ht585650, ht585651, ht585652, ht585653, ht585654, ht585655, ht585656, ht585657, ht585658, ht585659, ht585660, ht585661, ht585662, ht585663, ht585664, ht585665, ht585666, ht585667, ht585668, ht585669, ht585670, ht585671, hB585675⟩
          have ac585995 : (fI (F585683 q585623) 9).toInt = p585633.toInt := by rw [he585686]; rfl
          have ac585996 : (fI (F585683 q585623) 10).toInt = p585634.toInt := by rw [he585686]; rfl
          have ac585997 : (fI (F585683 q585623) 32).toInt = p585645.toInt := by rw [he585686]; rfl
          refine Gw_callV (As := [.int 2]) (gV_ok D I) (ct_578755_SpillForgeModel_no l hl0 D I γ el P585621 F585683 q585623 2 hT585994 htq585623) dr_cX17_run__46 ⟨wr_7_191, wr_1_14, wr_7_194, by decide, rfl, (Nat.le_of_ble_eq_true rfl), (Nat.le_of_ble_eq_true rfl)⟩ wr_7_193 wr_p_73 hm585629 he585686 rfl (show 0 + 0 ≤ 0 by first | omega | decide) (show 0 + 0 ≤ 0 by first | omega | decide) (Nat.le_of_ble_eq_true rfl) (fun r586001 w586002 dc585998 ds585999 hp586000 => ?_) (fun _ _ _ _ _ z => z.elim)
          obtain ⟨F586007, rfl, rfl, hT586008, hs586009, hdc, hds, x586003, x586004, x586005, x586006⟩ := hp586000
          have hs586010 : rStr γ [] F585622 F586007 := rStr_tr hs585687 hs586009
          rw [show Int32.toInt 2 = 2 from by decide] at x586006
          change G _ _ _ _ _ _ _ (.int 0 :: _) _ _ _
          refine G_widen (cs' := 0) (sl' := 0) (by omega) (by omega) ?_
          have hm586011 : q585623 ∈ P585621 := RS_m hT586008 htq585623 (by decide)
          refine rk10_e (show rk_10 γ (F586007 q585623) from RS_o hT586008 htq585623) (fun q586013 q586014 p586015 p586016 p586017 p586018 p586019 p586020 p586021 p586022 p586023 p586024 p586025 p586026 p586027 p586028 p586029 he586012 hB586056 ht586030 ht586031 ht586032 ht586033 ht586034 ht586035 ht586036 ht586037 ht586038 ht586039 ht586040 ht586041 ht586042 ht586043 ht586044 ht586045 ht586046 ht586047 ht586048 ht586049 ht586050 ht586051 ht586052 ht586053 hB586057 => ?_)
          have ac586058 : (fI (F586007 q585623) 9).toInt = p586015.toInt := by rw [he586012]; rfl
          have bp586015 : gB p586015 0 1 := (hB586056.1)
          have ac586059 : (fI (F586007 q585623) 10).toInt = p586016.toInt := by rw [he586012]; rfl
          have bp586016 : gB p586016 0 1 := (hB586056.2.1)
          have ac586060 : (fI (F586007 q585623) 32).toInt = p586027.toInt := by rw [he586012]; rfl
          have bp586027 : gB p586027 0 8192 := (hB586056.2.2.2.2.2.2.2.1)
          have ac586061 : (fI (F586007 q585623) 9).toInt = p586015.toInt := by rw [he586012]; rfl
          have ac586062 : (fI (F586007 q585623) 10).toInt = p586016.toInt := by rw [he586012]; rfl
          have ac586063 : (fI (F586007 q585623) 32).toInt = p586027.toInt := by rw [he586012]; rfl
          exact G_iretA dr_cX17_run__49 rfl (Nat.le_of_ble_eq_true rfl) (Nat.le_of_ble_eq_true rfl) ⟨F586007, 0, rfl, rfl, hT586008, hs586010, (Nat.le_of_ble_eq_true rfl), (Nat.le_of_ble_eq_true rfl), (gB_w (gBl (show Int32.toInt 0 = 0 by decide)) (by decide) (by decide)), (by have qa0 : Int32.toInt 0 = 0 := (by decide); omega), (by have qa0 : Int32.toInt 0 = 0 := (by decide); omega), (by have qa0 : Int32.toInt 0 = 0 := (by decide); omega)⟩
    · have r586064 : 100000 < p585625.toInt := gj_nle hc585761 (show Int32.toInt 100000 = 100000 by decide)
      have bp585625'' : gB p585625 100001 2147483647 := ⟨by omega, by omega⟩
      refine G_aload_n 0 dr_cX17_run__17 rfl ?_
      refine G_iconst 1 dr_cX17_run__18 (by decide +kernel) ?_
      have hT586065 : RS D I P585621 F585683 γ el := RS_set hT n585685 htq585623 (by decide) ⟨q585631, q585632, p585633, p585634, p585635, p585636, p585637, p585638, p585639, p585640, p585641, p585642, p585643, 0, p585645, p585646, p585647, he585686, ⟨bp585633, bp585634, (hB585674.2.2.1), (hB585674.2.2.2.1), (hB585674.2.2.2.2.1), (hB585674.2.2.2.2.2.1), (hB585674.2.2.2.2.2.2.1), bp585645, (hB585674.2.2.2.2.2.2.2.2)⟩, ht585648, ht585649, ht585650, ht585651, ht585652, ht585653, ht585654, ht585655, ht585656, ht585657, ht585658, ht585659, ht585660, ht585661, ht585662, ht585663, ht585664, ht585665, ht585666, ht585667, ht585668, ht585669, ht585670, ht585671, hB585675⟩
      have ac586066 : (fI (F585683 q585623) 9).toInt = p585633.toInt := by rw [he585686]; rfl
      have ac586067 : (fI (F585683 q585623) 10).toInt = p585634.toInt := by rw [he585686]; rfl
      have ac586068 : (fI (F585683 q585623) 32).toInt = p585645.toInt := by rw [he585686]; rfl
      refine Gw_callV (As := [.int 1]) (gV_ok D I) (ct_578755_SpillForgeModel_no l hl0 D I γ el P585621 F585683 q585623 1 hT586065 htq585623) dr_cX17_run__19 ⟨wr_7_191, wr_1_14, wr_7_194, by decide, rfl, (Nat.le_of_ble_eq_true rfl), (Nat.le_of_ble_eq_true rfl)⟩ wr_7_193 wr_p_73 hm585629 he585686 rfl (show 0 + 0 ≤ 0 by first | omega | decide) (show 0 + 0 ≤ 0 by first | omega | decide) (Nat.le_of_ble_eq_true rfl) (fun r586072 w586073 dc586069 ds586070 hp586071 => ?_) (fun _ _ _ _ _ z => z.elim)
      obtain ⟨F586078, rfl, rfl, hT586079, hs586080, hdc, hds, x586074, x586075, x586076, x586077⟩ := hp586071
      have hs586081 : rStr γ [] F585622 F586078 := rStr_tr hs585687 hs586080
      rw [show Int32.toInt 1 = 1 from by decide] at x586077
      change G _ _ _ _ _ _ _ (.int 0 :: _) _ _ _
      refine G_widen (cs' := 0) (sl' := 0) (by omega) (by omega) ?_
      have hm586082 : q585623 ∈ P585621 := RS_m hT586079 htq585623 (by decide)
      refine rk10_e (show rk_10 γ (F586078 q585623) from RS_o hT586079 htq585623) (fun q586084 q586085 p586086 p586087 p586088 p586089 p586090 p586091 p586092 p586093 p586094 p586095 p586096 p586097 p586098 p586099 p586100 he586083 hB586127 ht586101 ht586102 ht586103 ht586104 ht586105 ht586106 ht586107 ht586108 ht586109 ht586110 ht586111 ht586112 ht586113 ht586114 ht586115 ht586116 ht586117 ht586118 ht586119 ht586120 ht586121 ht586122 ht586123 ht586124 hB586128 => ?_)
      have ac586129 : (fI (F586078 q585623) 9).toInt = p586086.toInt := by rw [he586083]; rfl
      have bp586086 : gB p586086 0 1 := (hB586127.1)
      have ac586130 : (fI (F586078 q585623) 10).toInt = p586087.toInt := by rw [he586083]; rfl
      have bp586087 : gB p586087 0 1 := (hB586127.2.1)
      have ac586131 : (fI (F586078 q585623) 32).toInt = p586098.toInt := by rw [he586083]; rfl
      have bp586098 : gB p586098 0 8192 := (hB586127.2.2.2.2.2.2.2.1)
      have ac586132 : (fI (F586078 q585623) 9).toInt = p586086.toInt := by rw [he586083]; rfl
      have ac586133 : (fI (F586078 q585623) 10).toInt = p586087.toInt := by rw [he586083]; rfl
      have ac586134 : (fI (F586078 q585623) 32).toInt = p586098.toInt := by rw [he586083]; rfl
      exact G_iretA dr_cX17_run__22 rfl (Nat.le_of_ble_eq_true rfl) (Nat.le_of_ble_eq_true rfl) ⟨F586078, 0, rfl, rfl, hT586079, hs586081, (Nat.le_of_ble_eq_true rfl), (Nat.le_of_ble_eq_true rfl), (gB_w (gBl (show Int32.toInt 0 = 0 by decide)) (by decide) (by decide)), (by have qa0 : Int32.toInt 0 = 0 := (by decide); omega), (by have qa0 : Int32.toInt 0 = 0 := (by decide); omega), (by have qa0 : Int32.toInt 0 = 0 := (by decide); omega)⟩
