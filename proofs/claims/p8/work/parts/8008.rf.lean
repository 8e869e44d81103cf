theorem dr_cX17_run__0 : decode cX17_run_ 0 = .ok (.aload_n 0, 1) := by decide +kernel
theorem dr_cX17_run__1 : decode cX17_run_ 1 = .ok (.iconst 0, 1) := by decide +kernel
theorem dr_cX17_run__2 : decode cX17_run_ 2 = .ok (.putfield 380, 3) := by decide +kernel
theorem dr_cX17_run__5 : decode cX17_run_ 5 = .ok (.iload_n 2, 1) := by decide +kernel
theorem dr_cX17_run__6 : decode cX17_run_ 6 = .ok (.iconst 1, 1) := by decide +kernel
theorem dr_cX17_run__7 : decode cX17_run_ 7 = .ok (.if_icmp .lt 10, 3) := by decide +kernel
theorem dr_cX17_run__17 : decode cX17_run_ 17 = .ok (.aload_n 0, 1) := by decide +kernel
theorem dr_cX17_run__18 : decode cX17_run_ 18 = .ok (.iconst 1, 1) := by decide +kernel
theorem dr_cX17_run__19 : decode cX17_run_ 19 = .ok (.invokevirtual 385, 3) := by decide +kernel
theorem dr_cX17_run__22 : decode cX17_run_ 22 = .ok (.ireturn, 1) := by decide +kernel
theorem dr_cX17_run__10 : decode cX17_run_ 10 = .ok (.iload_n 2, 1) := by decide +kernel
theorem dr_cX17_run__11 : decode cX17_run_ 11 = .ok (.ldc_w 434, 3) := by decide +kernel
theorem wr_11_91 : (Jvm.Cond.constant "SpillForgeModel" (434 : Nat) (100000 : Int32)) ∈ gw := gw_11 91 rfl rfl
theorem dr_cX17_run__14 : decode cX17_run_ 14 = .ok (.if_icmp .le 9, 3) := by decide +kernel
theorem dr_cX17_run__23 : decode cX17_run_ 23 = .ok (.iload_n 1, 1) := by decide +kernel
theorem dr_cX17_run__24 : decode cX17_run_ 24 = .ok (.ifCond .eq 13, 3) := by decide +kernel
theorem dr_cX17_run__37 : decode cX17_run_ 37 = .ok (.aload_n 0, 1) := by decide +kernel
theorem dr_cX17_run__38 : decode cX17_run_ 38 = .ok (.getfield 414, 3) := by decide +kernel
theorem wr_7_83 : (Jvm.Cond.fieldLink "SpillForgeModel" (414 : Nat) "SpillForgeModel" "program" "Z") ∈ gw := gw_7 83 rfl rfl
theorem dr_cX17_run__41 : decode cX17_run_ 41 = .ok (.ifCond .ne 9, 3) := by decide +kernel
theorem dr_cX17_run__50 : decode cX17_run_ 50 = .ok (.aload_n 0, 1) := by decide +kernel
theorem dr_cX17_run__51 : decode cX17_run_ 51 = .ok (.aload_n 0, 1) := by decide +kernel
theorem dr_cX17_run__52 : decode cX17_run_ 52 = .ok (.iload_n 1, 1) := by decide +kernel
theorem dr_cX17_run__53 : decode cX17_run_ 53 = .ok (.ifCond .eq 10, 3) := by decide +kernel
theorem dr_cX17_run__63 : decode cX17_run_ 63 = .ok (.aload_n 0, 1) := by decide +kernel
theorem dr_cX17_run__64 : decode cX17_run_ 64 = .ok (.getfield 361, 3) := by decide +kernel
theorem wr_7_80 : (Jvm.Cond.fieldLink "SpillForgeModel" (361 : Nat) "SpillForgeModel" "code" "LSpillForgeModel$Code;") ∈ gw := gw_7 80 rfl rfl
theorem dr_cX17_run__67 : decode cX17_run_ 67 = .ok (.iload_n 2, 1) := by decide +kernel
theorem dr_cX17_run__68 : decode cX17_run_ 68 = .ok (.invokevirtual 435, 3) := by decide +kernel
theorem wr_11_92 : (Jvm.Cond.methodLink "SpillForgeModel" (435 : Nat) ({ cls := "SpillForgeModel", name := "run", desc := "(LSpillForgeModel$Code;I)I" } : Jvm.MethodName)) ∈ gw := gw_11 92 rfl rfl
theorem wr_11_95 : (Jvm.Cond.code ({ cls := "SpillForgeModel", name := "run", desc := "(LSpillForgeModel$Code;I)I" } : Jvm.MethodName) prog_14_method_29_code (7 : Nat) (Option.some Jvm.ClassFile.FieldType.int)) ∈ gw := gw_11 95 rfl rfl
theorem wr_11_94 : (Jvm.Cond.instanceMethod ({ cls := "SpillForgeModel", name := "run", desc := "(LSpillForgeModel$Code;I)I" } : Jvm.MethodName)) ∈ gw := gw_11 94 rfl rfl
theorem wr_p_113 : Cond.selects "SpillForgeModel" ⟨"SpillForgeModel", "run", "(LSpillForgeModel$Code;I)I"⟩ ⟨"SpillForgeModel", "run", "(LSpillForgeModel$Code;I)I"⟩ ∈ gw := gw_p _ 113 rfl rfl rfl
theorem dr_cX17_run__71 : decode cX17_run_ 71 = .ok (.putfield 371, 3) := by decide +kernel
theorem dr_cX17_run__74 : decode cX17_run_ 74 = .ok (.aload_n 0, 1) := by decide +kernel
theorem dr_cX17_run__75 : decode cX17_run_ 75 = .ok (.getfield 371, 3) := by decide +kernel
theorem dr_cX17_run__78 : decode cX17_run_ 78 = .ok (.ireturn, 1) := by decide +kernel
theorem dr_cX17_run__44 : decode cX17_run_ 44 = .ok (.aload_n 0, 1) := by decide +kernel
theorem dr_cX17_run__45 : decode cX17_run_ 45 = .ok (.iconst 2, 1) := by decide +kernel
theorem dr_cX17_run__46 : decode cX17_run_ 46 = .ok (.invokevirtual 385, 3) := by decide +kernel
theorem dr_cX17_run__49 : decode cX17_run_ 49 = .ok (.ireturn, 1) := by decide +kernel
theorem dr_cX17_run__27 : decode cX17_run_ 27 = .ok (.aload_n 0, 1) := by decide +kernel
theorem dr_cX17_run__28 : decode cX17_run_ 28 = .ok (.getfield 416, 3) := by decide +kernel
theorem wr_7_84 : (Jvm.Cond.fieldLink "SpillForgeModel" (416 : Nat) "SpillForgeModel" "isGiven" "Z") ∈ gw := gw_7 84 rfl rfl
theorem dr_cX17_run__31 : decode cX17_run_ 31 = .ok (.ifCond .ne 19, 3) := by decide +kernel
theorem dr_cX17_run__56 : decode cX17_run_ 56 = .ok (.aload_n 0, 1) := by decide +kernel
theorem dr_cX17_run__57 : decode cX17_run_ 57 = .ok (.getfield 365, 3) := by decide +kernel
theorem wr_7_81 : (Jvm.Cond.fieldLink "SpillForgeModel" (365 : Nat) "SpillForgeModel" "given" "LSpillForgeModel$Code;") ∈ gw := gw_7 81 rfl rfl
theorem dr_cX17_run__60 : decode cX17_run_ 60 = .ok (.goto 7, 3) := by decide +kernel
theorem dr_cX17_run__34 : decode cX17_run_ 34 = .ok (.goto 10, 3) := by decide +kernel
abbrev ky_582323_SpillForgeModel_run : gKey := (cX17_run, 7, "SpillForgeModel", (some FieldType.int), [], "run", fun _ _ => True)
def pt_582323_SpillForgeModel_run (D : va_G) (I : FieldType → ClassId) (γ el : Nat → Nat → Nat) (P582317 : List Nat) (F582318 : Nat → va_E) (q582319 : Nat) (q582320 : Nat) (p582321 : Int32) : Option Value → va_W → Nat → Nat → Prop := fun r w dc ds => ∃ (F587555 : Nat → va_E) (o587554 : Int32), r = some (.int o587554) ∧ w = va_pl P582317 F587555 ∧ RS D I P582317 F587555 γ el ∧ rStr γ [] F582318 F587555 ∧ dc ≤ 0 ∧ ds ≤ 0 ∧ gB o587554 0 5 ∧ (fI (F587555 q582319) 9).toInt = (fI (F582318 q582319) 9).toInt ∧ (fI (F587555 q582319) 10).toInt = (fI (F582318 q582319) 10).toInt ∧ (fI (F587555 q582319) 32).toInt = (fI (F582318 q582319) 32).toInt
set_option maxRecDepth 100000 in
set_option maxHeartbeats 4000000 in
theorem ct_582323_SpillForgeModel_run (l : Launch) (hl0 : l.stackTraces = false) (D : va_G) (I : FieldType → ClassId) (γ el : Nat → Nat → Nat) (P582317 : List Nat) (F582318 : Nat → va_E) (q582319 : Nat) (q582320 : Nat) (p582321 : Int32) (hT : RS D I P582317 F582318 γ el) (htq582319 : rKd γ q582319 10) (htq582320 : rKd γ q582320 9) (bp582321 : gB p582321 1 100000) (x582322 : 0 < γ 6 (γ 1 q582320)) : CtA (gV D I) l yX17_run cX17_run 7 (some FieldType.int) 4 85 0 0 [.ref q582319, .ref q582320, .int p582321] (va_pl P582317 F582318) (pt_582323_SpillForgeModel_run D I γ el P582317 F582318 q582319 q582320 p582321) gNA := by
  refine CtA_of hl0 (by decide) (Nat.le_of_ble_eq_true rfl) ?_
  have hm582324 : q582319 ∈ P582317 := RS_m hT htq582319 (by decide)
  refine rk10_e (show rk_10 γ (F582318 q582319) from RS_o hT htq582319) (fun q582326 q582327 p582328 p582329 p582330 p582331 p582332 p582333 p582334 p582335 p582336 p582337 p582338 p582339 p582340 p582341 p582342 he582325 hB582369 ht582343 ht582344 ht582345 ht582346 ht582347 ht582348 ht582349 ht582350 ht582351 ht582352 ht582353 ht582354 ht582355 ht582356 ht582357 ht582358 ht582359 ht582360 ht582361 ht582362 ht582363 ht582364 ht582365 ht582366 hB582370 => ?_)
  have ac582371 : (fI (F582318 q582319) 26).toInt = p582337.toInt := by rw [he582325]; rfl
  have bp582337 : gB p582337 0 100000 := (hB582369.2.2.2.2.2.1)
  have ac582372 : (fI (F582318 q582319) 9).toInt = p582328.toInt := by rw [he582325]; rfl
  have bp582328 : gB p582328 0 1 := (hB582369.1)
  have ac582373 : (fI (F582318 q582319) 10).toInt = p582329.toInt := by rw [he582325]; rfl
  have bp582329 : gB p582329 0 1 := (hB582369.2.1)
  have ac582374 : (fI (F582318 q582319) 32).toInt = p582340.toInt := by rw [he582325]; rfl
  have bp582340 : gB p582340 0 8192 := (hB582369.2.2.2.2.2.2.2.1)
  refine G_iconst 0 dr_cX17_run_0 (by decide +kernel) ?_
  refine G_istore_n (L' := [(3, .int 0), (0, .ref q582319), (1, .ref q582320), (2, .int p582321)]) dr_cX17_run_1 (Nat.le_of_ble_eq_true rfl) rfl ?_
  have hlp2_586673 : ∀ (n2_586673 : Nat) (F586668 : Nat → va_E) (g586667 : Int32), gB g586667 0 2000 → RS D I P582317 F586668 γ el → rStr γ [] F582318 F586668 → (fI (F586668 q582319) 9).toInt = (fI (F582318 q582319) 9).toInt → (fI (F586668 q582319) 10).toInt = (fI (F582318 q582319) 10).toInt → (fI (F586668 q582319) 32).toInt = (fI (F582318 q582319) 32).toInt → ((2001 : Int) - g586667.toInt).toNat < n2_586673 → G (gV D I) l (gRm 4 85 0 0) (gMA (gV D I) (pt_582323_SpillForgeModel_run D I γ el P582317 F582318 q582319 q582320 p582321) gNA 0 0) ky_582323_SpillForgeModel_run 2 [(3, .int g586667), (0, .ref q582319), (1, .ref q582320), (2, .int p582321)] [] (va_pl P582317 F586668) 0 0 := by
    intro n2_586673
    induction n2_586673 with
    | zero => intro F586668 g586667 bg586667 hT586669 hs586670 x586671 x586672 x586673 hm2_586673; exact absurd hm2_586673 (Nat.not_lt_zero _)
    | succ n2_586673 ih2_586673 =>
      intro F586668 g586667 bg586667 hT586669 hs586670 x586671 x586672 x586673 hm2_586673
      have hs586675 : rStr γ [] F582318 F586668 := fun b h0 hb hw => (hs586670 b h0 hb hw).trans ((rStr_rf (γ := γ) (W := []) (F := F582318)) b h0 hb hw).symm
      have hs586676 : rStr γ [] F582318 F586668 := rStr_tr (rStr_rf (γ := γ) (W := []) (F := F582318)) hs586675
      have hm586677 : q582319 ∈ P582317 := RS_m hT586669 htq582319 (by decide)
      refine rk10_e (show rk_10 γ (F586668 q582319) from RS_o hT586669 htq582319) (fun q586679 q586680 p586681 p586682 p586683 p586684 p586685 p586686 p586687 p586688 p586689 p586690 p586691 p586692 p586693 p586694 p586695 he586678 hB586722 ht586696 ht586697 ht586698 ht586699 ht586700 ht586701 ht586702 ht586703 ht586704 ht586705 ht586706 ht586707 ht586708 ht586709 ht586710 ht586711 ht586712 ht586713 ht586714 ht586715 ht586716 ht586717 ht586718 ht586719 hB586723 => ?_)
      have ac586724 : (fI (F586668 q582319) 26).toInt = p586690.toInt := by rw [he586678]; rfl
      have bp586690 : gB p586690 0 100000 := (hB586722.2.2.2.2.2.1)
      have ac586725 : (fI (F586668 q582319) 9).toInt = p586681.toInt := by rw [he586678]; rfl
      have bp586681 : gB p586681 0 1 := (hB586722.1)
      have ac586726 : (fI (F586668 q582319) 10).toInt = p586682.toInt := by rw [he586678]; rfl
      have bp586682 : gB p586682 0 1 := (hB586722.2.1)
      have ac586727 : (fI (F586668 q582319) 32).toInt = p586693.toInt := by rw [he586678]; rfl
      have bp586693 : gB p586693 0 8192 := (hB586722.2.2.2.2.2.2.2.1)
      have ac586728 : (fI (F586668 q582319) 26).toInt = p586690.toInt := by rw [he586678]; rfl
      have ac586729 : (fI (F586668 q582319) 9).toInt = p586681.toInt := by rw [he586678]; rfl
      have ac586730 : (fI (F586668 q582319) 10).toInt = p586682.toInt := by rw [he586678]; rfl
      have ac586731 : (fI (F586668 q582319) 32).toInt = p586693.toInt := by rw [he586678]; rfl
      refine G_iload_n 0 dr_cX17_run_2 rfl ?_
      refine G_sipush 2000 dr_cX17_run_3 (by decide +kernel) ?_
      refine G_icmp_ge 29 dr_cX17_run_6 (by decide +kernel) (fun hc586732 => ?_) (fun hc586732 => ?_)
      · have r586733 : 2000 ≤ g586667.toInt := gj_leL hc586732 (show Int32.toInt 2000 = 2000 by decide)
        have bg586667' : gB g586667 2000 2000 := ⟨by omega, by omega⟩
        refine G_aload_n 1 dr_cX17_run_29 rfl ?_
        refine G_iconst 0 dr_cX17_run_30 (by decide +kernel) ?_
        refine Gp_put 24 hm586677 he586678 dr_cX17_run_31 (gk_X17 D I) (Nat.le_of_ble_eq_true rfl) wr_7_98 rfl rfl rfl (Nat.le_of_ble_eq_true rfl) (fun F586734 e586735 n586736 => ?_)
        have he586737 : F586734 q582319 = .inr (22, [.ref (γ 9 0), .ref (γ 9 1), .ref (γ 9 2), .ref (γ 9 3), .ref (γ 9 4), .ref (γ 9 5), .ref (γ 9 6), .ref (γ 9 7), .ref (γ 9 8), .int p586681, .int p586682, .int p586683, .int p586684, .int p586685, .int p586686, .ref (γ 9 15), .ref (γ 9 16), .ref (γ 9 17), .ref (γ 9 18), .ref (γ 9 19), .ref (γ 9 20), .ref (γ 9 21), .ref (γ 9 22), .int p586687, .int 0, .int p586689, .int p586690, .int p586691, .ref q586679, .ref (γ 9 29), .int p586692, .ref (γ 9 31), .int p586693, .int p586694, .int p586695, .ref q586680]) := e586735
        have hs586738 : rStr γ [] F582318 F586734 := rStr_put hs586670 n586736 htq582319 (by decide)
        refine G_aload_n 1 dr_cX17_run_34 rfl ?_
        refine G_iconst 0 dr_cX17_run_35 (by decide +kernel) ?_
        refine Gp_put 25 hm586677 he586737 dr_cX17_run_36 (gk_X17 D I) (Nat.le_of_ble_eq_true rfl) wr_7_99 rfl rfl rfl (Nat.le_of_ble_eq_true rfl) (fun F586739 e586740 n586741 => ?_)
        have he586742 : F586739 q582319 = .inr (22, [.ref (γ 9 0), .ref (γ 9 1), .ref (γ 9 2), .ref (γ 9 3), .ref (γ 9 4), .ref (γ 9 5), .ref (γ 9 6), .ref (γ 9 7), .ref (γ 9 8), .int p586681, .int p586682, .int p586683, .int p586684, .int p586685, .int p586686, .ref (γ 9 15), .ref (γ 9 16), .ref (γ 9 17), .ref (γ 9 18), .ref (γ 9 19), .ref (γ 9 20), .ref (γ 9 21), .ref (γ 9 22), .int p586687, .int 0, .int 0, .int p586690, .int p586691, .ref q586679, .ref (γ 9 29), .int p586692, .ref (γ 9 31), .int p586693, .int p586694, .int p586695, .ref q586680]) := e586740
        have hs586743 : rStr γ [] F582318 F586739 := rStr_put hs586738 n586741 htq582319 (by decide)
        have n586744 : ∀ b, b ≠ q582319 → F586739 b = F586668 b := fun b hb => (n586741 b hb).trans (n586736 b hb)
        refine G_aload_n 1 dr_cX17_run_39 rfl ?_
        refine G_iconst 0 dr_cX17_run_40 (by decide +kernel) ?_
        refine Gp_put 26 hm586677 he586742 dr_cX17_run_41 (gk_X17 D I) (Nat.le_of_ble_eq_true rfl) wr_7_100 rfl rfl rfl (Nat.le_of_ble_eq_true rfl) (fun F586745 e586746 n586747 => ?_)
        have he586748 : F586745 q582319 = .inr (22, [.ref (γ 9 0), .ref (γ 9 1), .ref (γ 9 2), .ref (γ 9 3), .ref (γ 9 4), .ref (γ 9 5), .ref (γ 9 6), .ref (γ 9 7), .ref (γ 9 8), .int p586681, .int p586682, .int p586683, .int p586684, .int p586685, .int p586686, .ref (γ 9 15), .ref (γ 9 16), .ref (γ 9 17), .ref (γ 9 18), .ref (γ 9 19), .ref (γ 9 20), .ref (γ 9 21), .ref (γ 9 22), .int p586687, .int 0, .int 0, .int 0, .int p586691, .ref q586679, .ref (γ 9 29), .int p586692, .ref (γ 9 31), .int p586693, .int p586694, .int p586695, .ref q586680]) := e586746
        have hs586749 : rStr γ [] F582318 F586745 := rStr_put hs586743 n586747 htq582319 (by decide)
        have n586750 : ∀ b, b ≠ q582319 → F586745 b = F586668 b := fun b hb => (n586747 b hb).trans (n586744 b hb)
        refine G_aload_n 1 dr_cX17_run_44 rfl ?_
        refine G_iconst 0 dr_cX17_run_45 (by decide +kernel) ?_
        refine Gp_put 27 hm586677 he586748 dr_cX17_run_46 (gk_X17 D I) (Nat.le_of_ble_eq_true rfl) wr_7_101 rfl rfl rfl (Nat.le_of_ble_eq_true rfl) (fun F586751 e586752 n586753 => ?_)
        have he586754 : F586751 q582319 = .inr (22, [.ref (γ 9 0), .ref (γ 9 1), .ref (γ 9 2), .ref (γ 9 3), .ref (γ 9 4), .ref (γ 9 5), .ref (γ 9 6), .ref (γ 9 7), .ref (γ 9 8), .int p586681, .int p586682, .int p586683, .int p586684, .int p586685, .int p586686, .ref (γ 9 15), .ref (γ 9 16), .ref (γ 9 17), .ref (γ 9 18), .ref (γ 9 19), .ref (γ 9 20), .ref (γ 9 21), .ref (γ 9 22), .int p586687, .int 0, .int 0, .int 0, .int 0, .ref q586679, .ref (γ 9 29), .int p586692, .ref (γ 9 31), .int p586693, .int p586694, .int p586695, .ref q586680]) := e586752
        have hs586755 : rStr γ [] F582318 F586751 := rStr_put hs586749 n586753 htq582319 (by decide)
        have n586756 : ∀ b, b ≠ q582319 → F586751 b = F586668 b := fun b hb => (n586753 b hb).trans (n586750 b hb)
        refine G_iconst 0 dr_cX17_run_49 (by decide +kernel) ?_
        refine G_istore_n (L' := [(3, .int 0), (0, .ref q582319), (1, .ref q582320), (2, .int p582321)]) dr_cX17_run_50 (Nat.le_of_ble_eq_true rfl) rfl ?_
        refine G_iconst 0 dr_cX17_run_51 (by decide +kernel) ?_
        refine G_istore (L' := [(4, .int 0), (3, .int 0), (0, .ref q582319), (1, .ref q582320), (2, .int p582321)]) dr_cX17_run_52 (Nat.le_of_ble_eq_true rfl) rfl ?_
        have hT586757 : RS D I P582317 F586751 γ el := RS_set hT586669 n586756 htq582319 (by decide) ⟨q586679, q586680, p586681, p586682, p586683, p586684, p586685, p586686, p586687, 0, 0, 0, 0, p586692, p586693, p586694, p586695, he586754, ⟨bp586681, bp586682, (hB586722.2.2.1), (hB586722.2.2.2.1), (gB_w (gBl (show Int32.toInt 0 = 0 by decide)) (by decide) (by decide)), (gB_w (gBl (show Int32.toInt 0 = 0 by decide)) (by decide) (by decide)), (gB_w (gBl (show Int32.toInt 0 = 0 by decide)) (by decide) (by decide)), bp586693, (hB586722.2.2.2.2.2.2.2.2)⟩, ht586696, ht586697, ht586698, ht586699, ht586700, ht586701, ht586702, ht586703, ht586704, ht586705, ht586706, ht586707, ht586708, ht586709, ht586710, ht586711, ht586712, ht586713, ht586714, ht586715, ht586716, ht586717, ht586718, ht586719, hB586723⟩
        have hlp54_587110 : ∀ (n54_587110 : Nat) (F587103 : Nat → va_E) (g587101 : Int32) (g587102 : Int32), gB g587101 0 39 → gB g587102 0 1000000 → RS D I P582317 F587103 γ el → rStr γ [] F582318 F587103 → g587101.toInt < γ 6 (γ 1 q582320) → (fI (F587103 q582319) 26).toInt ≤ p582321.toInt → (fI (F587103 q582319) 9).toInt = (fI (F582318 q582319) 9).toInt → (fI (F587103 q582319) 10).toInt = (fI (F582318 q582319) 10).toInt → (fI (F587103 q582319) 32).toInt = (fI (F582318 q582319) 32).toInt → (p582321.toInt - (fI (F587103 q582319) 26).toInt).toNat < n54_587110 → G (gV D I) l (gRm 4 85 0 0) (gMA (gV D I) (pt_582323_SpillForgeModel_run D I γ el P582317 F582318 q582319 q582320 p582321) gNA 0 0) ky_582323_SpillForgeModel_run 54 [(4, .int g587102), (3, .int g587101), (0, .ref q582319), (1, .ref q582320), (2, .int p582321)] [] (va_pl P582317 F587103) 0 0 := by
          intro n54_587110
          induction n54_587110 with
          | zero => intro F587103 g587101 g587102 bg587101 bg587102 hT587104 hs587105 x587106 x587107 x587108 x587109 x587110 hm54_587110; exact absurd hm54_587110 (Nat.not_lt_zero _)
          | succ n54_587110 ih54_587110 =>
            intro F587103 g587101 g587102 bg587101 bg587102 hT587104 hs587105 x587106 x587107 x587108 x587109 x587110 hm54_587110
            have hs587112 : rStr γ [] F586751 F587103 := fun b h0 hb hw => (hs587105 b h0 hb hw).trans (hs586755 b h0 hb hw).symm
            have hs587113 : rStr γ [] F582318 F587103 := rStr_tr hs586755 hs587112
            have hm587114 : q582319 ∈ P582317 := RS_m hT587104 htq582319 (by decide)
            refine rk10_e (show rk_10 γ (F587103 q582319) from RS_o hT587104 htq582319) (fun q587116 q587117 p587118 p587119 p587120 p587121 p587122 p587123 p587124 p587125 p587126 p587127 p587128 p587129 p587130 p587131 p587132 he587115 hB587159 ht587133 ht587134 ht587135 ht587136 ht587137 ht587138 ht587139 ht587140 ht587141 ht587142 ht587143 ht587144 ht587145 ht587146 ht587147 ht587148 ht587149 ht587150 ht587151 ht587152 ht587153 ht587154 ht587155 ht587156 hB587160 => ?_)
            have ac587161 : (fI (F587103 q582319) 26).toInt = p587127.toInt := by rw [he587115]; rfl
            have bp587127 : gB p587127 0 100000 := (hB587159.2.2.2.2.2.1)
            have ac587162 : (fI (F587103 q582319) 9).toInt = p587118.toInt := by rw [he587115]; rfl
            have bp587118 : gB p587118 0 1 := (hB587159.1)
            have ac587163 : (fI (F587103 q582319) 10).toInt = p587119.toInt := by rw [he587115]; rfl
            have bp587119 : gB p587119 0 1 := (hB587159.2.1)
            have ac587164 : (fI (F587103 q582319) 32).toInt = p587130.toInt := by rw [he587115]; rfl
            have bp587130 : gB p587130 0 8192 := (hB587159.2.2.2.2.2.2.2.1)
            have ac587165 : (fI (F587103 q582319) 26).toInt = p587127.toInt := by rw [he587115]; rfl
            have ac587166 : (fI (F587103 q582319) 9).toInt = p587118.toInt := by rw [he587115]; rfl
            have ac587167 : (fI (F587103 q582319) 10).toInt = p587119.toInt := by rw [he587115]; rfl
            have ac587168 : (fI (F587103 q582319) 32).toInt = p587130.toInt := by rw [he587115]; rfl
            refine G_aload_n 3 dr_cX17_run_54 rfl ?_
            refine G_iload_n 1 dr_cX17_run_55 rfl ?_
            have hm587169 : q582320 ∈ P582317 := RS_m hT587104 htq582320 (by decide)
            obtain ⟨q587171, q587172, p587173, p587174, he587170, ht587190, ht587175, ht587176, ht587177, ht587178, r587179, r587180, r587181, r587182, r587183, r587184, r587185, r587186, r587187, r587188, r587189⟩ := show rk_9 γ el q582320 (F587103 q582320) from RS_o hT587104 htq582320
            have bp587173 : gB p587173 0 1000000 := ⟨by omega, by omega⟩
            have bp587174 : gB p587174 0 1000000 := ⟨by omega, by omega⟩
            have hm587191 : q587171 ∈ P582317 := RS_m hT587104 ht587175 (by decide)
            obtain ⟨⟨p587193, p587194, q587195, he587192, r587196, r587197, r587198, r587200⟩, r587199⟩ := show rk_4 D I γ el F587103 q587171 from RS_o hT587104 ht587175
            have bp587193 := gB_any p587193
            have bp587194 : gB p587194 0 1000000 := ⟨by omega, by omega⟩
            obtain ⟨r587201, r587202, n587209, f587210, r587203, r587204, r587205, r587206, r587207, r587208⟩ := rLC_n r587198 (by omega)
            have hm587211 : q587195 ∈ P582317 := RS_m hT587104 r587201 (by decide)
            obtain ⟨q587212, hx587213⟩ : ∃ x, x = el q587171 g587101.toInt.toNat := ⟨_, rfl⟩
            have hx587214 : f587210 g587101.toNatClampNeg = some q587212 := (r587207 _ (show g587101.toInt.toNat < γ 2 q587171 by omega)).trans (by rw [hx587213])
            have ht587217 : rKd γ q587212 2 := by rw [hx587213]; exact (r587186 _ (by omega)).resolve_right (fun z => absurd z.1 (by omega))
            have ht587218 : rFm γ q587212 q587171 := by rw [hx587213]; exact (r587199 _ (show g587101.toInt.toNat < γ 2 q587171 by omega)).2.1
            have hm587219 : q587212 ∈ P582317 := RS_m hT587104 ht587217 (by decide)
            obtain ⟨q587221, q587222, p587223, p587224, he587220, ht587231, ht587225, ht587226, ht587227, ht587228, ht587229, bp587223, bp587224, r587230, r587232, r587233⟩ := show rk_2 γ q587212 (F587103 q587212) from RS_o hT587104 ht587217
            have fm587234 : γ 6 (γ 1 q587212) = γ 6 (γ 1 q582320) := by rw [show γ 1 q587212 = γ 1 q587171 from ht587218, show γ 1 q587171 = γ 1 q582320 from ht587176]
            refine Gw_callV (As := [.int g587101]) (gV_ok D I) (cp_7901_Code_get l hl0 D I P582317 F587103 q582320 q587171 q587195 g587101 q587172 p587173 p587174 p587193 p587194 f587210 n587209 q587212 q587221 q587222 p587223 p587224 hm587169 hm587191 hm587211 hm587219 he587170 he587192 r587203 he587220 (gB_w bg587101 (by decide) (by decide)) (gB_w bp587194 (by decide) (by decide)) (by omega) (by omega) (by assumption) (by omega)) dr_cX17_run_56 ⟨wr_10_161, wr_1_15, wr_10_141, by decide, rfl, (Nat.le_of_ble_eq_true rfl), (Nat.le_of_ble_eq_true rfl)⟩ wr_10_139 wr_10_140 hm587169 he587170 rfl (show 0 + 0 ≤ 0 by first | omega | decide) (show 0 + 0 ≤ 0 by first | omega | decide) (Nat.le_of_ble_eq_true rfl) (fun r587238 w587239 dc587235 ds587236 hp587237 => ?_) (fun _ _ _ _ _ z => z.elim)
            obtain ⟨rfl, rfl, hdc, hds, ht587240⟩ := hp587237
            change G _ _ _ _ _ _ _ (.ref q587212 :: _) _ _ _
            refine G_widen (cs' := 0) (sl' := 0) (by omega) (by omega) ?_
            refine G_astore (L' := [(5, .ref q587212), (4, .int g587102), (3, .int g587101), (0, .ref q582319), (1, .ref q582320), (2, .int p582321)]) dr_cX17_run_59 (Nat.le_of_ble_eq_true rfl) rfl ?_
            refine G_aload_n 3 dr_cX17_run_61 rfl ?_
            refine Gp_get 26 hm587114 he587115 dr_cX17_run_62 (gk_X17 D I) (Nat.le_of_ble_eq_true rfl) wr_7_100 rfl ?_
            refine G_iload_n 5 dr_cX17_run_65 rfl ?_
            refine G_icmp_ne 71 dr_cX17_run_66 (by decide +kernel) (fun hc587241 => ?_) (fun hc587241 => ?_)
            · have r587242 : p587127.toInt ≠ p582321.toInt := gC_ne hc587241
              refine G_aload_n 3 dr_cX17_run_71 rfl ?_
              refine G_dup dr_cX17_run_72 rfl ?_
              refine Gp_get 26 hm587114 he587115 dr_cX17_run_73 (gk_X17 D I) (Nat.le_of_ble_eq_true rfl) wr_7_100 rfl ?_
              refine G_iconst 1 dr_cX17_run_76 (by decide +kernel) ?_
              refine G_iadd dr_cX17_run_77 (G_nam fun z587243 hz587243 => ?_)
              have ez587243 : z587243.toInt = p587127.toInt + 1 := by rw [gI_add hz587243 bp587127 (gBl (show Int32.toInt 1 = 1 by decide)) (by decide) (by decide), show Int32.toInt 1 = 1 from by decide]
              have bz587243 : gB z587243 1 100001 := gB_add (gI_add hz587243 bp587127 (gBl (show Int32.toInt 1 = 1 by decide)) (by decide) (by decide)) bp587127 (gBl (show Int32.toInt 1 = 1 by decide)) (by decide) (by decide)
              refine Gp_put 26 hm587114 he587115 dr_cX17_run_78 (gk_X17 D I) (Nat.le_of_ble_eq_true rfl) wr_7_100 rfl rfl rfl (Nat.le_of_ble_eq_true rfl) (fun F587244 e587245 n587246 => ?_)
              have he587247 : F587244 q582320 = .inr (18, [.ref q587171, .ref q587172, .int p587173, .int p587174]) := (n587246 q582320 (rn_oo he587170 he587115 (by decide))).trans he587170
              have he587248 : F587244 q587171 = .inr (4, [.int p587193, .ref q587195, .int p587194]) := (n587246 q587171 (rn_oo he587192 he587115 (by decide))).trans he587192
              have he587249 : F587244 q587195 = .inl (I (.object "java/lang/Object"), n587209, .inr (.inr (.inr (.inr f587210)))) := (n587246 q587195 (rn_ao r587203 he587115)).trans r587203
              have he587250 : F587244 q587212 = .inr (17, [.ref q587221, .ref q587222, .int p587223, .int p587224]) := (n587246 q587212 (rn_oo he587220 he587115 (by decide))).trans he587220
              have he587251 : F587244 q582319 = .inr (22, [.ref (γ 9 0), .ref (γ 9 1), .ref (γ 9 2), .ref (γ 9 3), .ref (γ 9 4), .ref (γ 9 5), .ref (γ 9 6), .ref (γ 9 7), .ref (γ 9 8), .int p587118, .int p587119, .int p587120, .int p587121, .int p587122, .int p587123, .ref (γ 9 15), .ref (γ 9 16), .ref (γ 9 17), .ref (γ 9 18), .ref (γ 9 19), .ref (γ 9 20), .ref (γ 9 21), .ref (γ 9 22), .int p587124, .int p587125, .int p587126, .int z587243, .int p587128, .ref q587116, .ref (γ 9 29), .int p587129, .ref (γ 9 31), .int p587130, .int p587131, .int p587132, .ref q587117]) := e587245
              have hs587252 : rStr γ [] F582318 F587244 := rStr_put hs587105 n587246 htq582319 (by decide)
              refine G_iload 1 dr_cX17_run_81 rfl ?_
              refine G_aload 0 dr_cX17_run_83 rfl ?_
              refine Gp_get 0 hm587219 he587250 dr_cX17_run_85 (gk_X12 D I) (Nat.le_of_ble_eq_true rfl) wr_9_220 rfl ?_
              have hT587253 : RS D I P582317 F587244 γ el := RS_set hT587104 n587246 htq582319 (by decide) ⟨q587116, q587117, p587118, p587119, p587120, p587121, p587122, p587123, p587124, p587125, p587126, z587243, p587128, p587129, p587130, p587131, p587132, he587251, ⟨bp587118, bp587119, (hB587159.2.2.1), (hB587159.2.2.2.1), (hB587159.2.2.2.2.1), ⟨by omega, by omega⟩, (hB587159.2.2.2.2.2.2.1), bp587130, (hB587159.2.2.2.2.2.2.2.2)⟩, ht587133, ht587134, ht587135, ht587136, ht587137, ht587138, ht587139, ht587140, ht587141, ht587142, ht587143, ht587144, ht587145, ht587146, ht587147, ht587148, ht587149, ht587150, ht587151, ht587152, ht587153, ht587154, ht587155, ht587156, hB587160⟩
              have hm587254 : q587221 ∈ P582317 := RS_m hT587253 ht587225 (by decide)
              obtain ⟨⟨p587256, p587257, q587258, he587255, r587259, r587260, r587261, r587263⟩, r587262⟩ := show rk_3 D I γ el F587244 q587221 from RS_o hT587253 ht587225
              have bp587256 := gB_any p587256
              have bp587257 : gB p587257 0 1000000 := ⟨by omega, by omega⟩
              refine Gw_callV (As := []) (gV_ok D I) (cp_7_ArrayList_size l hl0 D I P582317 F587244 q587221 p587256 q587258 p587257 hm587254 he587255 (gB_w bp587257 (by decide) (by decide))) dr_cX17_run_88 ⟨wr_10_200, wr_1_18, wr_9_160, by decide, rfl, (Nat.le_of_ble_eq_true rfl), (Nat.le_of_ble_eq_true rfl)⟩ wr_9_158 wr_9_159 hm587254 he587255 rfl (show 0 + 0 ≤ 0 by first | omega | decide) (show 0 + 0 ≤ 0 by first | omega | decide) (Nat.le_of_ble_eq_true rfl) (fun r587267 w587268 dc587264 ds587265 hp587266 => ?_) (fun _ _ _ _ _ z => z.elim)
              obtain ⟨rfl, rfl, hdc, hds⟩ := hp587266
              change G _ _ _ _ _ _ _ (.int p587257 :: _) _ _ _
              refine G_widen (cs' := 0) (sl' := 0) (by omega) (by omega) ?_
              refine G_icmp_ge 127 dr_cX17_run_91 (by decide +kernel) (fun hc587269 => ?_) (fun hc587269 => ?_)
              · have r587270 : p587257.toInt ≤ g587102.toInt := gC_le hc587269
                refine G_aload 0 dr_cX17_run_127 rfl ?_
                refine Gp_get 1 hm587219 he587250 dr_cX17_run_129 (gk_X12 D I) (Nat.le_of_ble_eq_true rfl) wr_9_223 rfl ?_
                refine G_astore (L' := [(6, .ref q587222), (5, .ref q587212), (4, .int g587102), (3, .int g587101), (0, .ref q582319), (1, .ref q582320), (2, .int p582321)]) dr_cX17_run_132 (Nat.le_of_ble_eq_true rfl) rfl ?_
                refine G_aload 0 dr_cX17_run_134 rfl ?_
                have hm587271 : q587222 ∈ P582317 := RS_m hT587253 ht587227 (by decide)
                obtain ⟨p587273, p587274, p587275, p587276, p587277, p587278, p587279, he587272, bp587273, bp587274, bp587277, bp587278, bp587279, r587280, r587281, r587282, r587283, r587284⟩ := show rk_1 γ q587222 (F587244 q587222) from RS_o hT587253 ht587227
                have bp587275 := gB_any p587275
                have bp587276 := gB_any p587276
                refine Gp_get 0 hm587271 he587272 dr_cX17_run_136 (gk_X15 D I) (Nat.le_of_ble_eq_true rfl) wr_9_177 rfl ?_
                refine G_bipush 32 dr_cX17_run_139 (by decide +kernel) ?_
                refine G_icmp_ne 164 dr_cX17_run_141 (by decide +kernel) (fun hc587285 => ?_) (fun hc587285 => ?_)
                · have r587286 : p587273.toInt ≠ 32 := gj_neq hc587285 (show Int32.toInt 32 = 32 by decide)
                  have bp587273' : gB p587273 0 31 := ⟨by omega, by omega⟩
                  refine G_aload 0 dr_cX17_run_164 rfl ?_
                  refine Gp_get 0 hm587271 he587272 dr_cX17_run_166 (gk_X15 D I) (Nat.le_of_ble_eq_true rfl) wr_9_177 rfl ?_
                  refine G_bipush 30 dr_cX17_run_169 (by decide +kernel) ?_
                  refine G_icmp_eq 191 dr_cX17_run_171 (by decide +kernel) (fun hc587287 => ?_) (fun hc587287 => ?_)
                  · have r587288 : p587273.toInt = 30 := gj_eq hc587287 (show Int32.toInt 30 = 30 by decide)
                    have bp587273'' : gB p587273 30 30 := ⟨by omega, by omega⟩
                    refine G_aload 1 dr_cX17_run_191 rfl ?_
                    refine Gp_get 2 hm587219 he587250 dr_cX17_run_193 (gk_X12 D I) (Nat.le_of_ble_eq_true rfl) wr_9_229 rfl ?_
                    refine G_goto 204 dr_cX17_run_196 (by decide +kernel) ?_
                    refine G_istore_n (L' := [(3, .int p587223), (6, .ref q587222), (5, .ref q587212), (4, .int g587102), (0, .ref q582319), (1, .ref q582320), (2, .int p582321)]) dr_cX17_run_204 (Nat.le_of_ble_eq_true rfl) rfl ?_
                    refine G_iconst 0 dr_cX17_run_205 (by decide +kernel) ?_
                    refine G_istore (L' := [(4, .int 0), (3, .int p587223), (6, .ref q587222), (5, .ref q587212), (0, .ref q582319), (1, .ref q582320), (2, .int p582321)]) dr_cX17_run_206 (Nat.le_of_ble_eq_true rfl) rfl ?_
                    refine G_goto 54 dr_cX17_run_208 (by decide +kernel) ?_
                    refine G_lv (L' := [(4, .int 0), (3, .int p587223), (0, .ref q582319), (1, .ref q582320), (2, .int p582321)]) [0, 1, 4, 5, 6] rfl ?_
                    have ac587289 : (fI (F587244 q582319) 26).toInt = z587243.toInt := by rw [he587251]; rfl
                    have ac587290 : (fI (F587244 q582319) 9).toInt = p587118.toInt := by rw [he587251]; rfl
                    have ac587291 : (fI (F587244 q582319) 10).toInt = p587119.toInt := by rw [he587251]; rfl
                    have ac587292 : (fI (F587244 q582319) 32).toInt = p587130.toInt := by rw [he587251]; rfl
                    exact ih54_587110 F587244 p587223 0 bp587223 (gB_w (gBl (show Int32.toInt 0 = 0 by decide)) (by decide) (by decide)) hT587253 hs587252 (by have qa0 : Int32.toInt 0 = 0 := (by decide); omega) (by omega) (by omega) (by omega) (by omega) (by have qa0 : Int32.toInt 0 = 0 := (by decide); omega)
                  · have r587293 : p587273.toInt ≠ 30 := gj_neq hc587287 (show Int32.toInt 30 = 30 by decide)
                    refine G_aload_n 4 dr_cX17_run_174 rfl ?_
                    refine G_aload 0 dr_cX17_run_175 rfl ?_
                    refine Gp_get 5 hm587271 he587272 dr_cX17_run_177 (gk_X15 D I) (Nat.le_of_ble_eq_true rfl) wr_9_197 rfl ?_
                    refine G_aload 0 dr_cX17_run_180 rfl ?_
                    refine Gp_get 2 hm587271 he587272 dr_cX17_run_182 (gk_X15 D I) (Nat.le_of_ble_eq_true rfl) wr_9_186 rfl ?_
                    refine Gw_callV (As := [.int p587278, .int p587275]) (gV_ok D I) (ct_7532_SpillForgeModel_value l hl0 D I γ el P582317 F587244 q582319 p587278 p587275 hT587253 htq582319 bp587278 (by omega)) dr_cX17_run_185 ⟨wr_11_100, wr_1_14, wr_11_103, by decide, rfl, (Nat.le_of_ble_eq_true rfl), (Nat.le_of_ble_eq_true rfl)⟩ wr_11_102 wr_p_115 hm587114 he587251 rfl (show 0 + 0 ≤ 0 by first | omega | decide) (show 0 + 0 ≤ 0 by first | omega | decide) (Nat.le_of_ble_eq_true rfl) (fun r587297 w587298 dc587294 ds587295 hp587296 => ?_) (fun _ _ _ _ _ z => z.elim)
                    obtain ⟨o587299, rfl, rfl, hdc, hds, ht587300⟩ := hp587296
                    have bo587299 := gB_any o587299
                    change G _ _ _ _ _ _ _ (.int o587299 :: _) _ _ _
                    refine G_widen (cs' := 0) (sl' := 0) (by omega) (by omega) ?_
                    refine G_if_eq 199 dr_cX17_run_188 (by decide +kernel) (fun hc587301 => ?_) (fun hc587301 => ?_)
                    · have r587302 : o587299.toInt = 0 := gj_eq hc587301 (show Int32.toInt 0 = 0 by decide)
                      have bo587299' : gB o587299 0 0 := ⟨by omega, by omega⟩
                      refine G_aload 1 dr_cX17_run_199 rfl ?_
                      refine Gp_get 3 hm587219 he587250 dr_cX17_run_201 (gk_X12 D I) (Nat.le_of_ble_eq_true rfl) wr_9_233 rfl ?_
                      refine G_istore_n (L' := [(3, .int p587224), (6, .ref q587222), (5, .ref q587212), (4, .int g587102), (0, .ref q582319), (1, .ref q582320), (2, .int p582321)]) dr_cX17_run_204 (Nat.le_of_ble_eq_true rfl) rfl ?_
                      refine G_iconst 0 dr_cX17_run_205 (by decide +kernel) ?_
                      refine G_istore (L' := [(4, .int 0), (3, .int p587224), (6, .ref q587222), (5, .ref q587212), (0, .ref q582319), (1, .ref q582320), (2, .int p582321)]) dr_cX17_run_206 (Nat.le_of_ble_eq_true rfl) rfl ?_
                      refine G_goto 54 dr_cX17_run_208 (by decide +kernel) ?_
                      refine G_lv (L' := [(4, .int 0), (3, .int p587224), (0, .ref q582319), (1, .ref q582320), (2, .int p582321)]) [0, 1, 4, 5, 6] rfl ?_
                      have ac587303 : (fI (F587244 q582319) 26).toInt = z587243.toInt := by rw [he587251]; rfl
                      have ac587304 : (fI (F587244 q582319) 9).toInt = p587118.toInt := by rw [he587251]; rfl
                      have ac587305 : (fI (F587244 q582319) 10).toInt = p587119.toInt := by rw [he587251]; rfl
                      have ac587306 : (fI (F587244 q582319) 32).toInt = p587130.toInt := by rw [he587251]; rfl
                      exact ih54_587110 F587244 p587224 0 bp587224 (gB_w (gBl (show Int32.toInt 0 = 0 by decide)) (by decide) (by decide)) hT587253 hs587252 (by have qa0 : Int32.toInt 0 = 0 := (by decide); omega) (by omega) (by omega) (by omega) (by omega) (by have qa0 : Int32.toInt 0 = 0 := (by decide); omega)
                    · have r587307 : o587299.toInt ≠ 0 := gj_neq hc587301 (show Int32.toInt 0 = 0 by decide)
                      refine G_aload 1 dr_cX17_run_191 rfl ?_
                      refine Gp_get 2 hm587219 he587250 dr_cX17_run_193 (gk_X12 D I) (Nat.le_of_ble_eq_true rfl) wr_9_229 rfl ?_
                      refine G_goto 204 dr_cX17_run_196 (by decide +kernel) ?_
                      refine G_istore_n (L' := [(3, .int p587223), (6, .ref q587222), (5, .ref q587212), (4, .int g587102), (0, .ref q582319), (1, .ref q582320), (2, .int p582321)]) dr_cX17_run_204 (Nat.le_of_ble_eq_true rfl) rfl ?_
                      refine G_iconst 0 dr_cX17_run_205 (by decide +kernel) ?_
                      refine G_istore (L' := [(4, .int 0), (3, .int p587223), (6, .ref q587222), (5, .ref q587212), (0, .ref q582319), (1, .ref q582320), (2, .int p582321)]) dr_cX17_run_206 (Nat.le_of_ble_eq_true rfl) rfl ?_
                      refine G_goto 54 dr_cX17_run_208 (by decide +kernel) ?_
                      refine G_lv (L' := [(4, .int 0), (3, .int p587223), (0, .ref q582319), (1, .ref q582320), (2, .int p582321)]) [0, 1, 4, 5, 6] rfl ?_
                      have ac587308 : (fI (F587244 q582319) 26).toInt = z587243.toInt := by rw [he587251]; rfl
                      have ac587309 : (fI (F587244 q582319) 9).toInt = p587118.toInt := by rw [he587251]; rfl
                      have ac587310 : (fI (F587244 q582319) 10).toInt = p587119.toInt := by rw [he587251]; rfl
                      have ac587311 : (fI (F587244 q582319) 32).toInt = p587130.toInt := by rw [he587251]; rfl
                      exact ih54_587110 F587244 p587223 0 bp587223 (gB_w (gBl (show Int32.toInt 0 = 0 by decide)) (by decide) (by decide)) hT587253 hs587252 (by have qa0 : Int32.toInt 0 = 0 := (by decide); omega) (by omega) (by omega) (by omega) (by omega) (by have qa0 : Int32.toInt 0 = 0 := (by decide); omega)
                · have r587312 : p587273.toInt = 32 := gj_eq hc587285 (show Int32.toInt 32 = 32 by decide)
                  have bp587273' : gB p587273 32 32 := ⟨by omega, by omega⟩
                  refine G_aload_n 4 dr_cX17_run_144 rfl ?_
                  refine G_aload_n 4 dr_cX17_run_145 rfl ?_
                  refine G_aload 0 dr_cX17_run_146 rfl ?_
                  refine Gp_get 5 hm587271 he587272 dr_cX17_run_148 (gk_X15 D I) (Nat.le_of_ble_eq_true rfl) wr_9_197 rfl ?_
                  refine G_aload 0 dr_cX17_run_151 rfl ?_
                  refine Gp_get 2 hm587271 he587272 dr_cX17_run_153 (gk_X15 D I) (Nat.le_of_ble_eq_true rfl) wr_9_186 rfl ?_
                  refine Gw_callV (As := [.int p587278, .int p587275]) (gV_ok D I) (ct_7532_SpillForgeModel_value l hl0 D I γ el P582317 F587244 q582319 p587278 p587275 hT587253 htq582319 bp587278 (by omega)) dr_cX17_run_156 ⟨wr_11_100, wr_1_14, wr_11_103, by decide, rfl, (Nat.le_of_ble_eq_true rfl), (Nat.le_of_ble_eq_true rfl)⟩ wr_11_102 wr_p_115 hm587114 he587251 rfl (show 0 + 0 ≤ 0 by first | omega | decide) (show 0 + 0 ≤ 0 by first | omega | decide) (Nat.le_of_ble_eq_true rfl) (fun r587316 w587317 dc587313 ds587314 hp587315 => ?_) (fun _ _ _ _ _ z => z.elim)
                  obtain ⟨o587318, rfl, rfl, hdc, hds, ht587319⟩ := hp587315
                  have bo587318 := gB_any o587318
                  change G _ _ _ _ _ _ _ (.int o587318 :: _) _ _ _
                  refine G_widen (cs' := 0) (sl' := 0) (by omega) (by omega) ?_
                  refine Gp_put 24 hm587114 he587251 dr_cX17_run_159 (gk_X17 D I) (Nat.le_of_ble_eq_true rfl) wr_7_98 rfl rfl rfl (Nat.le_of_ble_eq_true rfl) (fun F587320 e587321 n587322 => ?_)
                  have he587323 : F587320 q582320 = .inr (18, [.ref q587171, .ref q587172, .int p587173, .int p587174]) := (n587322 q582320 (rn_oo he587247 he587251 (by decide))).trans he587247
                  have he587324 : F587320 q587171 = .inr (4, [.int p587193, .ref q587195, .int p587194]) := (n587322 q587171 (rn_oo he587248 he587251 (by decide))).trans he587248
                  have he587325 : F587320 q587195 = .inl (I (.object "java/lang/Object"), n587209, .inr (.inr (.inr (.inr f587210)))) := (n587322 q587195 (rn_ao he587249 he587251)).trans he587249
                  have he587326 : F587320 q587212 = .inr (17, [.ref q587221, .ref q587222, .int p587223, .int p587224]) := (n587322 q587212 (rn_oo he587250 he587251 (by decide))).trans he587250
                  have he587327 : F587320 q587221 = .inr (4, [.int p587256, .ref q587258, .int p587257]) := (n587322 q587221 (rn_oo he587255 he587251 (by decide))).trans he587255
                  have he587328 : F587320 q587222 = .inr (20, [.int p587273, .int p587274, .int p587275, .int p587276, .int p587277, .int p587278, .int p587279]) := (n587322 q587222 (rn_oo he587272 he587251 (by decide))).trans he587272
                  have he587329 : F587320 q582319 = .inr (22, [.ref (γ 9 0), .ref (γ 9 1), .ref (γ 9 2), .ref (γ 9 3), .ref (γ 9 4), .ref (γ 9 5), .ref (γ 9 6), .ref (γ 9 7), .ref (γ 9 8), .int p587118, .int p587119, .int p587120, .int p587121, .int p587122, .int p587123, .ref (γ 9 15), .ref (γ 9 16), .ref (γ 9 17), .ref (γ 9 18), .ref (γ 9 19), .ref (γ 9 20), .ref (γ 9 21), .ref (γ 9 22), .int p587124, .int o587318, .int p587126, .int z587243, .int p587128, .ref q587116, .ref (γ 9 29), .int p587129, .ref (γ 9 31), .int p587130, .int p587131, .int p587132, .ref q587117]) := e587321
                  have hs587330 : rStr γ [] F582318 F587320 := rStr_put hs587252 n587322 htq582319 (by decide)
                  refine G_iconst 0 dr_cX17_run_162 (by decide +kernel) ?_
                  have hT587331 : RS D I P582317 F587320 γ el := RS_set hT587253 n587322 htq582319 (by decide) ⟨q587116, q587117, p587118, p587119, p587120, p587121, p587122, p587123, p587124, o587318, p587126, z587243, p587128, p587129, p587130, p587131, p587132, he587329, ⟨bp587118, bp587119, (hB587159.2.2.1), (hB587159.2.2.2.1), (hB587159.2.2.2.2.1), ⟨by omega, by omega⟩, (hB587159.2.2.2.2.2.2.1), bp587130, (hB587159.2.2.2.2.2.2.2.2)⟩, ht587133, ht587134, ht587135, ht587136, ht587137, ht587138, ht587139, ht587140, ht587141, ht587142, ht587143, ht587144, ht587145, ht587146, ht587147, ht587148, ht587149, ht587150, ht587151, ht587152, ht587153, ht587154, ht587155, ht587156, hB587160⟩
                  have ac587332 : (fI (F587320 q582319) 26).toInt = z587243.toInt := by rw [he587329]; rfl
                  have ac587333 : (fI (F587320 q582319) 9).toInt = p587118.toInt := by rw [he587329]; rfl
                  have ac587334 : (fI (F587320 q582319) 10).toInt = p587119.toInt := by rw [he587329]; rfl
                  have ac587335 : (fI (F587320 q582319) 32).toInt = p587130.toInt := by rw [he587329]; rfl
                  exact G_iretA dr_cX17_run_163 rfl (Nat.le_of_ble_eq_true rfl) (Nat.le_of_ble_eq_true rfl) ⟨F587320, 0, rfl, rfl, hT587331, hs587330, (Nat.le_of_ble_eq_true rfl), (Nat.le_of_ble_eq_true rfl), (gB_w (gBl (show Int32.toInt 0 = 0 by decide)) (by decide) (by decide)), (by have qa0 : Int32.toInt 0 = 0 := (by decide); omega), (by have qa0 : Int32.toInt 0 = 0 := (by decide); omega), (by have qa0 : Int32.toInt 0 = 0 := (by decide); omega)⟩
              · have r587336 : g587102.toInt < p587257.toInt := gC_nle hc587269
                have bg587102' : gB g587102 0 999999 := ⟨by omega, by omega⟩
                have bp587257' : gB p587257 1 1000000 := ⟨by omega, by omega⟩
                refine G_aload_n 3 dr_cX17_run_94 rfl ?_
                refine G_aload 0 dr_cX17_run_95 rfl ?_
                refine Gp_get 0 hm587219 he587250 dr_cX17_run_97 (gk_X12 D I) (Nat.le_of_ble_eq_true rfl) wr_9_220 rfl ?_
                refine G_iload 1 dr_cX17_run_100 rfl ?_
                obtain ⟨r587337, r587338, n587345, f587346, r587339, r587340, r587341, r587342, r587343, r587344⟩ := rLC_n r587261 (by omega)
                have hm587347 : q587258 ∈ P582317 := RS_m hT587253 r587337 (by decide)
                obtain ⟨q587348, hx587349⟩ : ∃ x, x = el q587221 g587102.toInt.toNat := ⟨_, rfl⟩
                have hx587350 : f587346 g587102.toNatClampNeg = some q587348 := (r587343 _ (show g587102.toInt.toNat < γ 2 q587221 by omega)).trans (by rw [hx587349])
                have ht587351 : rKd γ q587348 1 := by rw [hx587349]; exact (r587262 _ (show g587102.toInt.toNat < γ 2 q587221 by omega)).1
                have ht587352 : rFm γ q587348 q587221 := by rw [hx587349]; exact (r587262 _ (show g587102.toInt.toNat < γ 2 q587221 by omega)).2.1
                refine Gw_callV (As := [.int g587102]) (gV_ok D I) (cp_22_ArrayList_get l hl0 D I P582317 F587244 q587221 q587258 g587102 p587256 p587257 f587346 n587345 q587348 hm587254 hm587347 he587255 r587339 (gB_w bg587102' (by decide) (by decide)) (gB_w bp587257' (by decide) (by decide)) (by omega) (by omega) (by assumption) (by omega)) dr_cX17_run_102 ⟨wr_10_201, wr_1_18, wr_10_65, by decide, rfl, (Nat.le_of_ble_eq_true rfl), (Nat.le_of_ble_eq_true rfl)⟩ wr_10_63 wr_10_64 hm587254 he587255 rfl (show 0 + 0 ≤ 0 by first | omega | decide) (show 0 + 0 ≤ 0 by first | omega | decide) (Nat.le_of_ble_eq_true rfl) (fun r587356 w587357 dc587353 ds587354 hp587355 => ?_) (fun _ _ _ _ _ z => z.elim)
                obtain ⟨rfl, rfl, hdc, hds, ht587358⟩ := hp587355
                change G _ _ _ _ _ _ _ (.ref q587348 :: _) _ _ _
                refine G_widen (cs' := 0) (sl' := 0) (by omega) (by omega) ?_
                have hm587359 : q587348 ∈ P582317 := RS_m hT587253 ht587351 (by decide)
                obtain ⟨p587361, p587362, p587363, p587364, p587365, p587366, p587367, he587360, bp587361, bp587362, bp587365, bp587366, bp587367, r587368, r587369, r587370, r587371, r587372⟩ := show rk_1 γ q587348 (F587244 q587348) from RS_o hT587253 ht587351
                have bp587363 := gB_any p587363
                have bp587364 := gB_any p587364
                refine Gp_cast hm587359 he587360 rfl dr_cX17_run_105 wr_10_202 (gr_cast 1 rfl) ?_
                have ac587373 : (fI (F587244 q582319) 26).toInt = z587243.toInt := by rw [he587251]; rfl
                have ac587374 : (fI (F587244 q582319) 9).toInt = p587118.toInt := by rw [he587251]; rfl
                have ac587375 : (fI (F587244 q582319) 10).toInt = p587119.toInt := by rw [he587251]; rfl
                have ac587376 : (fI (F587244 q582319) 32).toInt = p587130.toInt := by rw [he587251]; rfl
                refine Gw_callV (As := [.ref q587348]) (gV_ok D I) (ct_583103_SpillForgeModel_step l hl0 D I γ el P582317 F587244 q582319 q587348 hT587253 htq582319 ht587351) dr_cX17_run_108 ⟨wr_11_96, wr_1_14, wr_11_99, by decide, rfl, (Nat.le_of_ble_eq_true rfl), (Nat.le_of_ble_eq_true rfl)⟩ wr_11_98 wr_p_114 hm587114 he587251 rfl (show 0 + 0 ≤ 0 by first | omega | decide) (show 0 + 0 ≤ 0 by first | omega | decide) (Nat.le_of_ble_eq_true rfl) (fun r587380 w587381 dc587377 ds587378 hp587379 => ?_) (fun _ _ _ _ _ z => z.elim)
                obtain ⟨F587387, o587382, rfl, rfl, hT587388, hs587389, hdc, hds, bo587382, x587383, x587384, x587385, x587386⟩ := hp587379
                have he587390 : F587387 q582320 = .inr (18, [.ref q587171, .ref q587172, .int p587173, .int p587174]) := (hs587389 q582320 (rT0 htq582320 (by decide)) (rT1 htq582320 (by decide)) (rT2 htq582320 (by decide))).trans he587247
                have he587391 : F587387 q587171 = .inr (4, [.int p587193, .ref q587195, .int p587194]) := (hs587389 q587171 (rT0 ht587175 (by decide)) (rT1 ht587175 (by decide)) (rT2 ht587175 (by decide))).trans he587248
                have he587392 : F587387 q587195 = .inl (I (.object "java/lang/Object"), n587209, .inr (.inr (.inr (.inr f587210)))) := (hs587389 q587195 (rT0 r587201 (by decide)) (rT1 r587201 (by decide)) (rT2 r587201 (by decide))).trans he587249
                have he587393 : F587387 q587212 = .inr (17, [.ref q587221, .ref q587222, .int p587223, .int p587224]) := (hs587389 q587212 (rT0 ht587217 (by decide)) (rT1 ht587217 (by decide)) (rT2 ht587217 (by decide))).trans he587250
                have he587394 : F587387 q587221 = .inr (4, [.int p587256, .ref q587258, .int p587257]) := (hs587389 q587221 (rT0 ht587225 (by decide)) (rT1 ht587225 (by decide)) (rT2 ht587225 (by decide))).trans he587255
                have he587395 : F587387 q587258 = .inl (I (.object "java/lang/Object"), n587345, .inr (.inr (.inr (.inr f587346)))) := (hs587389 q587258 (rT0 r587337 (by decide)) (rT1 r587337 (by decide)) (rT2 r587337 (by decide))).trans r587339
                have he587396 : F587387 q587348 = .inr (20, [.int p587361, .int p587362, .int p587363, .int p587364, .int p587365, .int p587366, .int p587367]) := (hs587389 q587348 (rT0 ht587351 (by decide)) (rT1 ht587351 (by decide)) (rT2 ht587351 (by decide))).trans he587360
                have hs587397 : rStr γ [] F582318 F587387 := rStr_tr hs587252 hs587389
                change G _ _ _ _ _ _ _ (.int o587382 :: _) _ _ _
                refine G_widen (cs' := 0) (sl' := 0) (by omega) (by omega) ?_
                refine G_istore (L' := [(6, .int o587382), (5, .ref q587212), (4, .int g587102), (3, .int g587101), (0, .ref q582319), (1, .ref q582320), (2, .int p582321)]) dr_cX17_run_111 (Nat.le_of_ble_eq_true rfl) rfl ?_
                refine G_iload 0 dr_cX17_run_113 rfl ?_
                refine G_if_lt 121 dr_cX17_run_115 (by decide +kernel) (fun hc587398 => ?_) (fun hc587398 => ?_)
                · have r587399 : o587382.toInt < 0 := gj_lt hc587398 (show Int32.toInt 0 = 0 by decide)
                  have bo587382' : gB o587382 (-1) (-1) := ⟨by omega, by omega⟩
                  obtain ⟨z587400, hz587400⟩ : ∃ z : Int32, z = g587102 + Int32.ofInt 1 := ⟨_, rfl⟩
                  have ez587400 : z587400.toInt = g587102.toInt + 1 := gI_inc hz587400 (by decide) bg587102' (by decide) (by decide)
                  have bz587400 : gB z587400 1 1000000 := ⟨by omega, by omega⟩
                  refine G_iinc (L' := [(4, .int z587400), (6, .int o587382), (5, .ref q587212), (3, .int g587101), (0, .ref q582319), (1, .ref q582320), (2, .int p582321)]) z587400 2 dr_cX17_run_121 rfl hz587400.symm (Nat.le_of_ble_eq_true rfl) rfl ?_
                  refine G_goto 54 dr_cX17_run_124 (by decide +kernel) ?_
                  refine G_lv (L' := [(4, .int z587400), (3, .int g587101), (0, .ref q582319), (1, .ref q582320), (2, .int p582321)]) [0, 3, 4, 5, 6] rfl ?_
                  have hm587401 : q582319 ∈ P582317 := RS_m hT587388 htq582319 (by decide)
                  refine rk10_e (show rk_10 γ (F587387 q582319) from RS_o hT587388 htq582319) (fun q587403 q587404 p587405 p587406 p587407 p587408 p587409 p587410 p587411 p587412 p587413 p587414 p587415 p587416 p587417 p587418 p587419 he587402 hB587446 ht587420 ht587421 ht587422 ht587423 ht587424 ht587425 ht587426 ht587427 ht587428 ht587429 ht587430 ht587431 ht587432 ht587433 ht587434 ht587435 ht587436 ht587437 ht587438 ht587439 ht587440 ht587441 ht587442 ht587443 hB587447 => ?_)
                  have ac587448 : (fI (F587387 q582319) 26).toInt = p587414.toInt := by rw [he587402]; rfl
                  have bp587414 : gB p587414 0 100000 := (hB587446.2.2.2.2.2.1)
                  have ac587449 : (fI (F587387 q582319) 9).toInt = p587405.toInt := by rw [he587402]; rfl
                  have bp587405 : gB p587405 0 1 := (hB587446.1)
                  have ac587450 : (fI (F587387 q582319) 10).toInt = p587406.toInt := by rw [he587402]; rfl
                  have bp587406 : gB p587406 0 1 := (hB587446.2.1)
                  have ac587451 : (fI (F587387 q582319) 32).toInt = p587417.toInt := by rw [he587402]; rfl
                  have bp587417 : gB p587417 0 8192 := (hB587446.2.2.2.2.2.2.2.1)
                  have ac587452 : (fI (F587387 q582319) 26).toInt = p587414.toInt := by rw [he587402]; rfl
                  have ac587453 : (fI (F587387 q582319) 9).toInt = p587405.toInt := by rw [he587402]; rfl
                  have ac587454 : (fI (F587387 q582319) 10).toInt = p587406.toInt := by rw [he587402]; rfl
                  have ac587455 : (fI (F587387 q582319) 32).toInt = p587417.toInt := by rw [he587402]; rfl
                  exact ih54_587110 F587387 g587101 z587400 bg587101 (gB_w bz587400 (by decide) (by decide)) hT587388 hs587397 (by omega) (by omega) (by omega) (by omega) (by omega) (by omega)
                · have r587456 : 0 ≤ o587382.toInt := gj_nlt hc587398 (show Int32.toInt 0 = 0 by decide)
                  have bo587382' : gB o587382 0 5 := ⟨by omega, by omega⟩
                  refine G_iload 0 dr_cX17_run_118 rfl ?_
                  have hm587457 : q582319 ∈ P582317 := RS_m hT587388 htq582319 (by decide)
                  refine rk10_e (show rk_10 γ (F587387 q582319) from RS_o hT587388 htq582319) (fun q587459 q587460 p587461 p587462 p587463 p587464 p587465 p587466 p587467 p587468 p587469 p587470 p587471 p587472 p587473 p587474 p587475 he587458 hB587502 ht587476 ht587477 ht587478 ht587479 ht587480 ht587481 ht587482 ht587483 ht587484 ht587485 ht587486 ht587487 ht587488 ht587489 ht587490 ht587491 ht587492 ht587493 ht587494 ht587495 ht587496 ht587497 ht587498 ht587499 hB587503 => ?_)
                  have ac587504 : (fI (F587387 q582319) 26).toInt = p587470.toInt := by rw [he587458]; rfl
                  have bp587470 : gB p587470 0 100000 := (hB587502.2.2.2.2.2.1)
                  have ac587505 : (fI (F587387 q582319) 9).toInt = p587461.toInt := by rw [he587458]; rfl
                  have bp587461 : gB p587461 0 1 := (hB587502.1)
                  have ac587506 : (fI (F587387 q582319) 10).toInt = p587462.toInt := by rw [he587458]; rfl
                  have bp587462 : gB p587462 0 1 := (hB587502.2.1)
                  have ac587507 : (fI (F587387 q582319) 32).toInt = p587473.toInt := by rw [he587458]; rfl
                  have bp587473 : gB p587473 0 8192 := (hB587502.2.2.2.2.2.2.2.1)
                  have ac587508 : (fI (F587387 q582319) 26).toInt = p587470.toInt := by rw [he587458]; rfl
                  have ac587509 : (fI (F587387 q582319) 9).toInt = p587461.toInt := by rw [he587458]; rfl
                  have ac587510 : (fI (F587387 q582319) 10).toInt = p587462.toInt := by rw [he587458]; rfl
                  have ac587511 : (fI (F587387 q582319) 32).toInt = p587473.toInt := by rw [he587458]; rfl
                  exact G_iretA dr_cX17_run_120 rfl (Nat.le_of_ble_eq_true rfl) (Nat.le_of_ble_eq_true rfl) ⟨F587387, o587382, rfl, rfl, hT587388, hs587397, (Nat.le_of_ble_eq_true rfl), (Nat.le_of_ble_eq_true rfl), bo587382', (by omega), (by omega), (by omega)⟩
            · have r587512 : p587127.toInt = p582321.toInt := gC_eq hc587241
              have bp587127' : gB p587127 1 100000 := ⟨by omega, by omega⟩
              refine G_iconst 4 dr_cX17_run_69 (by decide +kernel) ?_
              have ac587513 : (fI (F587103 q582319) 26).toInt = p587127.toInt := by rw [he587115]; rfl
              have ac587514 : (fI (F587103 q582319) 9).toInt = p587118.toInt := by rw [he587115]; rfl
              have ac587515 : (fI (F587103 q582319) 10).toInt = p587119.toInt := by rw [he587115]; rfl
              have ac587516 : (fI (F587103 q582319) 32).toInt = p587130.toInt := by rw [he587115]; rfl
              exact G_iretA dr_cX17_run_70 rfl (Nat.le_of_ble_eq_true rfl) (Nat.le_of_ble_eq_true rfl) ⟨F587103, 4, rfl, rfl, hT587104, hs587105, (Nat.le_of_ble_eq_true rfl), (Nat.le_of_ble_eq_true rfl), (gB_w (gBl (show Int32.toInt 4 = 4 by decide)) (by decide) (by decide)), (by have qa0 : Int32.toInt 4 = 4 := (by decide); omega), (by have qa0 : Int32.toInt 4 = 4 := (by decide); omega), (by have qa0 : Int32.toInt 4 = 4 := (by decide); omega)⟩
        have ac587517 : (fI (F586751 q582319) 26).toInt = 0 := by rw [he586754]; show Int32.toInt 0 = 0; decide
        have ac587518 : (fI (F586751 q582319) 9).toInt = p586681.toInt := by rw [he586754]; rfl
        have ac587519 : (fI (F586751 q582319) 10).toInt = p586682.toInt := by rw [he586754]; rfl
        have ac587520 : (fI (F586751 q582319) 32).toInt = p586693.toInt := by rw [he586754]; rfl
        exact hlp54_587110 ((p582321.toInt - (fI (F586751 q582319) 26).toInt).toNat + 1) F586751 0 0 (gB_w (gBl (show Int32.toInt 0 = 0 by decide)) (by decide) (by decide)) (gB_w (gBl (show Int32.toInt 0 = 0 by decide)) (by decide) (by decide)) hT586757 hs586755 (by have qa0 : Int32.toInt 0 = 0 := (by decide); omega) (by omega) (by omega) (by omega) (by omega) (Nat.lt_succ_self _)
      · have r587521 : g586667.toInt < 2000 := gj_nleL hc586732 (show Int32.toInt 2000 = 2000 by decide)
        have bg586667' : gB g586667 0 1999 := ⟨by omega, by omega⟩
        refine G_aload_n 1 dr_cX17_run_9 rfl ?_
        refine Gp_get 20 hm586677 he586678 dr_cX17_run_10 (gk_X17 D I) (Nat.le_of_ble_eq_true rfl) wr_7_94 rfl ?_
        refine G_iload_n 0 dr_cX17_run_13 rfl ?_
        refine G_iconst 0 dr_cX17_run_14 (by decide +kernel) ?_
        have hm587522 : (γ 9 20) ∈ P582317 := RS_m hT586669 ht586712 (by decide)
        obtain ⟨f587524, he587523⟩ := show rk_22 I (F586668 (γ 9 20)) from RS_o hT586669 ht586712
        refine Gp_iast 0 hm587522 he587523 dr_cX17_run_15 rfl (gB_in bg586667' (by decide) (by decide)) (fun F587525 e587526 n587527 => ?_)
        obtain ⟨f587528, hf587528⟩ : ∃ z, z = upd f587524 g586667.toNatClampNeg 0 := ⟨_, rfl⟩
        rw [← hf587528] at e587526
        have he587529 : F587525 q582319 = .inr (22, [.ref (γ 9 0), .ref (γ 9 1), .ref (γ 9 2), .ref (γ 9 3), .ref (γ 9 4), .ref (γ 9 5), .ref (γ 9 6), .ref (γ 9 7), .ref (γ 9 8), .int p586681, .int p586682, .int p586683, .int p586684, .int p586685, .int p586686, .ref (γ 9 15), .ref (γ 9 16), .ref (γ 9 17), .ref (γ 9 18), .ref (γ 9 19), .ref (γ 9 20), .ref (γ 9 21), .ref (γ 9 22), .int p586687, .int p586688, .int p586689, .int p586690, .int p586691, .ref q586679, .ref (γ 9 29), .int p586692, .ref (γ 9 31), .int p586693, .int p586694, .int p586695, .ref q586680]) := (n587527 q582319 (rn_oa he586678 he587523)).trans he586678
        have he587530 : F587525 (γ 9 20) = .inl (I .int, 2000, .inl f587528) := e587526
        have hs587531 : rStr γ [] F582318 F587525 := rStr_put hs586670 n587527 ht586712 (by decide)
        refine G_aload_n 1 dr_cX17_run_16 rfl ?_
        refine Gp_get 21 hm586677 he587529 dr_cX17_run_17 (gk_X17 D I) (Nat.le_of_ble_eq_true rfl) wr_7_95 rfl ?_
        refine G_iload_n 0 dr_cX17_run_20 rfl ?_
        refine G_iconst 0 dr_cX17_run_21 (by decide +kernel) ?_
        have hT587532 : RS D I P582317 F587525 γ el := RS_set hT586669 n587527 ht586712 (by decide) ⟨f587528, he587530⟩
        have hm587533 : (γ 9 21) ∈ P582317 := RS_m hT587532 ht586713 (by decide)
        obtain ⟨f587535, he587534⟩ := show rk_23 I (F587525 (γ 9 21)) from RS_o hT587532 ht586713
        refine Gp_iast 0 hm587533 he587534 dr_cX17_run_22 rfl (gB_in bg586667' (by decide) (by decide)) (fun F587536 e587537 n587538 => ?_)
        obtain ⟨f587539, hf587539⟩ : ∃ z, z = upd f587535 g586667.toNatClampNeg 0 := ⟨_, rfl⟩
        rw [← hf587539] at e587537
        have he587540 : F587536 q582319 = .inr (22, [.ref (γ 9 0), .ref (γ 9 1), .ref (γ 9 2), .ref (γ 9 3), .ref (γ 9 4), .ref (γ 9 5), .ref (γ 9 6), .ref (γ 9 7), .ref (γ 9 8), .int p586681, .int p586682, .int p586683, .int p586684, .int p586685, .int p586686, .ref (γ 9 15), .ref (γ 9 16), .ref (γ 9 17), .ref (γ 9 18), .ref (γ 9 19), .ref (γ 9 20), .ref (γ 9 21), .ref (γ 9 22), .int p586687, .int p586688, .int p586689, .int p586690, .int p586691, .ref q586679, .ref (γ 9 29), .int p586692, .ref (γ 9 31), .int p586693, .int p586694, .int p586695, .ref q586680]) := (n587538 q582319 (rn_oa he587529 he587534)).trans he587529
        have he587541 : F587536 (γ 9 20) = .inl (I .int, 2000, .inl f587528) := (n587538 (γ 9 20) (rn_ty ht586712 ht586713 (by decide))).trans he587530
        have he587542 : F587536 (γ 9 21) = .inl (I .int, 2000, .inl f587539) := e587537
        have hs587543 : rStr γ [] F582318 F587536 := rStr_put hs587531 n587538 ht586713 (by decide)
        obtain ⟨z587544, hz587544⟩ : ∃ z : Int32, z = g586667 + Int32.ofInt 1 := ⟨_, rfl⟩
        have ez587544 : z587544.toInt = g586667.toInt + 1 := gI_inc hz587544 (by decide) bg586667' (by decide) (by decide)
        have bz587544 : gB z587544 1 2000 := ⟨by omega, by omega⟩
        refine G_iinc (L' := [(3, .int z587544), (0, .ref q582319), (1, .ref q582320), (2, .int p582321)]) z587544 0 dr_cX17_run_23 rfl hz587544.symm (Nat.le_of_ble_eq_true rfl) rfl ?_
        refine G_goto 2 dr_cX17_run_26 (by decide +kernel) ?_
        have hT587545 : RS D I P582317 F587536 γ el := RS_set hT587532 n587538 ht586713 (by decide) ⟨f587539, he587542⟩
        have ac587546 : (fI (F587536 q582319) 26).toInt = p586690.toInt := by rw [he587540]; rfl
        have ac587547 : (fI (F587536 q582319) 9).toInt = p586681.toInt := by rw [he587540]; rfl
        have ac587548 : (fI (F587536 q582319) 10).toInt = p586682.toInt := by rw [he587540]; rfl
        have ac587549 : (fI (F587536 q582319) 32).toInt = p586693.toInt := by rw [he587540]; rfl
        exact ih2_586673 F587536 z587544 (gB_w bz587544 (by decide) (by decide)) hT587545 hs587543 (by omega) (by omega) (by omega) (mz_up ez587544 (Int.le_trans bg586667'.2 (by decide)) hm2_586673)
  have ac587550 : (fI (F582318 q582319) 26).toInt = p582337.toInt := by rw [he582325]; rfl
  have ac587551 : (fI (F582318 q582319) 9).toInt = p582328.toInt := by rw [he582325]; rfl
  have ac587552 : (fI (F582318 q582319) 10).toInt = p582329.toInt := by rw [he582325]; rfl
  have ac587553 : (fI (F582318 q582319) 32).toInt = p582340.toInt := by rw [he582325]; rfl
  exact hlp2_586673 (((2001 : Int) - 0).toNat + 1) F582318 0 (gB_w (gBl (show Int32.toInt 0 = 0 by decide)) (by decide) (by decide)) hT (rStr_rf (γ := γ) (W := []) (F := F582318)) (by omega) (by omega) (by omega) (Nat.lt_succ_self _)
abbrev ky_587563_SpillForgeModel_run : gKey := (cX17_run_, 3, "SpillForgeModel", (some FieldType.int), [], "run", fun _ _ => True)
def pt_587563_SpillForgeModel_run (D : va_G) (I : FieldType → ClassId) (γ el : Nat → Nat → Nat) (P587556 : List Nat) (F587557 : Nat → va_E) (q587558 : Nat) (p587559 : Int32) (p587560 : Int32) : Option Value → va_W → Nat → Nat → Prop := fun r w dc ds => ∃ (F588075 : Nat → va_E) (o588074 : Int32), r = some (.int o588074) ∧ w = va_pl P587556 F588075 ∧ RS D I P587556 F588075 γ el ∧ rStr γ [] F587557 F588075 ∧ dc ≤ 0 ∧ ds ≤ 0 ∧ gB o588074 0 5 ∧ (fI (F588075 q587558) 9).toInt = (fI (F587557 q587558) 9).toInt ∧ (fI (F588075 q587558) 10).toInt = (fI (F587557 q587558) 10).toInt ∧ (fI (F588075 q587558) 32).toInt = (fI (F587557 q587558) 32).toInt
set_option maxRecDepth 100000 in
set_option maxHeartbeats 4000000 in
theorem ct_587563_SpillForgeModel_run (l : Launch) (hl0 : l.stackTraces = false) (D : va_G) (I : FieldType → ClassId) (γ el : Nat → Nat → Nat) (P587556 : List Nat) (F587557 : Nat → va_E) (q587558 : Nat) (p587559 : Int32) (p587560 : Int32) (hT : RS D I P587556 F587557 γ el) (htq587558 : rKd γ q587558 10) (bp587559 : gB p587559 0 1) (x587561 : ((fI (F587557 q587558) 9).toInt = 0 ∨ 0 < γ 6 0)) (x587562 : ((fI (F587557 q587558) 10).toInt = 0 ∨ 0 < γ 6 1)) : CtA (gV D I) l yX17_run_ cX17_run_ 3 (some FieldType.int) 5 111 0 0 [.ref q587558, .int p587559, .int p587560] (va_pl P587556 F587557) (pt_587563_SpillForgeModel_run D I γ el P587556 F587557 q587558 p587559 p587560) gNA := by
  refine CtA_of hl0 (by decide) (Nat.le_of_ble_eq_true rfl) ?_
  have bp587560 := gB_any p587560
  have hm587564 : q587558 ∈ P587556 := RS_m hT htq587558 (by decide)
  refine rk10_e (show rk_10 γ (F587557 q587558) from RS_o hT htq587558) (fun q587566 q587567 p587568 p587569 p587570 p587571 p587572 p587573 p587574 p587575 p587576 p587577 p587578 p587579 p587580 p587581 p587582 he587565 hB587609 ht587583 ht587584 ht587585 ht587586 ht587587 ht587588 ht587589 ht587590 ht587591 ht587592 ht587593 ht587594 ht587595 ht587596 ht587597 ht587598 ht587599 ht587600 ht587601 ht587602 ht587603 ht587604 ht587605 ht587606 hB587610 => ?_)
  have ac587611 : (fI (F587557 q587558) 9).toInt = p587568.toInt := by rw [he587565]; rfl
  have bp587568 : gB p587568 0 1 := (hB587609.1)
  have ac587612 : (fI (F587557 q587558) 10).toInt = p587569.toInt := by rw [he587565]; rfl
  have bp587569 : gB p587569 0 1 := (hB587609.2.1)
  have ac587613 : (fI (F587557 q587558) 32).toInt = p587580.toInt := by rw [he587565]; rfl
  have bp587580 : gB p587580 0 8192 := (hB587609.2.2.2.2.2.2.2.1)
  have fq587614 : γ 6 (γ 1 (γ 9 6)) = γ 6 0 := by rw [show γ 1 (γ 9 6) = 0 from ht587604]
  have fq587615 : γ 6 (γ 1 (γ 9 7)) = γ 6 1 := by rw [show γ 1 (γ 9 7) = 1 from ht587605]
  have fq587616 : γ 6 (γ 1 (γ 9 8)) = γ 6 2 := by rw [show γ 1 (γ 9 8) = 2 from ht587606]
  have r587617 : p587582.toInt ≤ γ 12 q587567 := by have z := hB587610; unfold rM2 at z; exact z.2.2
  refine G_aload_n 0 dr_cX17_run__0 rfl ?_
  refine G_iconst 0 dr_cX17_run__1 (by decide +kernel) ?_
  refine Gp_put 30 hm587564 he587565 dr_cX17_run__2 (gk_X17 D I) (Nat.le_of_ble_eq_true rfl) wr_7_104 rfl rfl rfl (Nat.le_of_ble_eq_true rfl) (fun F587618 e587619 n587620 => ?_)
  have he587621 : F587618 q587558 = .inr (22, [.ref (γ 9 0), .ref (γ 9 1), .ref (γ 9 2), .ref (γ 9 3), .ref (γ 9 4), .ref (γ 9 5), .ref (γ 9 6), .ref (γ 9 7), .ref (γ 9 8), .int p587568, .int p587569, .int p587570, .int p587571, .int p587572, .int p587573, .ref (γ 9 15), .ref (γ 9 16), .ref (γ 9 17), .ref (γ 9 18), .ref (γ 9 19), .ref (γ 9 20), .ref (γ 9 21), .ref (γ 9 22), .int p587574, .int p587575, .int p587576, .int p587577, .int p587578, .ref q587566, .ref (γ 9 29), .int 0, .ref (γ 9 31), .int p587580, .int p587581, .int p587582, .ref q587567]) := e587619
  have hs587622 : rStr γ [] F587557 F587618 := rStr_put (rStr_rf (γ := γ) (W := []) (F := F587557)) n587620 htq587558 (by decide)
  refine G_iload_n 2 dr_cX17_run__5 rfl ?_
  refine G_iconst 1 dr_cX17_run__6 (by decide +kernel) ?_
  refine G_icmp_lt 17 dr_cX17_run__7 (by decide +kernel) (fun hc587623 => ?_) (fun hc587623 => ?_)
  · have r587624 : p587560.toInt < 1 := gj_lt hc587623 (show Int32.toInt 1 = 1 by decide)
    have bp587560' : gB p587560 (-2147483648) 0 := ⟨by omega, by omega⟩
    refine G_aload_n 0 dr_cX17_run__17 rfl ?_
    refine G_iconst 1 dr_cX17_run__18 (by decide +kernel) ?_
    have hT587625 : RS D I P587556 F587618 γ el := RS_set hT n587620 htq587558 (by decide) ⟨q587566, q587567, p587568, p587569, p587570, p587571, p587572, p587573, p587574, p587575, p587576, p587577, p587578, 0, p587580, p587581, p587582, he587621, ⟨bp587568, bp587569, (hB587609.2.2.1), (hB587609.2.2.2.1), (hB587609.2.2.2.2.1), (hB587609.2.2.2.2.2.1), (hB587609.2.2.2.2.2.2.1), bp587580, (hB587609.2.2.2.2.2.2.2.2)⟩, ht587583, ht587584, ht587585, ht587586, ht587587, ht587588, ht587589, ht587590, ht587591, ht587592, ht587593, ht587594, ht587595, ht587596, ht587597, ht587598, ht587599, ht587600, ht587601, ht587602, ht587603, ht587604, ht587605, ht587606, hB587610⟩
    have ac587626 : (fI (F587618 q587558) 9).toInt = p587568.toInt := by rw [he587621]; rfl
    have ac587627 : (fI (F587618 q587558) 10).toInt = p587569.toInt := by rw [he587621]; rfl
    have ac587628 : (fI (F587618 q587558) 32).toInt = p587580.toInt := by rw [he587621]; rfl
    refine Gw_callV (As := [.int 1]) (gV_ok D I) (ct_580660_SpillForgeModel_no l hl0 D I γ el P587556 F587618 q587558 1 hT587625 htq587558) dr_cX17_run__19 ⟨wr_7_191, wr_1_14, wr_7_194, by decide, rfl, (Nat.le_of_ble_eq_true rfl), (Nat.le_of_ble_eq_true rfl)⟩ wr_7_193 wr_p_73 hm587564 he587621 rfl (show 0 + 0 ≤ 0 by first | omega | decide) (show 0 + 0 ≤ 0 by first | omega | decide) (Nat.le_of_ble_eq_true rfl) (fun r587632 w587633 dc587629 ds587630 hp587631 => ?_) (fun _ _ _ _ _ z => z.elim)
    obtain ⟨F587639, rfl, rfl, hT587640, hs587641, hdc, hds, x587634, x587635, x587636, x587637, ht587638⟩ := hp587631
    have hs587642 : rStr γ [] F587557 F587639 := rStr_tr hs587622 hs587641
    rw [show Int32.toInt 1 = 1 from by decide] at x587637
    change G _ _ _ _ _ _ _ (.int 0 :: _) _ _ _
    refine G_widen (cs' := 0) (sl' := 0) (by omega) (by omega) ?_
    have hm587643 : q587558 ∈ P587556 := RS_m hT587640 htq587558 (by decide)
    refine rk10_e (show rk_10 γ (F587639 q587558) from RS_o hT587640 htq587558) (fun q587645 q587646 p587647 p587648 p587649 p587650 p587651 p587652 p587653 p587654 p587655 p587656 p587657 p587658 p587659 p587660 p587661 he587644 hB587688 ht587662 ht587663 ht587664 ht587665 ht587666 ht587667 ht587668 ht587669 ht587670 ht587671 ht587672 ht587673 ht587674 ht587675 ht587676 ht587677 ht587678 ht587679 ht587680 ht587681 ht587682 ht587683 ht587684 ht587685 hB587689 => ?_)
    have ac587690 : (fI (F587639 q587558) 9).toInt = p587647.toInt := by rw [he587644]; rfl
    have bp587647 : gB p587647 0 1 := (hB587688.1)
    have ac587691 : (fI (F587639 q587558) 10).toInt = p587648.toInt := by rw [he587644]; rfl
    have bp587648 : gB p587648 0 1 := (hB587688.2.1)
    have ac587692 : (fI (F587639 q587558) 32).toInt = p587659.toInt := by rw [he587644]; rfl
    have bp587659 : gB p587659 0 8192 := (hB587688.2.2.2.2.2.2.2.1)
    have ac587693 : (fI (F587639 q587558) 9).toInt = p587647.toInt := by rw [he587644]; rfl
    have ac587694 : (fI (F587639 q587558) 10).toInt = p587648.toInt := by rw [he587644]; rfl
    have ac587695 : (fI (F587639 q587558) 32).toInt = p587659.toInt := by rw [he587644]; rfl
    exact G_iretA dr_cX17_run__22 rfl (Nat.le_of_ble_eq_true rfl) (Nat.le_of_ble_eq_true rfl) ⟨F587639, 0, rfl, rfl, hT587640, hs587642, (Nat.le_of_ble_eq_true rfl), (Nat.le_of_ble_eq_true rfl), (gB_w (gBl (show Int32.toInt 0 = 0 by decide)) (by decide) (by decide)), (by have qa0 : Int32.toInt 0 = 0 := (by decide); omega), (by have qa0 : Int32.toInt 0 = 0 := (by decide); omega), (by have qa0 : Int32.toInt 0 = 0 := (by decide); omega)⟩
  · have r587696 : 1 ≤ p587560.toInt := gj_nlt hc587623 (show Int32.toInt 1 = 1 by decide)
    have bp587560' : gB p587560 1 2147483647 := ⟨by omega, by omega⟩
    refine G_iload_n 2 dr_cX17_run__10 rfl ?_
    refine G_ldcw 100000 dr_cX17_run__11 wr_11_91 ?_
    refine G_icmp_le 23 dr_cX17_run__14 (by decide +kernel) (fun hc587697 => ?_) (fun hc587697 => ?_)
    · have r587698 : p587560.toInt ≤ 100000 := gj_le hc587697 (show Int32.toInt 100000 = 100000 by decide)
      have bp587560'' : gB p587560 1 100000 := ⟨by omega, by omega⟩
      refine G_iload_n 1 dr_cX17_run__23 rfl ?_
      refine G_if_eq 37 dr_cX17_run__24 (by decide +kernel) (fun hc587699 => ?_) (fun hc587699 => ?_)
      · have r587700 : p587559.toInt = 0 := gj_eq hc587699 (show Int32.toInt 0 = 0 by decide)
        have bp587559' : gB p587559 0 0 := gB_t0 r587700
        refine G_aload_n 0 dr_cX17_run__37 rfl ?_
        refine Gp_get 9 hm587564 he587621 dr_cX17_run__38 (gk_X17 D I) (Nat.le_of_ble_eq_true rfl) wr_7_83 rfl ?_
        refine G_if_ne 50 dr_cX17_run__41 (by decide +kernel) (fun hc587701 => ?_) (fun hc587701 => ?_)
        · have r587702 : p587568.toInt ≠ 0 := gj_neq hc587701 (show Int32.toInt 0 = 0 by decide)
          have bp587568' : gB p587568 1 1 := gB_t1 bp587568 r587702
          refine G_aload_n 0 dr_cX17_run__50 rfl ?_
          refine G_aload_n 0 dr_cX17_run__51 rfl ?_
          refine G_iload_n 1 dr_cX17_run__52 rfl ?_
          refine G_if_eq 63 dr_cX17_run__53 (by decide +kernel) (fun _ => ?_) (fun hc => absurd (show False by have := gj_neq hc (show Int32.toInt 0 = 0 by decide); omega) not_false)
          refine G_aload_n 0 dr_cX17_run__63 rfl ?_
          refine Gp_get 6 hm587564 he587621 dr_cX17_run__64 (gk_X17 D I) (Nat.le_of_ble_eq_true rfl) wr_7_80 rfl ?_
          refine G_iload_n 2 dr_cX17_run__67 rfl ?_
          have hT587703 : RS D I P587556 F587618 γ el := RS_set hT n587620 htq587558 (by decide) ⟨q587566, q587567, p587568, p587569, p587570, p587571, p587572, p587573, p587574, p587575, p587576, p587577, p587578, 0, p587580, p587581, p587582, he587621, ⟨(gB_w bp587568' (by decide) (by decide)), bp587569, (hB587609.2.2.1), (hB587609.2.2.2.1), (hB587609.2.2.2.2.1), (hB587609.2.2.2.2.2.1), (hB587609.2.2.2.2.2.2.1), bp587580, (hB587609.2.2.2.2.2.2.2.2)⟩, ht587583, ht587584, ht587585, ht587586, ht587587, ht587588, ht587589, ht587590, ht587591, ht587592, ht587593, ht587594, ht587595, ht587596, ht587597, ht587598, ht587599, ht587600, ht587601, ht587602, ht587603, ht587604, ht587605, ht587606, hB587610⟩
          have ac587704 : (fI (F587618 q587558) 9).toInt = p587568.toInt := by rw [he587621]; rfl
          have ac587705 : (fI (F587618 q587558) 10).toInt = p587569.toInt := by rw [he587621]; rfl
          have ac587706 : (fI (F587618 q587558) 32).toInt = p587580.toInt := by rw [he587621]; rfl
          refine Gw_callV (As := [.ref (γ 9 6), .int p587560]) (gV_ok D I) (ct_582323_SpillForgeModel_run l hl0 D I γ el P587556 F587618 q587558 (γ 9 6) p587560 hT587703 htq587558 ht587591 bp587560'' (by have qa0 : Int32.toInt 0 = 0 := (by decide); omega)) dr_cX17_run__68 ⟨wr_11_92, wr_1_14, wr_11_95, by decide, rfl, (Nat.le_of_ble_eq_true rfl), (Nat.le_of_ble_eq_true rfl)⟩ wr_11_94 wr_p_113 hm587564 he587621 rfl (show 0 + 0 ≤ 0 by first | omega | decide) (show 0 + 0 ≤ 0 by first | omega | decide) (Nat.le_of_ble_eq_true rfl) (fun r587710 w587711 dc587707 ds587708 hp587709 => ?_) (fun _ _ _ _ _ z => z.elim)
          obtain ⟨F587716, o587712, rfl, rfl, hT587717, hs587718, hdc, hds, bo587712, x587713, x587714, x587715⟩ := hp587709
          have hs587719 : rStr γ [] F587557 F587716 := rStr_tr hs587622 hs587718
          change G _ _ _ _ _ _ _ (.int o587712 :: _) _ _ _
          refine G_widen (cs' := 0) (sl' := 0) (by omega) (by omega) ?_
          have hm587720 : q587558 ∈ P587556 := RS_m hT587717 htq587558 (by decide)
          refine rk10_e (show rk_10 γ (F587716 q587558) from RS_o hT587717 htq587558) (fun q587722 q587723 p587724 p587725 p587726 p587727 p587728 p587729 p587730 p587731 p587732 p587733 p587734 p587735 p587736 p587737 p587738 he587721 hB587765 ht587739 ht587740 ht587741 ht587742 ht587743 ht587744 ht587745 ht587746 ht587747 ht587748 ht587749 ht587750 ht587751 ht587752 ht587753 ht587754 ht587755 ht587756 ht587757 ht587758 ht587759 ht587760 ht587761 ht587762 hB587766 => ?_)
          have ac587767 : (fI (F587716 q587558) 9).toInt = p587724.toInt := by rw [he587721]; rfl
          have bp587724 : gB p587724 0 1 := (hB587765.1)
          have ac587768 : (fI (F587716 q587558) 10).toInt = p587725.toInt := by rw [he587721]; rfl
          have bp587725 : gB p587725 0 1 := (hB587765.2.1)
          have ac587769 : (fI (F587716 q587558) 32).toInt = p587736.toInt := by rw [he587721]; rfl
          have bp587736 : gB p587736 0 8192 := (hB587765.2.2.2.2.2.2.2.1)
          refine Gp_put 23 hm587720 he587721 dr_cX17_run__71 (gk_X17 D I) (Nat.le_of_ble_eq_true rfl) wr_7_97 rfl rfl rfl (Nat.le_of_ble_eq_true rfl) (fun F587770 e587771 n587772 => ?_)
          have he587773 : F587770 q587558 = .inr (22, [.ref (γ 9 0), .ref (γ 9 1), .ref (γ 9 2), .ref (γ 9 3), .ref (γ 9 4), .ref (γ 9 5), .ref (γ 9 6), .ref (γ 9 7), .ref (γ 9 8), .int p587724, .int p587725, .int p587726, .int p587727, .int p587728, .int p587729, .ref (γ 9 15), .ref (γ 9 16), .ref (γ 9 17), .ref (γ 9 18), .ref (γ 9 19), .ref (γ 9 20), .ref (γ 9 21), .ref (γ 9 22), .int o587712, .int p587731, .int p587732, .int p587733, .int p587734, .ref q587722, .ref (γ 9 29), .int p587735, .ref (γ 9 31), .int p587736, .int p587737, .int p587738, .ref q587723]) := e587771
          have hs587774 : rStr γ [] F587557 F587770 := rStr_put hs587719 n587772 htq587558 (by decide)
          refine G_aload_n 0 dr_cX17_run__74 rfl ?_
          refine Gp_get 23 hm587720 he587773 dr_cX17_run__75 (gk_X17 D I) (Nat.le_of_ble_eq_true rfl) wr_7_97 rfl ?_
          have hT587775 : RS D I P587556 F587770 γ el := RS_set hT587717 n587772 htq587558 (by decide) ⟨q587722, q587723, p587724, p587725, p587726, p587727, p587728, p587729, o587712, p587731, p587732, p587733, p587734, p587735, p587736, p587737, p587738, he587773, ⟨bp587724, bp587725, (hB587765.2.2.1), (hB587765.2.2.2.1), (hB587765.2.2.2.2.1), (hB587765.2.2.2.2.2.1), (hB587765.2.2.2.2.2.2.1), bp587736, (hB587765.2.2.2.2.2.2.2.2)⟩, ht587739, ht587740, ht587741, ht587742, ht587743, ht587744, ht587745, ht587746, ht587747, ht587748, ht587749, ht587750, ht587751, ht587752, ht587753, ht587754, ht587755, ht587756, ht587757, ht587758, ht587759, ht587760, ht587761, ht587762, hB587766⟩
          have ac587776 : (fI (F587770 q587558) 9).toInt = p587724.toInt := by rw [he587773]; rfl
          have ac587777 : (fI (F587770 q587558) 10).toInt = p587725.toInt := by rw [he587773]; rfl
          have ac587778 : (fI (F587770 q587558) 32).toInt = p587736.toInt := by rw [he587773]; rfl
          exact G_iretA dr_cX17_run__78 rfl (Nat.le_of_ble_eq_true rfl) (Nat.le_of_ble_eq_true rfl) ⟨F587770, o587712, rfl, rfl, hT587775, hs587774, (Nat.le_of_ble_eq_true rfl), (Nat.le_of_ble_eq_true rfl), bo587712, (by omega), (by omega), (by omega)⟩
        · have r587779 : p587568.toInt = 0 := gj_eq hc587701 (show Int32.toInt 0 = 0 by decide)
          have bp587568' : gB p587568 0 0 := gB_t0 r587779
          refine G_aload_n 0 dr_cX17_run__44 rfl ?_
          refine G_iconst 2 dr_cX17_run__45 (by decide +kernel) ?_
          have hT587780 : RS D I P587556 F587618 γ el := RS_set hT n587620 htq587558 (by decide) ⟨q587566, q587567, p587568, p587569, p587570, p587571, p587572, p587573, p587574, p587575, p587576, p587577, p587578, 0, p587580, p587581, p587582, he587621, ⟨(gB_w bp587568' (by decide) (by decide)), bp587569, (hB587609.2.2.1), (hB587609.2.2.2.1), (hB587609.2.2.2.2.1), (hB587609.2.2.2.2.2.1), (hB587609.2.2.2.2.2.2.1), bp587580, (hB587609.2.2.2.2.2.2.2.2)⟩, ht587583, ht587584, ht587585, ht587586, ht587587, ht587588, ht587589, ht587590, ht587591, ht587592, ht587593, ht587594, ht587595, ht587596, ht587597, ht587598, ht587599, ht587600, ht587601, ht587602, ht587603, ht587604, ht587605, ht587606, hB587610⟩
          have ac587781 : (fI (F587618 q587558) 9).toInt = p587568.toInt := by rw [he587621]; rfl
          have ac587782 : (fI (F587618 q587558) 10).toInt = p587569.toInt := by rw [he587621]; rfl
          have ac587783 : (fI (F587618 q587558) 32).toInt = p587580.toInt := by rw [he587621]; rfl
          refine Gw_callV (As := [.int 2]) (gV_ok D I) (ct_580660_SpillForgeModel_no l hl0 D I γ el P587556 F587618 q587558 2 hT587780 htq587558) dr_cX17_run__46 ⟨wr_7_191, wr_1_14, wr_7_194, by decide, rfl, (Nat.le_of_ble_eq_true rfl), (Nat.le_of_ble_eq_true rfl)⟩ wr_7_193 wr_p_73 hm587564 he587621 rfl (show 0 + 0 ≤ 0 by first | omega | decide) (show 0 + 0 ≤ 0 by first | omega | decide) (Nat.le_of_ble_eq_true rfl) (fun r587787 w587788 dc587784 ds587785 hp587786 => ?_) (fun _ _ _ _ _ z => z.elim)
          obtain ⟨F587794, rfl, rfl, hT587795, hs587796, hdc, hds, x587789, x587790, x587791, x587792, ht587793⟩ := hp587786
          have hs587797 : rStr γ [] F587557 F587794 := rStr_tr hs587622 hs587796
          rw [show Int32.toInt 2 = 2 from by decide] at x587792
          change G _ _ _ _ _ _ _ (.int 0 :: _) _ _ _
          refine G_widen (cs' := 0) (sl' := 0) (by omega) (by omega) ?_
          have hm587798 : q587558 ∈ P587556 := RS_m hT587795 htq587558 (by decide)
          refine rk10_e (show rk_10 γ (F587794 q587558) from RS_o hT587795 htq587558) (fun q587800 q587801 p587802 p587803 p587804 p587805 p587806 p587807 p587808 p587809 p587810 p587811 p587812 p587813 p587814 p587815 p587816 he587799 hB587843 ht587817 ht587818 ht587819 ht587820 ht587821 ht587822 ht587823 ht587824 ht587825 ht587826 ht587827 ht587828 ht587829 ht587830 ht587831 ht587832 ht587833 ht587834 ht587835 ht587836 ht587837 ht587838 ht587839 ht587840 hB587844 => ?_)
          have ac587845 : (fI (F587794 q587558) 9).toInt = p587802.toInt := by rw [he587799]; rfl
          have bp587802 : gB p587802 0 1 := (hB587843.1)
          have ac587846 : (fI (F587794 q587558) 10).toInt = p587803.toInt := by rw [he587799]; rfl
          have bp587803 : gB p587803 0 1 := (hB587843.2.1)
          have ac587847 : (fI (F587794 q587558) 32).toInt = p587814.toInt := by rw [he587799]; rfl
          have bp587814 : gB p587814 0 8192 := (hB587843.2.2.2.2.2.2.2.1)
          have ac587848 : (fI (F587794 q587558) 9).toInt = p587802.toInt := by rw [he587799]; rfl
          have ac587849 : (fI (F587794 q587558) 10).toInt = p587803.toInt := by rw [he587799]; rfl
          have ac587850 : (fI (F587794 q587558) 32).toInt = p587814.toInt := by rw [he587799]; rfl
          exact G_iretA dr_cX17_run__49 rfl (Nat.le_of_ble_eq_true rfl) (Nat.le_of_ble_eq_true rfl) ⟨F587794, 0, rfl, rfl, hT587795, hs587797, (Nat.le_of_ble_eq_true rfl), (Nat.le_of_ble_eq_true rfl), (gB_w (gBl (show Int32.toInt 0 = 0 by decide)) (by decide) (by decide)), (by have qa0 : Int32.toInt 0 = 0 := (by decide); omega), (by have qa0 : Int32.toInt 0 = 0 := (by decide); omega), (by have qa0 : Int32.toInt 0 = 0 := (by decide); omega)⟩
      · have r587851 : p587559.toInt ≠ 0 := gj_neq hc587699 (show Int32.toInt 0 = 0 by decide)
        have bp587559' : gB p587559 1 1 := gB_t1 bp587559 r587851
        refine G_aload_n 0 dr_cX17_run__27 rfl ?_
        refine Gp_get 10 hm587564 he587621 dr_cX17_run__28 (gk_X17 D I) (Nat.le_of_ble_eq_true rfl) wr_7_84 rfl ?_
        refine G_if_ne 50 dr_cX17_run__31 (by decide +kernel) (fun hc587852 => ?_) (fun hc587852 => ?_)
        · have r587853 : p587569.toInt ≠ 0 := gj_neq hc587852 (show Int32.toInt 0 = 0 by decide)
          have bp587569' : gB p587569 1 1 := gB_t1 bp587569 r587853
          refine G_aload_n 0 dr_cX17_run__50 rfl ?_
          refine G_aload_n 0 dr_cX17_run__51 rfl ?_
          refine G_iload_n 1 dr_cX17_run__52 rfl ?_
          refine G_if_eq 63 dr_cX17_run__53 (by decide +kernel) (fun hc => absurd (show False by have := gj_eq hc (show Int32.toInt 0 = 0 by decide); omega) not_false) (fun _ => ?_)
          refine G_aload_n 0 dr_cX17_run__56 rfl ?_
          refine Gp_get 7 hm587564 he587621 dr_cX17_run__57 (gk_X17 D I) (Nat.le_of_ble_eq_true rfl) wr_7_81 rfl ?_
          refine G_goto 67 dr_cX17_run__60 (by decide +kernel) ?_
          refine G_iload_n 2 dr_cX17_run__67 rfl ?_
          have hT587854 : RS D I P587556 F587618 γ el := RS_set hT n587620 htq587558 (by decide) ⟨q587566, q587567, p587568, p587569, p587570, p587571, p587572, p587573, p587574, p587575, p587576, p587577, p587578, 0, p587580, p587581, p587582, he587621, ⟨bp587568, (gB_w bp587569' (by decide) (by decide)), (hB587609.2.2.1), (hB587609.2.2.2.1), (hB587609.2.2.2.2.1), (hB587609.2.2.2.2.2.1), (hB587609.2.2.2.2.2.2.1), bp587580, (hB587609.2.2.2.2.2.2.2.2)⟩, ht587583, ht587584, ht587585, ht587586, ht587587, ht587588, ht587589, ht587590, ht587591, ht587592, ht587593, ht587594, ht587595, ht587596, ht587597, ht587598, ht587599, ht587600, ht587601, ht587602, ht587603, ht587604, ht587605, ht587606, hB587610⟩
          have ac587855 : (fI (F587618 q587558) 9).toInt = p587568.toInt := by rw [he587621]; rfl
          have ac587856 : (fI (F587618 q587558) 10).toInt = p587569.toInt := by rw [he587621]; rfl
          have ac587857 : (fI (F587618 q587558) 32).toInt = p587580.toInt := by rw [he587621]; rfl
          refine Gw_callV (As := [.ref (γ 9 7), .int p587560]) (gV_ok D I) (ct_582323_SpillForgeModel_run l hl0 D I γ el P587556 F587618 q587558 (γ 9 7) p587560 hT587854 htq587558 ht587592 bp587560'' (by have qa0 : Int32.toInt 0 = 0 := (by decide); omega)) dr_cX17_run__68 ⟨wr_11_92, wr_1_14, wr_11_95, by decide, rfl, (Nat.le_of_ble_eq_true rfl), (Nat.le_of_ble_eq_true rfl)⟩ wr_11_94 wr_p_113 hm587564 he587621 rfl (show 0 + 0 ≤ 0 by first | omega | decide) (show 0 + 0 ≤ 0 by first | omega | decide) (Nat.le_of_ble_eq_true rfl) (fun r587861 w587862 dc587858 ds587859 hp587860 => ?_) (fun _ _ _ _ _ z => z.elim)
          obtain ⟨F587867, o587863, rfl, rfl, hT587868, hs587869, hdc, hds, bo587863, x587864, x587865, x587866⟩ := hp587860
          have hs587870 : rStr γ [] F587557 F587867 := rStr_tr hs587622 hs587869
          change G _ _ _ _ _ _ _ (.int o587863 :: _) _ _ _
          refine G_widen (cs' := 0) (sl' := 0) (by omega) (by omega) ?_
          have hm587871 : q587558 ∈ P587556 := RS_m hT587868 htq587558 (by decide)
          refine rk10_e (show rk_10 γ (F587867 q587558) from RS_o hT587868 htq587558) (fun q587873 q587874 p587875 p587876 p587877 p587878 p587879 p587880 p587881 p587882 p587883 p587884 p587885 p587886 p587887 p587888 p587889 he587872 hB587916 ht587890 ht587891 ht587892 ht587893 ht587894 ht587895 ht587896 ht587897 ht587898 ht587899 ht587900 ht587901 ht587902 ht587903 ht587904 ht587905 ht587906 ht587907 ht587908 ht587909 ht587910 ht587911 ht587912 ht587913 hB587917 => ?_)
          have ac587918 : (fI (F587867 q587558) 9).toInt = p587875.toInt := by rw [he587872]; rfl
          have bp587875 : gB p587875 0 1 := (hB587916.1)
          have ac587919 : (fI (F587867 q587558) 10).toInt = p587876.toInt := by rw [he587872]; rfl
          have bp587876 : gB p587876 0 1 := (hB587916.2.1)
          have ac587920 : (fI (F587867 q587558) 32).toInt = p587887.toInt := by rw [he587872]; rfl
          have bp587887 : gB p587887 0 8192 := (hB587916.2.2.2.2.2.2.2.1)
          refine Gp_put 23 hm587871 he587872 dr_cX17_run__71 (gk_X17 D I) (Nat.le_of_ble_eq_true rfl) wr_7_97 rfl rfl rfl (Nat.le_of_ble_eq_true rfl) (fun F587921 e587922 n587923 => ?_)
          have he587924 : F587921 q587558 = .inr (22, [.ref (γ 9 0), .ref (γ 9 1), .ref (γ 9 2), .ref (γ 9 3), .ref (γ 9 4), .ref (γ 9 5), .ref (γ 9 6), .ref (γ 9 7), .ref (γ 9 8), .int p587875, .int p587876, .int p587877, .int p587878, .int p587879, .int p587880, .ref (γ 9 15), .ref (γ 9 16), .ref (γ 9 17), .ref (γ 9 18), .ref (γ 9 19), .ref (γ 9 20), .ref (γ 9 21), .ref (γ 9 22), .int o587863, .int p587882, .int p587883, .int p587884, .int p587885, .ref q587873, .ref (γ 9 29), .int p587886, .ref (γ 9 31), .int p587887, .int p587888, .int p587889, .ref q587874]) := e587922
          have hs587925 : rStr γ [] F587557 F587921 := rStr_put hs587870 n587923 htq587558 (by decide)
          refine G_aload_n 0 dr_cX17_run__74 rfl ?_
          refine Gp_get 23 hm587871 he587924 dr_cX17_run__75 (gk_X17 D I) (Nat.le_of_ble_eq_true rfl) wr_7_97 rfl ?_
          have hT587926 : RS D I P587556 F587921 γ el := RS_set hT587868 n587923 htq587558 (by decide) ⟨q587873, q587874, p587875, p587876, p587877, p587878, p587879, p587880, o587863, p587882, p587883, p587884, p587885, p587886, p587887, p587888, p587889, he587924, ⟨bp587875, bp587876, (hB587916.2.2.1), (hB587916.2.2.2.1), (hB587916.2.2.2.2.1), (hB587916.2.2.2.2.2.1), (hB587916.2.2.2.2.2.2.1), bp587887, (hB587916.2.2.2.2.2.2.2.2)⟩, ht587890, ht587891, ht587892, ht587893, ht587894, ht587895, ht587896, ht587897, ht587898, ht587899, ht587900, ht587901, ht587902, ht587903, ht587904, ht587905, ht587906, ht587907, ht587908, ht587909, ht587910, ht587911, ht587912, ht587913, hB587917⟩
          have ac587927 : (fI (F587921 q587558) 9).toInt = p587875.toInt := by rw [he587924]; rfl
          have ac587928 : (fI (F587921 q587558) 10).toInt = p587876.toInt := by rw [he587924]; rfl
          have ac587929 : (fI (F587921 q587558) 32).toInt = p587887.toInt := by rw [he587924]; rfl
          exact G_iretA dr_cX17_run__78 rfl (Nat.le_of_ble_eq_true rfl) (Nat.le_of_ble_eq_true rfl) ⟨F587921, o587863, rfl, rfl, hT587926, hs587925, (Nat.le_of_ble_eq_true rfl), (Nat.le_of_ble_eq_true rfl), bo587863, (by omega), (by omega), (by omega)⟩
        · have r587930 : p587569.toInt = 0 := gj_eq hc587852 (show Int32.toInt 0 = 0 by decide)
          have bp587569' : gB p587569 0 0 := gB_t0 r587930
          refine G_goto 44 dr_cX17_run__34 (by decide +kernel) ?_
          refine G_aload_n 0 dr_cX17_run__44 rfl ?_
          refine G_iconst 2 dr_cX17_run__45 (by decide +kernel) ?_
          have hT587931 : RS D I P587556 F587618 γ el := RS_set hT n587620 htq587558 (by decide) ⟨q587566, q587567, p587568, p587569, p587570, p587571, p587572, p587573, p587574, p587575, p587576, p587577, p587578, 0, p587580, p587581, p587582, he587621, ⟨bp587568, (gB_w bp587569' (by decide) (by decide)), (hB587609.2.2.1), (hB587609.2.2.2.1), (hB587609.2.2.2.2.1), (hB587609.2.2.2.2.2.1), (hB587609.2.2.2.2.2.2.1), bp587580, (hB587609.2.2.2.2.2.2.2.2)⟩, ht587583, ht587584, ht587585, ht587586, ht587587, ht587588, ht587589, ht587590, ht587591, ht587592, ht587593, ht587594, ht587595, ht587596, ht587597, ht587598, ht587599, ht587600, ht587601, ht587602, ht587603, ht587604, ht587605, ht587606, hB587610⟩
          have ac587932 : (fI (F587618 q587558) 9).toInt = p587568.toInt := by rw [he587621]; rfl
          have ac587933 : (fI (F587618 q587558) 10).toInt = p587569.toInt := by rw [he587621]; rfl
          have ac587934 : (fI (F587618 q587558) 32).toInt = p587580.toInt := by rw [he587621]; rfl
          refine Gw_callV (As := [.int 2]) (gV_ok D I) (ct_580660_SpillForgeModel_no l hl0 D I γ el P587556 F587618 q587558 2 hT587931 htq587558) dr_cX17_run__46 ⟨wr_7_191, wr_1_14, wr_7_194, by decide, rfl, (Nat.le_of_ble_eq_true rfl), (Nat.le_of_ble_eq_true rfl)⟩ wr_7_193 wr_p_73 hm587564 he587621 rfl (show 0 + 0 ≤ 0 by first | omega | decide) (show 0 + 0 ≤ 0 by first | omega | decide) (Nat.le_of_ble_eq_true rfl) (fun r587938 w587939 dc587935 ds587936 hp587937 => ?_) (fun _ _ _ _ _ z => z.elim)
          obtain ⟨F587945, rfl, rfl, hT587946, hs587947, hdc, hds, x587940, x587941, x587942, x587943, ht587944⟩ := hp587937
          have hs587948 : rStr γ [] F587557 F587945 := rStr_tr hs587622 hs587947
          rw [show Int32.toInt 2 = 2 from by decide] at x587943
          change G _ _ _ _ _ _ _ (.int 0 :: _) _ _ _
          refine G_widen (cs' := 0) (sl' := 0) (by omega) (by omega) ?_
          have hm587949 : q587558 ∈ P587556 := RS_m hT587946 htq587558 (by decide)
          refine rk10_e (show rk_10 γ (F587945 q587558) from RS_o hT587946 htq587558) (fun q587951 q587952 p587953 p587954 p587955 p587956 p587957 p587958 p587959 p587960 p587961 p587962 p587963 p587964 p587965 p587966 p587967 he587950 hB587994 ht587968 ht587969 ht587970 ht587971 ht587972 ht587973 ht587974 ht587975 ht587976 ht587977 ht587978 ht587979 ht587980 ht587981 ht587982 ht587983 ht587984 ht587985 ht587986 ht587987 ht587988 ht587989 ht587990 ht587991 hB587995 => ?_)
          have ac587996 : (fI (F587945 q587558) 9).toInt = p587953.toInt := by rw [he587950]; rfl
          have bp587953 : gB p587953 0 1 := (hB587994.1)
          have ac587997 : (fI (F587945 q587558) 10).toInt = p587954.toInt := by rw [he587950]; rfl
          have bp587954 : gB p587954 0 1 := (hB587994.2.1)
          have ac587998 : (fI (F587945 q587558) 32).toInt = p587965.toInt := by rw [he587950]; rfl
          have bp587965 : gB p587965 0 8192 := (hB587994.2.2.2.2.2.2.2.1)
          have ac587999 : (fI (F587945 q587558) 9).toInt = p587953.toInt := by rw [he587950]; rfl
          have ac588000 : (fI (F587945 q587558) 10).toInt = p587954.toInt := by rw [he587950]; rfl
          have ac588001 : (fI (F587945 q587558) 32).toInt = p587965.toInt := by rw [he587950]; rfl
          exact G_iretA dr_cX17_run__49 rfl (Nat.le_of_ble_eq_true rfl) (Nat.le_of_ble_eq_true rfl) ⟨F587945, 0, rfl, rfl, hT587946, hs587948, (Nat.le_of_ble_eq_true rfl), (Nat.le_of_ble_eq_true rfl), (gB_w (gBl (show Int32.toInt 0 = 0 by decide)) (by decide) (by decide)), (by have qa0 : Int32.toInt 0 = 0 := (by decide); omega), (by have qa0 : Int32.toInt 0 = 0 := (by decide); omega), (by have qa0 : Int32.toInt 0 = 0 := (by decide); omega)⟩
    · have r588002 : 100000 < p587560.toInt := gj_nle hc587697 (show Int32.toInt 100000 = 100000 by decide)
      have bp587560'' : gB p587560 100001 2147483647 := ⟨by omega, by omega⟩
      refine G_aload_n 0 dr_cX17_run__17 rfl ?_
      refine G_iconst 1 dr_cX17_run__18 (by decide +kernel) ?_
      have hT588003 : RS D I P587556 F587618 γ el := RS_set hT n587620 htq587558 (by decide) ⟨q587566, q587567, p587568, p587569, p587570, p587571, p587572, p587573, p587574, p587575, p587576, p587577, p587578, 0, p587580, p587581, p587582, he587621, ⟨bp587568, bp587569, (hB587609.2.2.1), (hB587609.2.2.2.1), (hB587609.2.2.2.2.1), (hB587609.2.2.2.2.2.1), (hB587609.2.2.2.2.2.2.1), bp587580, (hB587609.2.2.2.2.2.2.2.2)⟩, ht587583, ht587584, ht587585, ht587586, ht587587, ht587588, ht587589, ht587590, ht587591, ht587592, ht587593, ht587594, ht587595, ht587596, ht587597, ht587598, ht587599, ht587600, ht587601, ht587602, ht587603, ht587604, ht587605, ht587606, hB587610⟩
      have ac588004 : (fI (F587618 q587558) 9).toInt = p587568.toInt := by rw [he587621]; rfl
      have ac588005 : (fI (F587618 q587558) 10).toInt = p587569.toInt := by rw [he587621]; rfl
      have ac588006 : (fI (F587618 q587558) 32).toInt = p587580.toInt := by rw [he587621]; rfl
      refine Gw_callV (As := [.int 1]) (gV_ok D I) (ct_580660_SpillForgeModel_no l hl0 D I γ el P587556 F587618 q587558 1 hT588003 htq587558) dr_cX17_run__19 ⟨wr_7_191, wr_1_14, wr_7_194, by decide, rfl, (Nat.le_of_ble_eq_true rfl), (Nat.le_of_ble_eq_true rfl)⟩ wr_7_193 wr_p_73 hm587564 he587621 rfl (show 0 + 0 ≤ 0 by first | omega | decide) (show 0 + 0 ≤ 0 by first | omega | decide) (Nat.le_of_ble_eq_true rfl) (fun r588010 w588011 dc588007 ds588008 hp588009 => ?_) (fun _ _ _ _ _ z => z.elim)
      obtain ⟨F588017, rfl, rfl, hT588018, hs588019, hdc, hds, x588012, x588013, x588014, x588015, ht588016⟩ := hp588009
      have hs588020 : rStr γ [] F587557 F588017 := rStr_tr hs587622 hs588019
      rw [show Int32.toInt 1 = 1 from by decide] at x588015
      change G _ _ _ _ _ _ _ (.int 0 :: _) _ _ _
      refine G_widen (cs' := 0) (sl' := 0) (by omega) (by omega) ?_
      have hm588021 : q587558 ∈ P587556 := RS_m hT588018 htq587558 (by decide)
      refine rk10_e (show rk_10 γ (F588017 q587558) from RS_o hT588018 htq587558) (fun q588023 q588024 p588025 p588026 p588027 p588028 p588029 p588030 p588031 p588032 p588033 p588034 p588035 p588036 p588037 p588038 p588039 he588022 hB588066 ht588040 ht588041 ht588042 ht588043 ht588044 ht588045 ht588046 ht588047 ht588048 ht588049 ht588050 ht588051 ht588052 ht588053 ht588054 ht588055 ht588056 ht588057 ht588058 ht588059 ht588060 ht588061 ht588062 ht588063 hB588067 => ?_)
      have ac588068 : (fI (F588017 q587558) 9).toInt = p588025.toInt := by rw [he588022]; rfl
      have bp588025 : gB p588025 0 1 := (hB588066.1)
      have ac588069 : (fI (F588017 q587558) 10).toInt = p588026.toInt := by rw [he588022]; rfl
      have bp588026 : gB p588026 0 1 := (hB588066.2.1)
      have ac588070 : (fI (F588017 q587558) 32).toInt = p588037.toInt := by rw [he588022]; rfl
      have bp588037 : gB p588037 0 8192 := (hB588066.2.2.2.2.2.2.2.1)
      have ac588071 : (fI (F588017 q587558) 9).toInt = p588025.toInt := by rw [he588022]; rfl
      have ac588072 : (fI (F588017 q587558) 10).toInt = p588026.toInt := by rw [he588022]; rfl
      have ac588073 : (fI (F588017 q587558) 32).toInt = p588037.toInt := by rw [he588022]; rfl
      exact G_iretA dr_cX17_run__22 rfl (Nat.le_of_ble_eq_true rfl) (Nat.le_of_ble_eq_true rfl) ⟨F588017, 0, rfl, rfl, hT588018, hs588020, (Nat.le_of_ble_eq_true rfl), (Nat.le_of_ble_eq_true rfl), (gB_w (gBl (show Int32.toInt 0 = 0 by decide)) (by decide) (by decide)), (by have qa0 : Int32.toInt 0 = 0 := (by decide); omega), (by have qa0 : Int32.toInt 0 = 0 := (by decide); omega), (by have qa0 : Int32.toInt 0 = 0 := (by decide); omega)⟩
