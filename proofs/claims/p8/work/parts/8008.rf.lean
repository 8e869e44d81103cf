theorem dr_cX17_run__0 : decode cX17_run_ 0 = .ok (.aload_n 0, 1) := by decide +kernel
theorem dr_cX17_run__1 : decode cX17_run_ 1 = .ok (.iconst 0, 1) := by decide +kernel
theorem dr_cX17_run__2 : decode cX17_run_ 2 = .ok (.putfield 380, 3) := by decide +kernel
theorem dr_cX17_run__5 : decode cX17_run_ 5 = .ok (.iload_n 2, 1) := by decide +kernel
theorem dr_cX17_run__6 : decode cX17_run_ 6 = .ok (.iconst 1, 1) := by decide +kernel
theorem dr_cX17_run__7 : decode cX17_run_ 7 = .ok (.if_icmp .lt 10, 3) := by decide +kernel
theorem dr_cX17_run__17 : decode cX17_run_ 17 = .ok (.aload_n 0, 1) := by decide +kernel
theorem dr_cX17_run__18 : decode cX17_run_ 18 = .ok (.iconst 1, 1) := by decide +kernel
theorem dr_cX17_run__19 : decode cX17_run_ 19 = .ok (.invokevirtual 385, 3) := by decide +kernel
theorem dr_cX17_run__22 : decode cX17_run_ 22 = .ok (.ireturn, 1) := by decide +kernel
theorem dr_cX17_run__10 : decode cX17_run_ 10 = .ok (.iload_n 2, 1) := by decide +kernel
theorem dr_cX17_run__11 : decode cX17_run_ 11 = .ok (.ldc_w 434, 3) := by decide +kernel
theorem wr_11_91 : (Jvm.Cond.constant "SpillForgeModel" (434 : Nat) (100000 : Int32)) ∈ gw := gw_11 91 rfl rfl
theorem dr_cX17_run__14 : decode cX17_run_ 14 = .ok (.if_icmp .le 9, 3) := by decide +kernel
theorem dr_cX17_run__23 : decode cX17_run_ 23 = .ok (.iload_n 1, 1) := by decide +kernel
theorem dr_cX17_run__24 : decode cX17_run_ 24 = .ok (.ifCond .eq 13, 3) := by decide +kernel
theorem dr_cX17_run__37 : decode cX17_run_ 37 = .ok (.aload_n 0, 1) := by decide +kernel
theorem dr_cX17_run__38 : decode cX17_run_ 38 = .ok (.getfield 414, 3) := by decide +kernel
theorem wr_7_83 : (Jvm.Cond.fieldLink "SpillForgeModel" (414 : Nat) "SpillForgeModel" "program" "Z") ∈ gw := gw_7 83 rfl rfl
theorem dr_cX17_run__41 : decode cX17_run_ 41 = .ok (.ifCond .ne 9, 3) := by decide +kernel
theorem dr_cX17_run__50 : decode cX17_run_ 50 = .ok (.aload_n 0, 1) := by decide +kernel
theorem dr_cX17_run__51 : decode cX17_run_ 51 = .ok (.aload_n 0, 1) := by decide +kernel
theorem dr_cX17_run__52 : decode cX17_run_ 52 = .ok (.iload_n 1, 1) := by decide +kernel
theorem dr_cX17_run__53 : decode cX17_run_ 53 = .ok (.ifCond .eq 10, 3) := by decide +kernel
theorem dr_cX17_run__63 : decode cX17_run_ 63 = .ok (.aload_n 0, 1) := by decide +kernel
theorem dr_cX17_run__64 : decode cX17_run_ 64 = .ok (.getfield 361, 3) := by decide +kernel
theorem wr_7_80 : (Jvm.Cond.fieldLink "SpillForgeModel" (361 : Nat) "SpillForgeModel" "code" "LSpillForgeModel$Code;") ∈ gw := gw_7 80 rfl rfl
theorem dr_cX17_run__67 : decode cX17_run_ 67 = .ok (.iload_n 2, 1) := by decide +kernel
theorem dr_cX17_run__68 : decode cX17_run_ 68 = .ok (.invokevirtual 435, 3) := by decide +kernel
theorem wr_11_92 : (Jvm.Cond.methodLink "SpillForgeModel" (435 : Nat) ({ cls := "SpillForgeModel", name := "run", desc := "(LSpillForgeModel$Code;I)I" } : Jvm.MethodName)) ∈ gw := gw_11 92 rfl rfl
theorem wr_11_95 : (Jvm.Cond.code ({ cls := "SpillForgeModel", name := "run", desc := "(LSpillForgeModel$Code;I)I" } : Jvm.MethodName) prog_14_method_29_code (7 : Nat) (Option.some Jvm.ClassFile.FieldType.int)) ∈ gw := gw_11 95 rfl rfl
theorem wr_11_94 : (Jvm.Cond.instanceMethod ({ cls := "SpillForgeModel", name := "run", desc := "(LSpillForgeModel$Code;I)I" } : Jvm.MethodName)) ∈ gw := gw_11 94 rfl rfl
theorem wr_p_113 : Cond.selects "SpillForgeModel" ⟨"SpillForgeModel", "run", "(LSpillForgeModel$Code;I)I"⟩ ⟨"SpillForgeModel", "run", "(LSpillForgeModel$Code;I)I"⟩ ∈ gw := gw_p _ 113 rfl rfl rfl
theorem dr_cX17_run__71 : decode cX17_run_ 71 = .ok (.putfield 371, 3) := by decide +kernel
theorem dr_cX17_run__74 : decode cX17_run_ 74 = .ok (.aload_n 0, 1) := by decide +kernel
theorem dr_cX17_run__75 : decode cX17_run_ 75 = .ok (.getfield 371, 3) := by decide +kernel
theorem dr_cX17_run__78 : decode cX17_run_ 78 = .ok (.ireturn, 1) := by decide +kernel
theorem dr_cX17_run__44 : decode cX17_run_ 44 = .ok (.aload_n 0, 1) := by decide +kernel
theorem dr_cX17_run__45 : decode cX17_run_ 45 = .ok (.iconst 2, 1) := by decide +kernel
theorem dr_cX17_run__46 : decode cX17_run_ 46 = .ok (.invokevirtual 385, 3) := by decide +kernel
theorem dr_cX17_run__49 : decode cX17_run_ 49 = .ok (.ireturn, 1) := by decide +kernel
theorem dr_cX17_run__27 : decode cX17_run_ 27 = .ok (.aload_n 0, 1) := by decide +kernel
theorem dr_cX17_run__28 : decode cX17_run_ 28 = .ok (.getfield 416, 3) := by decide +kernel
theorem wr_7_84 : (Jvm.Cond.fieldLink "SpillForgeModel" (416 : Nat) "SpillForgeModel" "isGiven" "Z") ∈ gw := gw_7 84 rfl rfl
theorem dr_cX17_run__31 : decode cX17_run_ 31 = .ok (.ifCond .ne 19, 3) := by decide +kernel
theorem dr_cX17_run__56 : decode cX17_run_ 56 = .ok (.aload_n 0, 1) := by decide +kernel
theorem dr_cX17_run__57 : decode cX17_run_ 57 = .ok (.getfield 365, 3) := by decide +kernel
theorem wr_7_81 : (Jvm.Cond.fieldLink "SpillForgeModel" (365 : Nat) "SpillForgeModel" "given" "LSpillForgeModel$Code;") ∈ gw := gw_7 81 rfl rfl
theorem dr_cX17_run__60 : decode cX17_run_ 60 = .ok (.goto 7, 3) := by decide +kernel
theorem dr_cX17_run__34 : decode cX17_run_ 34 = .ok (.goto 10, 3) := by decide +kernel
abbrev ky_580059_SpillForgeModel_run : gKey := (cX17_run, 7, "SpillForgeModel", (some FieldType.int), [], "run", fun _ _ => True)
def pt_580059_SpillForgeModel_run (D : va_G) (I : FieldType → ClassId) (γ el : Nat → Nat → Nat) (P580053 : List Nat) (F580054 : Nat → va_E) (q580055 : Nat) (q580056 : Nat) (p580057 : Int32) : Option Value → va_W → Nat → Nat → Prop := fun r w dc ds => ∃ (F585291 : Nat → va_E) (o585290 : Int32), r = some (.int o585290) ∧ w = va_pl P580053 F585291 ∧ RS D I P580053 F585291 γ el ∧ rStr γ [] F580054 F585291 ∧ dc ≤ 0 ∧ ds ≤ 0 ∧ gB o585290 0 5 ∧ (fI (F585291 q580055) 9).toInt = (fI (F580054 q580055) 9).toInt ∧ (fI (F585291 q580055) 10).toInt = (fI (F580054 q580055) 10).toInt ∧ (fI (F585291 q580055) 32).toInt = (fI (F580054 q580055) 32).toInt
set_option maxRecDepth 100000 in
set_option maxHeartbeats 4000000 in
theorem ct_580059_SpillForgeModel_run (l : Launch) (hl0 : l.stackTraces = false) (D : va_G) (I : FieldType → ClassId) (γ el : Nat → Nat → Nat) (P580053 : List Nat) (F580054 : Nat → va_E) (q580055 : Nat) (q580056 : Nat) (p580057 : Int32) (hT : RS D I P580053 F580054 γ el) (htq580055 : rKd γ q580055 10) (htq580056 : rKd γ q580056 9) (bp580057 : gB p580057 1 100000) (x580058 : 0 < γ 6 (γ 1 q580056)) : CtA (gV D I) l yX17_run cX17_run 7 (some FieldType.int) 4 85 0 0 [.ref q580055, .ref q580056, .int p580057] (va_pl P580053 F580054) (pt_580059_SpillForgeModel_run D I γ el P580053 F580054 q580055 q580056 p580057) gNA := by
  refine CtA_of hl0 (by decide) (Nat.le_of_ble_eq_true rfl) ?_
  have hm580060 : q580055 ∈ P580053 := RS_m hT htq580055 (by decide)
  refine rk10_e (show rk_10 γ (F580054 q580055) from RS_o hT htq580055) (fun q580062 q580063 p580064 p580065 p580066 p580067 p580068 p580069 p580070 p580071 p580072 p580073 p580074 p580075 p580076 p580077 p580078 he580061 hB580105 ht580079 ht580080 ht580081 ht580082 ht580083 ht580084 ht580085 ht580086 ht580087 ht580088 ht580089 ht580090 ht580091 ht580092 ht580093 ht580094 ht580095 ht580096 ht580097 ht580098 ht580099 ht580100 ht580101 ht580102 hB580106 => ?_)
  have ac580107 : (fI (F580054 q580055) 26).toInt = p580073.toInt := by rw [he580061]; rfl
  have bp580073 : gB p580073 0 100000 := (hB580105.2.2.2.2.2.1)
  have ac580108 : (fI (F580054 q580055) 9).toInt = p580064.toInt := by rw [he580061]; rfl
  have bp580064 : gB p580064 0 1 := (hB580105.1)
  have ac580109 : (fI (F580054 q580055) 10).toInt = p580065.toInt := by rw [he580061]; rfl
  have bp580065 : gB p580065 0 1 := (hB580105.2.1)
  have ac580110 : (fI (F580054 q580055) 32).toInt = p580076.toInt := by rw [he580061]; rfl
  have bp580076 : gB p580076 0 8192 := (hB580105.2.2.2.2.2.2.2.1)
  refine G_iconst 0 dr_cX17_run_0 (by decide +kernel) ?_
  refine G_istore_n (L' := [(3, .int 0), (0, .ref q580055), (1, .ref q580056), (2, .int p580057)]) dr_cX17_run_1 (Nat.le_of_ble_eq_true rfl) rfl ?_
  have hlp2_584409 : ∀ (n2_584409 : Nat) (F584404 : Nat → va_E) (g584403 : Int32), gB g584403 0 2000 → RS D I P580053 F584404 γ el → rStr γ [] F580054 F584404 → (fI (F584404 q580055) 9).toInt = (fI (F580054 q580055) 9).toInt → (fI (F584404 q580055) 10).toInt = (fI (F580054 q580055) 10).toInt → (fI (F584404 q580055) 32).toInt = (fI (F580054 q580055) 32).toInt → ((2001 : Int) - g584403.toInt).toNat < n2_584409 → G (gV D I) l (gRm 4 85 0 0) (gMA (gV D I) (pt_580059_SpillForgeModel_run D I γ el P580053 F580054 q580055 q580056 p580057) gNA 0 0) ky_580059_SpillForgeModel_run 2 [(3, .int g584403), (0, .ref q580055), (1, .ref q580056), (2, .int p580057)] [] (va_pl P580053 F584404) 0 0 := by
    intro n2_584409
    induction n2_584409 with
    | zero => intro F584404 g584403 bg584403 hT584405 hs584406 x584407 x584408 x584409 hm2_584409; exact absurd hm2_584409 (Nat.not_lt_zero _)
    | succ n2_584409 ih2_584409 =>
      intro F584404 g584403 bg584403 hT584405 hs584406 x584407 x584408 x584409 hm2_584409
      have hs584411 : rStr γ [] F580054 F584404 := fun b h0 hb hw => (hs584406 b h0 hb hw).trans ((rStr_rf (γ := γ) (W := []) (F := F580054)) b h0 hb hw).symm
      have hs584412 : rStr γ [] F580054 F584404 := rStr_tr (rStr_rf (γ := γ) (W := []) (F := F580054)) hs584411
      have hm584413 : q580055 ∈ P580053 := RS_m hT584405 htq580055 (by decide)
      refine rk10_e (show rk_10 γ (F584404 q580055) from RS_o hT584405 htq580055) (fun q584415 q584416 p584417 p584418 p584419 p584420 p584421 p584422 p584423 p584424 p584425 p584426 p584427 p584428 p584429 p584430 p584431 he584414 hB584458 ht584432 ht584433 ht584434 ht584435 ht584436 ht584437 ht584438 ht584439 ht584440 ht584441 ht584442 ht584443 ht584444 ht584445 ht584446 ht584447 ht584448 ht584449 ht584450 ht584451 ht584452 ht584453 ht584454 ht584455 hB584459 => ?_)
      have ac584460 : (fI (F584404 q580055) 26).toInt = p584426.toInt := by rw [he584414]; rfl
      have bp584426 : gB p584426 0 100000 := (hB584458.2.2.2.2.2.1)
      have ac584461 : (fI (F584404 q580055) 9).toInt = p584417.toInt := by rw [he584414]; rfl
      have bp584417 : gB p584417 0 1 := (hB584458.1)
      have ac584462 : (fI (F584404 q580055) 10).toInt = p584418.toInt := by rw [he584414]; rfl
      have bp584418 : gB p584418 0 1 := (hB584458.2.1)
      have ac584463 : (fI (F584404 q580055) 32).toInt = p584429.toInt := by rw [he584414]; rfl
      have bp584429 : gB p584429 0 8192 := (hB584458.2.2.2.2.2.2.2.1)
      have ac584464 : (fI (F584404 q580055) 26).toInt = p584426.toInt := by rw [he584414]; rfl
      have ac584465 : (fI (F584404 q580055) 9).toInt = p584417.toInt := by rw [he584414]; rfl
      have ac584466 : (fI (F584404 q580055) 10).toInt = p584418.toInt := by rw [he584414]; rfl
      have ac584467 : (fI (F584404 q580055) 32).toInt = p584429.toInt := by rw [he584414]; rfl
      refine G_iload_n 0 dr_cX17_run_2 rfl ?_
      refine G_sipush 2000 dr_cX17_run_3 (by decide +kernel) ?_
      refine G_icmp_ge 29 dr_cX17_run_6 (by decide +kernel) (fun hc584468 => ?_) (fun hc584468 => ?_)
      · have r584469 : 2000 ≤ g584403.toInt := gj_leL hc584468 (show Int32.toInt 2000 = 2000 by decide)
        have bg584403' : gB g584403 2000 2000 := ⟨by omega, by omega⟩
        refine G_aload_n 1 dr_cX17_run_29 rfl ?_
        refine G_iconst 0 dr_cX17_run_30 (by decide +kernel) ?_
        refine Gp_put 24 hm584413 he584414 dr_cX17_run_31 (gk_X17 D I) (Nat.le_of_ble_eq_true rfl) wr_7_98 rfl rfl rfl (Nat.le_of_ble_eq_true rfl) (fun F584470 e584471 n584472 => ?_)
        have he584473 : F584470 q580055 = .inr (22, [.ref (γ 9 0), .ref (γ 9 1), .ref (γ 9 2), .ref (γ 9 3), .ref (γ 9 4), .ref (γ 9 5), .ref (γ 9 6), .ref (γ 9 7), .ref (γ 9 8), .int p584417, .int p584418, .int p584419, .int p584420, .int p584421, .int p584422, .ref (γ 9 15), .ref (γ 9 16), .ref (γ 9 17), .ref (γ 9 18), .ref (γ 9 19), .ref (γ 9 20), .ref (γ 9 21), .ref (γ 9 22), .int p584423, .int 0, .int p584425, .int p584426, .int p584427, .ref q584415, .ref (γ 9 29), .int p584428, .ref (γ 9 31), .int p584429, .int p584430, .int p584431, .ref q584416]) := e584471
        have hs584474 : rStr γ [] F580054 F584470 := rStr_put hs584406 n584472 htq580055 (by decide)
        refine G_aload_n 1 dr_cX17_run_34 rfl ?_
        refine G_iconst 0 dr_cX17_run_35 (by decide +kernel) ?_
        refine Gp_put 25 hm584413 he584473 dr_cX17_run_36 (gk_X17 D I) (Nat.le_of_ble_eq_true rfl) wr_7_99 rfl rfl rfl (Nat.le_of_ble_eq_true rfl) (fun F584475 e584476 n584477 => ?_)
        have he584478 : F584475 q580055 = .inr (22, [.ref (γ 9 0), .ref (γ 9 1), .ref (γ 9 2), .ref (γ 9 3), .ref (γ 9 4), .ref (γ 9 5), .ref (γ 9 6), .ref (γ 9 7), .ref (γ 9 8), .int p584417, .int p584418, .int p584419, .int p584420, .int p584421, .int p584422, .ref (γ 9 15), .ref (γ 9 16), .ref (γ 9 17), .ref (γ 9 18), .ref (γ 9 19), .ref (γ 9 20), .ref (γ 9 21), .ref (γ 9 22), .int p584423, .int 0, .int 0, .int p584426, .int p584427, .ref q584415, .ref (γ 9 29), .int p584428, .ref (γ 9 31), .int p584429, .int p584430, .int p584431, .ref q584416]) := e584476
        have hs584479 : rStr γ [] F580054 F584475 := rStr_put hs584474 n584477 htq580055 (by decide)
        have n584480 : ∀ b, b ≠ q580055 → F584475 b = F584404 b := fun b hb => (n584477 b hb).trans (n584472 b hb)
        refine G_aload_n 1 dr_cX17_run_39 rfl ?_
        refine G_iconst 0 dr_cX17_run_40 (by decide +kernel) ?_
        refine Gp_put 26 hm584413 he584478 dr_cX17_run_41 (gk_X17 D I) (Nat.le_of_ble_eq_true rfl) wr_7_100 rfl rfl rfl (Nat.le_of_ble_eq_true rfl) (fun F584481 e584482 n584483 => ?_)
        have he584484 : F584481 q580055 = .inr (22, [.ref (γ 9 0), .ref (γ 9 1), .ref (γ 9 2), .ref (γ 9 3), .ref (γ 9 4), .ref (γ 9 5), .ref (γ 9 6), .ref (γ 9 7), .ref (γ 9 8), .int p584417, .int p584418, .int p584419, .int p584420, .int p584421, .int p584422, .ref (γ 9 15), .ref (γ 9 16), .ref (γ 9 17), .ref (γ 9 18), .ref (γ 9 19), .ref (γ 9 20), .ref (γ 9 21), .ref (γ 9 22), .int p584423, .int 0, .int 0, .int 0, .int p584427, .ref q584415, .ref (γ 9 29), .int p584428, .ref (γ 9 31), .int p584429, .int p584430, .int p584431, .ref q584416]) := e584482
        have hs584485 : rStr γ [] F580054 F584481 := rStr_put hs584479 n584483 htq580055 (by decide)
        have n584486 : ∀ b, b ≠ q580055 → F584481 b = F584404 b := fun b hb => (n584483 b hb).trans (n584480 b hb)
        refine G_aload_n 1 dr_cX17_run_44 rfl ?_
        refine G_iconst 0 dr_cX17_run_45 (by decide +kernel) ?_
        refine Gp_put 27 hm584413 he584484 dr_cX17_run_46 (gk_X17 D I) (Nat.le_of_ble_eq_true rfl) wr_7_101 rfl rfl rfl (Nat.le_of_ble_eq_true rfl) (fun F584487 e584488 n584489 => ?_)
        have he584490 : F584487 q580055 = .inr (22, [.ref (γ 9 0), .ref (γ 9 1), .ref (γ 9 2), .ref (γ 9 3), .ref (γ 9 4), .ref (γ 9 5), .ref (γ 9 6), .ref (γ 9 7), .ref (γ 9 8), .int p584417, .int p584418, .int p584419, .int p584420, .int p584421, .int p584422, .ref (γ 9 15), .ref (γ 9 16), .ref (γ 9 17), .ref (γ 9 18), .ref (γ 9 19), .ref (γ 9 20), .ref (γ 9 21), .ref (γ 9 22), .int p584423, .int 0, .int 0, .int 0, .int 0, .ref q584415, .ref (γ 9 29), .int p584428, .ref (γ 9 31), .int p584429, .int p584430, .int p584431, .ref q584416]) := e584488
        have hs584491 : rStr γ [] F580054 F584487 := rStr_put hs584485 n584489 htq580055 (by decide)
        have n584492 : ∀ b, b ≠ q580055 → F584487 b = F584404 b := fun b hb => (n584489 b hb).trans (n584486 b hb)
        refine G_iconst 0 dr_cX17_run_49 (by decide +kernel) ?_
        refine G_istore_n (L' := [(3, .int 0), (0, .ref q580055), (1, .ref q580056), (2, .int p580057)]) dr_cX17_run_50 (Nat.le_of_ble_eq_true rfl) rfl ?_
        refine G_iconst 0 dr_cX17_run_51 (by decide +kernel) ?_
        refine G_istore (L' := [(4, .int 0), (3, .int 0), (0, .ref q580055), (1, .ref q580056), (2, .int p580057)]) dr_cX17_run_52 (Nat.le_of_ble_eq_true rfl) rfl ?_
        have hT584493 : RS D I P580053 F584487 γ el := RS_set hT584405 n584492 htq580055 (by decide) ⟨q584415, q584416, p584417, p584418, p584419, p584420, p584421, p584422, p584423, 0, 0, 0, 0, p584428, p584429, p584430, p584431, he584490, ⟨bp584417, bp584418, (hB584458.2.2.1), (hB584458.2.2.2.1), (gB_w (gBl (show Int32.toInt 0 = 0 by decide)) (by decide) (by decide)), (gB_w (gBl (show Int32.toInt 0 = 0 by decide)) (by decide) (by decide)), (gB_w (gBl (show Int32.toInt 0 = 0 by decide)) (by decide) (by decide)), bp584429, (hB584458.2.2.2.2.2.2.2.2)⟩, ht584432, ht584433, ht584434, ht584435, ht584436, ht584437, ht584438, ht584439, ht584440, ht584441, ht584442, ht584443, ht584444, ht584445, ht584446, ht584447, ht584448, ht584449, ht584450, ht584451, ht584452, ht584453, ht584454, ht584455, hB584459⟩
        have hlp54_584846 : ∀ (n54_584846 : Nat) (F584839 : Nat → va_E) (g584837 : Int32) (g584838 : Int32), gB g584837 0 39 → gB g584838 0 1000000 → RS D I P580053 F584839 γ el → rStr γ [] F580054 F584839 → g584837.toInt < γ 6 (γ 1 q580056) → (fI (F584839 q580055) 26).toInt ≤ p580057.toInt → (fI (F584839 q580055) 9).toInt = (fI (F580054 q580055) 9).toInt → (fI (F584839 q580055) 10).toInt = (fI (F580054 q580055) 10).toInt → (fI (F584839 q580055) 32).toInt = (fI (F580054 q580055) 32).toInt → (p580057.toInt - (fI (F584839 q580055) 26).toInt).toNat < n54_584846 → G (gV D I) l (gRm 4 85 0 0) (gMA (gV D I) (pt_580059_SpillForgeModel_run D I γ el P580053 F580054 q580055 q580056 p580057) gNA 0 0) ky_580059_SpillForgeModel_run 54 [(4, .int g584838), (3, .int g584837), (0, .ref q580055), (1, .ref q580056), (2, .int p580057)] [] (va_pl P580053 F584839) 0 0 := by
          intro n54_584846
          induction n54_584846 with
          | zero => intro F584839 g584837 g584838 bg584837 bg584838 hT584840 hs584841 x584842 x584843 x584844 x584845 x584846 hm54_584846; exact absurd hm54_584846 (Nat.not_lt_zero _)
          | succ n54_584846 ih54_584846 =>
            intro F584839 g584837 g584838 bg584837 bg584838 hT584840 hs584841 x584842 x584843 x584844 x584845 x584846 hm54_584846
            have hs584848 : rStr γ [] F584487 F584839 := fun b h0 hb hw => (hs584841 b h0 hb hw).trans (hs584491 b h0 hb hw).symm
            have hs584849 : rStr γ [] F580054 F584839 := rStr_tr hs584491 hs584848
            have hm584850 : q580055 ∈ P580053 := RS_m hT584840 htq580055 (by decide)
            refine rk10_e (show rk_10 γ (F584839 q580055) from RS_o hT584840 htq580055) (fun q584852 q584853 p584854 p584855 p584856 p584857 p584858 p584859 p584860 p584861 p584862 p584863 p584864 p584865 p584866 p584867 p584868 he584851 hB584895 ht584869 ht584870 ht584871 ht584872 ht584873 ht584874 ht584875 ht584876 ht584877 ht584878 ht584879 ht584880 ht584881 ht584882 ht584883 ht584884 ht584885 ht584886 ht584887 ht584888 ht584889 ht584890 ht584891 ht584892 hB584896 => ?_)
            have ac584897 : (fI (F584839 q580055) 26).toInt = p584863.toInt := by rw [he584851]; rfl
            have bp584863 : gB p584863 0 100000 := (hB584895.2.2.2.2.2.1)
            have ac584898 : (fI (F584839 q580055) 9).toInt = p584854.toInt := by rw [he584851]; rfl
            have bp584854 : gB p584854 0 1 := (hB584895.1)
            have ac584899 : (fI (F584839 q580055) 10).toInt = p584855.toInt := by rw [he584851]; rfl
            have bp584855 : gB p584855 0 1 := (hB584895.2.1)
            have ac584900 : (fI (F584839 q580055) 32).toInt = p584866.toInt := by rw [he584851]; rfl
            have bp584866 : gB p584866 0 8192 := (hB584895.2.2.2.2.2.2.2.1)
            have ac584901 : (fI (F584839 q580055) 26).toInt = p584863.toInt := by rw [he584851]; rfl
            have ac584902 : (fI (F584839 q580055) 9).toInt = p584854.toInt := by rw [he584851]; rfl
            have ac584903 : (fI (F584839 q580055) 10).toInt = p584855.toInt := by rw [he584851]; rfl
            have ac584904 : (fI (F584839 q580055) 32).toInt = p584866.toInt := by rw [he584851]; rfl
            refine G_aload_n 3 dr_cX17_run_54 rfl ?_
            refine G_iload_n 1 dr_cX17_run_55 rfl ?_
            have hm584905 : q580056 ∈ P580053 := RS_m hT584840 htq580056 (by decide)
            obtain ⟨q584907, q584908, p584909, p584910, he584906, ht584926, ht584911, ht584912, ht584913, ht584914, r584915, r584916, r584917, r584918, r584919, r584920, r584921, r584922, r584923, r584924, r584925⟩ := show rk_9 γ el q580056 (F584839 q580056) from RS_o hT584840 htq580056
            have bp584909 : gB p584909 0 1000000 := ⟨by omega, by omega⟩
            have bp584910 : gB p584910 0 1000000 := ⟨by omega, by omega⟩
            have hm584927 : q584907 ∈ P580053 := RS_m hT584840 ht584911 (by decide)
            obtain ⟨⟨p584929, p584930, q584931, he584928, r584932, r584933, r584934, r584936⟩, r584935⟩ := show rk_4 D I γ el F584839 q584907 from RS_o hT584840 ht584911
            have bp584929 := gB_any p584929
            have bp584930 : gB p584930 0 1000000 := ⟨by omega, by omega⟩
            obtain ⟨r584937, r584938, n584945, f584946, r584939, r584940, r584941, r584942, r584943, r584944⟩ := rLC_n r584934 (by omega)
            have hm584947 : q584931 ∈ P580053 := RS_m hT584840 r584937 (by decide)
            obtain ⟨q584948, hx584949⟩ : ∃ x, x = el q584907 g584837.toInt.toNat := ⟨_, rfl⟩
            have hx584950 : f584946 g584837.toNatClampNeg = some q584948 := (r584943 _ (show g584837.toInt.toNat < γ 2 q584907 by omega)).trans (by rw [hx584949])
            have ht584953 : rKd γ q584948 2 := by rw [hx584949]; exact (r584922 _ (by omega)).resolve_right (fun z => absurd z.1 (by omega))
            have ht584954 : rFm γ q584948 q584907 := by rw [hx584949]; exact (r584935 _ (show g584837.toInt.toNat < γ 2 q584907 by omega)).2.1
            have hm584955 : q584948 ∈ P580053 := RS_m hT584840 ht584953 (by decide)
            obtain ⟨q584957, q584958, p584959, p584960, he584956, ht584967, ht584961, ht584962, ht584963, ht584964, ht584965, bp584959, bp584960, r584966, r584968, r584969⟩ := show rk_2 γ q584948 (F584839 q584948) from RS_o hT584840 ht584953
            have fm584970 : γ 6 (γ 1 q584948) = γ 6 (γ 1 q580056) := by rw [show γ 1 q584948 = γ 1 q584907 from ht584954, show γ 1 q584907 = γ 1 q580056 from ht584912]
            refine Gw_callV (As := [.int g584837]) (gV_ok D I) (cp_7901_Code_get l hl0 D I P580053 F584839 q580056 q584907 q584931 g584837 q584908 p584909 p584910 p584929 p584930 f584946 n584945 q584948 q584957 q584958 p584959 p584960 hm584905 hm584927 hm584947 hm584955 he584906 he584928 r584939 he584956 (gB_w bg584837 (by decide) (by decide)) (gB_w bp584930 (by decide) (by decide)) (by omega) (by omega) (by assumption) (by omega)) dr_cX17_run_56 ⟨wr_10_161, wr_1_15, wr_10_141, by decide, rfl, (Nat.le_of_ble_eq_true rfl), (Nat.le_of_ble_eq_true rfl)⟩ wr_10_139 wr_10_140 hm584905 he584906 rfl (show 0 + 0 ≤ 0 by first | omega | decide) (show 0 + 0 ≤ 0 by first | omega | decide) (Nat.le_of_ble_eq_true rfl) (fun r584974 w584975 dc584971 ds584972 hp584973 => ?_) (fun _ _ _ _ _ z => z.elim)
            obtain ⟨rfl, rfl, hdc, hds, ht584976⟩ := hp584973
            change G _ _ _ _ _ _ _ (.ref q584948 :: _) _ _ _
            refine G_widen (cs' := 0) (sl' := 0) (by omega) (by omega) ?_
            refine G_astore (L' := [(5, .ref q584948), (4, .int g584838), (3, .int g584837), (0, .ref q580055), (1, .ref q580056), (2, .int p580057)]) dr_cX17_run_59 (Nat.le_of_ble_eq_true rfl) rfl ?_
            refine G_aload_n 3 dr_cX17_run_61 rfl ?_
            refine Gp_get 26 hm584850 he584851 dr_cX17_run_62 (gk_X17 D I) (Nat.le_of_ble_eq_true rfl) wr_7_100 rfl ?_
            refine G_iload_n 5 dr_cX17_run_65 rfl ?_
            refine G_icmp_ne 71 dr_cX17_run_66 (by decide +kernel) (fun hc584977 => ?_) (fun hc584977 => ?_)
            · have r584978 : p584863.toInt ≠ p580057.toInt := gC_ne hc584977
              refine G_aload_n 3 dr_cX17_run_71 rfl ?_
              refine G_dup dr_cX17_run_72 rfl ?_
              refine Gp_get 26 hm584850 he584851 dr_cX17_run_73 (gk_X17 D I) (Nat.le_of_ble_eq_true rfl) wr_7_100 rfl ?_
              refine G_iconst 1 dr_cX17_run_76 (by decide +kernel) ?_
              refine G_iadd dr_cX17_run_77 (G_nam fun z584979 hz584979 => ?_)
              have ez584979 : z584979.toInt = p584863.toInt + 1 := by rw [gI_add hz584979 bp584863 (gBl (show Int32.toInt 1 = 1 by decide)) (by decide) (by decide), show Int32.toInt 1 = 1 from by decide]
              have bz584979 : gB z584979 1 100001 := gB_add (gI_add hz584979 bp584863 (gBl (show Int32.toInt 1 = 1 by decide)) (by decide) (by decide)) bp584863 (gBl (show Int32.toInt 1 = 1 by decide)) (by decide) (by decide)
              refine Gp_put 26 hm584850 he584851 dr_cX17_run_78 (gk_X17 D I) (Nat.le_of_ble_eq_true rfl) wr_7_100 rfl rfl rfl (Nat.le_of_ble_eq_true rfl) (fun F584980 e584981 n584982 => ?_)
              have he584983 : F584980 q580056 = .inr (18, [.ref q584907, .ref q584908, .int p584909, .int p584910]) := (n584982 q580056 (rn_oo he584906 he584851 (by decide))).trans he584906
              have he584984 : F584980 q584907 = .inr (4, [.int p584929, .ref q584931, .int p584930]) := (n584982 q584907 (rn_oo he584928 he584851 (by decide))).trans he584928
              have he584985 : F584980 q584931 = .inl (I (.object "java/lang/Object"), n584945, .inr (.inr (.inr (.inr f584946)))) := (n584982 q584931 (rn_ao r584939 he584851)).trans r584939
              have he584986 : F584980 q584948 = .inr (17, [.ref q584957, .ref q584958, .int p584959, .int p584960]) := (n584982 q584948 (rn_oo he584956 he584851 (by decide))).trans he584956
              have he584987 : F584980 q580055 = .inr (22, [.ref (γ 9 0), .ref (γ 9 1), .ref (γ 9 2), .ref (γ 9 3), .ref (γ 9 4), .ref (γ 9 5), .ref (γ 9 6), .ref (γ 9 7), .ref (γ 9 8), .int p584854, .int p584855, .int p584856, .int p584857, .int p584858, .int p584859, .ref (γ 9 15), .ref (γ 9 16), .ref (γ 9 17), .ref (γ 9 18), .ref (γ 9 19), .ref (γ 9 20), .ref (γ 9 21), .ref (γ 9 22), .int p584860, .int p584861, .int p584862, .int z584979, .int p584864, .ref q584852, .ref (γ 9 29), .int p584865, .ref (γ 9 31), .int p584866, .int p584867, .int p584868, .ref q584853]) := e584981
              have hs584988 : rStr γ [] F580054 F584980 := rStr_put hs584841 n584982 htq580055 (by decide)
              refine G_iload 1 dr_cX17_run_81 rfl ?_
              refine G_aload 0 dr_cX17_run_83 rfl ?_
              refine Gp_get 0 hm584955 he584986 dr_cX17_run_85 (gk_X12 D I) (Nat.le_of_ble_eq_true rfl) wr_9_220 rfl ?_
              have hT584989 : RS D I P580053 F584980 γ el := RS_set hT584840 n584982 htq580055 (by decide) ⟨q584852, q584853, p584854, p584855, p584856, p584857, p584858, p584859, p584860, p584861, p584862, z584979, p584864, p584865, p584866, p584867, p584868, he584987, ⟨bp584854, bp584855, (hB584895.2.2.1), (hB584895.2.2.2.1), (hB584895.2.2.2.2.1), ⟨by omega, by omega⟩, (hB584895.2.2.2.2.2.2.1), bp584866, (hB584895.2.2.2.2.2.2.2.2)⟩, ht584869, ht584870, ht584871, ht584872, ht584873, ht584874, ht584875, ht584876, ht584877, ht584878, ht584879, ht584880, ht584881, ht584882, ht584883, ht584884, ht584885, ht584886, ht584887, ht584888, ht584889, ht584890, ht584891, ht584892, hB584896⟩
              have hm584990 : q584957 ∈ P580053 := RS_m hT584989 ht584961 (by decide)
              obtain ⟨⟨p584992, p584993, q584994, he584991, r584995, r584996, r584997, r584999⟩, r584998⟩ := show rk_3 D I γ el F584980 q584957 from RS_o hT584989 ht584961
              have bp584992 := gB_any p584992
              have bp584993 : gB p584993 0 1000000 := ⟨by omega, by omega⟩
              refine Gw_callV (As := []) (gV_ok D I) (cp_7_ArrayList_size l hl0 D I P580053 F584980 q584957 p584992 q584994 p584993 hm584990 he584991 (gB_w bp584993 (by decide) (by decide))) dr_cX17_run_88 ⟨wr_10_200, wr_1_18, wr_9_160, by decide, rfl, (Nat.le_of_ble_eq_true rfl), (Nat.le_of_ble_eq_true rfl)⟩ wr_9_158 wr_9_159 hm584990 he584991 rfl (show 0 + 0 ≤ 0 by first | omega | decide) (show 0 + 0 ≤ 0 by first | omega | decide) (Nat.le_of_ble_eq_true rfl) (fun r585003 w585004 dc585000 ds585001 hp585002 => ?_) (fun _ _ _ _ _ z => z.elim)
              obtain ⟨rfl, rfl, hdc, hds⟩ := hp585002
              change G _ _ _ _ _ _ _ (.int p584993 :: _) _ _ _
              refine G_widen (cs' := 0) (sl' := 0) (by omega) (by omega) ?_
              refine G_icmp_ge 127 dr_cX17_run_91 (by decide +kernel) (fun hc585005 => ?_) (fun hc585005 => ?_)
              · have r585006 : p584993.toInt ≤ g584838.toInt := gC_le hc585005
                refine G_aload 0 dr_cX17_run_127 rfl ?_
                refine Gp_get 1 hm584955 he584986 dr_cX17_run_129 (gk_X12 D I) (Nat.le_of_ble_eq_true rfl) wr_9_223 rfl ?_
                refine G_astore (L' := [(6, .ref q584958), (5, .ref q584948), (4, .int g584838), (3, .int g584837), (0, .ref q580055), (1, .ref q580056), (2, .int p580057)]) dr_cX17_run_132 (Nat.le_of_ble_eq_true rfl) rfl ?_
                refine G_aload 0 dr_cX17_run_134 rfl ?_
                have hm585007 : q584958 ∈ P580053 := RS_m hT584989 ht584963 (by decide)
                obtain ⟨p585009, p585010, p585011, p585012, p585013, p585014, p585015, he585008, bp585009, bp585010, bp585013, bp585014, bp585015, r585016, r585017, r585018, r585019, r585020⟩ := show rk_1 γ q584958 (F584980 q584958) from RS_o hT584989 ht584963
                have bp585011 := gB_any p585011
                have bp585012 := gB_any p585012
                refine Gp_get 0 hm585007 he585008 dr_cX17_run_136 (gk_X15 D I) (Nat.le_of_ble_eq_true rfl) wr_9_177 rfl ?_
                refine G_bipush 32 dr_cX17_run_139 (by decide +kernel) ?_
                refine G_icmp_ne 164 dr_cX17_run_141 (by decide +kernel) (fun hc585021 => ?_) (fun hc585021 => ?_)
                · have r585022 : p585009.toInt ≠ 32 := gj_neq hc585021 (show Int32.toInt 32 = 32 by decide)
                  have bp585009' : gB p585009 0 31 := ⟨by omega, by omega⟩
                  refine G_aload 0 dr_cX17_run_164 rfl ?_
                  refine Gp_get 0 hm585007 he585008 dr_cX17_run_166 (gk_X15 D I) (Nat.le_of_ble_eq_true rfl) wr_9_177 rfl ?_
                  refine G_bipush 30 dr_cX17_run_169 (by decide +kernel) ?_
                  refine G_icmp_eq 191 dr_cX17_run_171 (by decide +kernel) (fun hc585023 => ?_) (fun hc585023 => ?_)
                  · have r585024 : p585009.toInt = 30 := gj_eq hc585023 (show Int32.toInt 30 = 30 by decide)
                    have bp585009'' : gB p585009 30 30 := ⟨by omega, by omega⟩
                    refine G_aload 1 dr_cX17_run_191 rfl ?_
                    refine Gp_get 2 hm584955 he584986 dr_cX17_run_193 (gk_X12 D I) (Nat.le_of_ble_eq_true rfl) wr_9_229 rfl ?_
                    refine G_goto 204 dr_cX17_run_196 (by decide +kernel) ?_
                    refine G_istore_n (L' := [(3, .int p584959), (6, .ref q584958), (5, .ref q584948), (4, .int g584838), (0, .ref q580055), (1, .ref q580056), (2, .int p580057)]) dr_cX17_run_204 (Nat.le_of_ble_eq_true rfl) rfl ?_
                    refine G_iconst 0 dr_cX17_run_205 (by decide +kernel) ?_
                    refine G_istore (L' := [(4, .int 0), (3, .int p584959), (6, .ref q584958), (5, .ref q584948), (0, .ref q580055), (1, .ref q580056), (2, .int p580057)]) dr_cX17_run_206 (Nat.le_of_ble_eq_true rfl) rfl ?_
                    refine G_goto 54 dr_cX17_run_208 (by decide +kernel) ?_
                    refine G_lv (L' := [(4, .int 0), (3, .int p584959), (0, .ref q580055), (1, .ref q580056), (2, .int p580057)]) [0, 1, 4, 5, 6] rfl ?_
                    have ac585025 : (fI (F584980 q580055) 26).toInt = z584979.toInt := by rw [he584987]; rfl
                    have ac585026 : (fI (F584980 q580055) 9).toInt = p584854.toInt := by rw [he584987]; rfl
                    have ac585027 : (fI (F584980 q580055) 10).toInt = p584855.toInt := by rw [he584987]; rfl
                    have ac585028 : (fI (F584980 q580055) 32).toInt = p584866.toInt := by rw [he584987]; rfl
                    exact ih54_584846 F584980 p584959 0 bp584959 (gB_w (gBl (show Int32.toInt 0 = 0 by decide)) (by decide) (by decide)) hT584989 hs584988 (by have qa0 : Int32.toInt 0 = 0 := (by decide); omega) (by omega) (by omega) (by omega) (by omega) (by have qa0 : Int32.toInt 0 = 0 := (by decide); omega)
                  · have r585029 : p585009.toInt ≠ 30 := gj_neq hc585023 (show Int32.toInt 30 = 30 by decide)
                    refine G_aload_n 4 dr_cX17_run_174 rfl ?_
                    refine G_aload 0 dr_cX17_run_175 rfl ?_
                    refine Gp_get 5 hm585007 he585008 dr_cX17_run_177 (gk_X15 D I) (Nat.le_of_ble_eq_true rfl) wr_9_197 rfl ?_
                    refine G_aload 0 dr_cX17_run_180 rfl ?_
                    refine Gp_get 2 hm585007 he585008 dr_cX17_run_182 (gk_X15 D I) (Nat.le_of_ble_eq_true rfl) wr_9_186 rfl ?_
                    refine Gw_callV (As := [.int p585014, .int p585011]) (gV_ok D I) (ct_7532_SpillForgeModel_value l hl0 D I γ el P580053 F584980 q580055 p585014 p585011 hT584989 htq580055 bp585014 (by omega)) dr_cX17_run_185 ⟨wr_11_100, wr_1_14, wr_11_103, by decide, rfl, (Nat.le_of_ble_eq_true rfl), (Nat.le_of_ble_eq_true rfl)⟩ wr_11_102 wr_p_115 hm584850 he584987 rfl (show 0 + 0 ≤ 0 by first | omega | decide) (show 0 + 0 ≤ 0 by first | omega | decide) (Nat.le_of_ble_eq_true rfl) (fun r585033 w585034 dc585030 ds585031 hp585032 => ?_) (fun _ _ _ _ _ z => z.elim)
                    obtain ⟨o585035, rfl, rfl, hdc, hds, ht585036⟩ := hp585032
                    have bo585035 := gB_any o585035
                    change G _ _ _ _ _ _ _ (.int o585035 :: _) _ _ _
                    refine G_widen (cs' := 0) (sl' := 0) (by omega) (by omega) ?_
                    refine G_if_eq 199 dr_cX17_run_188 (by decide +kernel) (fun hc585037 => ?_) (fun hc585037 => ?_)
                    · have r585038 : o585035.toInt = 0 := gj_eq hc585037 (show Int32.toInt 0 = 0 by decide)
                      have bo585035' : gB o585035 0 0 := ⟨by omega, by omega⟩
                      refine G_aload 1 dr_cX17_run_199 rfl ?_
                      refine Gp_get 3 hm584955 he584986 dr_cX17_run_201 (gk_X12 D I) (Nat.le_of_ble_eq_true rfl) wr_9_233 rfl ?_
                      refine G_istore_n (L' := [(3, .int p584960), (6, .ref q584958), (5, .ref q584948), (4, .int g584838), (0, .ref q580055), (1, .ref q580056), (2, .int p580057)]) dr_cX17_run_204 (Nat.le_of_ble_eq_true rfl) rfl ?_
                      refine G_iconst 0 dr_cX17_run_205 (by decide +kernel) ?_
                      refine G_istore (L' := [(4, .int 0), (3, .int p584960), (6, .ref q584958), (5, .ref q584948), (0, .ref q580055), (1, .ref q580056), (2, .int p580057)]) dr_cX17_run_206 (Nat.le_of_ble_eq_true rfl) rfl ?_
                      refine G_goto 54 dr_cX17_run_208 (by decide +kernel) ?_
                      refine G_lv (L' := [(4, .int 0), (3, .int p584960), (0, .ref q580055), (1, .ref q580056), (2, .int p580057)]) [0, 1, 4, 5, 6] rfl ?_
                      have ac585039 : (fI (F584980 q580055) 26).toInt = z584979.toInt := by rw [he584987]; rfl
                      have ac585040 : (fI (F584980 q580055) 9).toInt = p584854.toInt := by rw [he584987]; rfl
                      have ac585041 : (fI (F584980 q580055) 10).toInt = p584855.toInt := by rw [he584987]; rfl
                      have ac585042 : (fI (F584980 q580055) 32).toInt = p584866.toInt := by rw [he584987]; rfl
                      exact ih54_584846 F584980 p584960 0 bp584960 (gB_w (gBl (show Int32.toInt 0 = 0 by decide)) (by decide) (by decide)) hT584989 hs584988 (by have qa0 : Int32.toInt 0 = 0 := (by decide); omega) (by omega) (by omega) (by omega) (by omega) (by have qa0 : Int32.toInt 0 = 0 := (by decide); omega)
                    · have r585043 : o585035.toInt ≠ 0 := gj_neq hc585037 (show Int32.toInt 0 = 0 by decide)
                      refine G_aload 1 dr_cX17_run_191 rfl ?_
                      refine Gp_get 2 hm584955 he584986 dr_cX17_run_193 (gk_X12 D I) (Nat.le_of_ble_eq_true rfl) wr_9_229 rfl ?_
                      refine G_goto 204 dr_cX17_run_196 (by decide +kernel) ?_
                      refine G_istore_n (L' := [(3, .int p584959), (6, .ref q584958), (5, .ref q584948), (4, .int g584838), (0, .ref q580055), (1, .ref q580056), (2, .int p580057)]) dr_cX17_run_204 (Nat.le_of_ble_eq_true rfl) rfl ?_
                      refine G_iconst 0 dr_cX17_run_205 (by decide +kernel) ?_
                      refine G_istore (L' := [(4, .int 0), (3, .int p584959), (6, .ref q584958), (5, .ref q584948), (0, .ref q580055), (1, .ref q580056), (2, .int p580057)]) dr_cX17_run_206 (Nat.le_of_ble_eq_true rfl) rfl ?_
                      refine G_goto 54 dr_cX17_run_208 (by decide +kernel) ?_
                      refine G_lv (L' := [(4, .int 0), (3, .int p584959), (0, .ref q580055), (1, .ref q580056), (2, .int p580057)]) [0, 1, 4, 5, 6] rfl ?_
                      have ac585044 : (fI (F584980 q580055) 26).toInt = z584979.toInt := by rw [he584987]; rfl
                      have ac585045 : (fI (F584980 q580055) 9).toInt = p584854.toInt := by rw [he584987]; rfl
                      have ac585046 : (fI (F584980 q580055) 10).toInt = p584855.toInt := by rw [he584987]; rfl
                      have ac585047 : (fI (F584980 q580055) 32).toInt = p584866.toInt := by rw [he584987]; rfl
                      exact ih54_584846 F584980 p584959 0 bp584959 (gB_w (gBl (show Int32.toInt 0 = 0 by decide)) (by decide) (by decide)) hT584989 hs584988 (by have qa0 : Int32.toInt 0 = 0 := (by decide); omega) (by omega) (by omega) (by omega) (by omega) (by have qa0 : Int32.toInt 0 = 0 := (by decide); omega)
                · have r585048 : p585009.toInt = 32 := gj_eq hc585021 (show Int32.toInt 32 = 32 by decide)
                  have bp585009' : gB p585009 32 32 := ⟨by omega, by omega⟩
                  refine G_aload_n 4 dr_cX17_run_144 rfl ?_
                  refine G_aload_n 4 dr_cX17_run_145 rfl ?_
                  refine G_aload 0 dr_cX17_run_146 rfl ?_
                  refine Gp_get 5 hm585007 he585008 dr_cX17_run_148 (gk_X15 D I) (Nat.le_of_ble_eq_true rfl) wr_9_197 rfl ?_
                  refine G_aload 0 dr_cX17_run_151 rfl ?_
                  refine Gp_get 2 hm585007 he585008 dr_cX17_run_153 (gk_X15 D I) (Nat.le_of_ble_eq_true rfl) wr_9_186 rfl ?_
                  refine Gw_callV (As := [.int p585014, .int p585011]) (gV_ok D I) (ct_7532_SpillForgeModel_value l hl0 D I γ el P580053 F584980 q580055 p585014 p585011 hT584989 htq580055 bp585014 (by omega)) dr_cX17_run_156 ⟨wr_11_100, wr_1_14, wr_11_103, by decide, rfl, (Nat.le_of_ble_eq_true rfl), (Nat.le_of_ble_eq_true rfl)⟩ wr_11_102 wr_p_115 hm584850 he584987 rfl (show 0 + 0 ≤ 0 by first | omega | decide) (show 0 + 0 ≤ 0 by first | omega | decide) (Nat.le_of_ble_eq_true rfl) (fun r585052 w585053 dc585049 ds585050 hp585051 => ?_) (fun _ _ _ _ _ z => z.elim)
                  obtain ⟨o585054, rfl, rfl, hdc, hds, ht585055⟩ := hp585051
                  have bo585054 := gB_any o585054
                  change G _ _ _ _ _ _ _ (.int o585054 :: _) _ _ _
                  refine G_widen (cs' := 0) (sl' := 0) (by omega) (by omega) ?_
                  refine Gp_put 24 hm584850 he584987 dr_cX17_run_159 (gk_X17 D I) (Nat.le_of_ble_eq_true rfl) wr_7_98 rfl rfl rfl (Nat.le_of_ble_eq_true rfl) (fun F585056 e585057 n585058 => ?_)
                  have he585059 : F585056 q580056 = .inr (18, [.ref q584907, .ref q584908, .int p584909, .int p584910]) := (n585058 q580056 (rn_oo he584983 he584987 (by decide))).trans he584983
                  have he585060 : F585056 q584907 = .inr (4, [.int p584929, .ref q584931, .int p584930]) := (n585058 q584907 (rn_oo he584984 he584987 (by decide))).trans he584984
                  have he585061 : F585056 q584931 = .inl (I (.object "java/lang/Object"), n584945, .inr (.inr (.inr (.inr f584946)))) := (n585058 q584931 (rn_ao he584985 he584987)).trans he584985
                  have he585062 : F585056 q584948 = .inr (17, [.ref q584957, .ref q584958, .int p584959, .int p584960]) := (n585058 q584948 (rn_oo he584986 he584987 (by decide))).trans he584986
                  have he585063 : F585056 q584957 = .inr (4, [.int p584992, .ref q584994, .int p584993]) := (n585058 q584957 (rn_oo he584991 he584987 (by decide))).trans he584991
                  have he585064 : F585056 q584958 = .inr (20, [.int p585009, .int p585010, .int p585011, .int p585012, .int p585013, .int p585014, .int p585015]) := (n585058 q584958 (rn_oo he585008 he584987 (by decide))).trans he585008
                  have he585065 : F585056 q580055 = .inr (22, [.ref (γ 9 0), .ref (γ 9 1), .ref (γ 9 2), .ref (γ 9 3), .ref (γ 9 4), .ref (γ 9 5), .ref (γ 9 6), .ref (γ 9 7), .ref (γ 9 8), .int p584854, .int p584855, .int p584856, .int p584857, .int p584858, .int p584859, .ref (γ 9 15), .ref (γ 9 16), .ref (γ 9 17), .ref (γ 9 18), .ref (γ 9 19), .ref (γ 9 20), .ref (γ 9 21), .ref (γ 9 22), .int p584860, .int o585054, .int p584862, .int z584979, .int p584864, .ref q584852, .ref (γ 9 29), .int p584865, .ref (γ 9 31), .int p584866, .int p584867, .int p584868, .ref q584853]) := e585057
                  have hs585066 : rStr γ [] F580054 F585056 := rStr_put hs584988 n585058 htq580055 (by decide)
                  refine G_iconst 0 dr_cX17_run_162 (by decide +kernel) ?_
                  have hT585067 : RS D I P580053 F585056 γ el := RS_set hT584989 n585058 htq580055 (by decide) ⟨q584852, q584853, p584854, p584855, p584856, p584857, p584858, p584859, p584860, o585054, p584862, z584979, p584864, p584865, p584866, p584867, p584868, he585065, ⟨bp584854, bp584855, (hB584895.2.2.1), (hB584895.2.2.2.1), (hB584895.2.2.2.2.1), ⟨by omega, by omega⟩, (hB584895.2.2.2.2.2.2.1), bp584866, (hB584895.2.2.2.2.2.2.2.2)⟩, ht584869, ht584870, ht584871, ht584872, ht584873, ht584874, ht584875, ht584876, ht584877, ht584878, ht584879, ht584880, ht584881, ht584882, ht584883, ht584884, ht584885, ht584886, ht584887, ht584888, ht584889, ht584890, ht584891, ht584892, hB584896⟩
                  have ac585068 : (fI (F585056 q580055) 26).toInt = z584979.toInt := by rw [he585065]; rfl
                  have ac585069 : (fI (F585056 q580055) 9).toInt = p584854.toInt := by rw [he585065]; rfl
                  have ac585070 : (fI (F585056 q580055) 10).toInt = p584855.toInt := by rw [he585065]; rfl
                  have ac585071 : (fI (F585056 q580055) 32).toInt = p584866.toInt := by rw [he585065]; rfl
                  exact G_iretA dr_cX17_run_163 rfl (Nat.le_of_ble_eq_true rfl) (Nat.le_of_ble_eq_true rfl) ⟨F585056, 0, rfl, rfl, hT585067, hs585066, (Nat.le_of_ble_eq_true rfl), (Nat.le_of_ble_eq_true rfl), (gB_w (gBl (show Int32.toInt 0 = 0 by decide)) (by decide) (by decide)), (by have qa0 : Int32.toInt 0 = 0 := (by decide); omega), (by have qa0 : Int32.toInt 0 = 0 := (by decide); omega), (by have qa0 : Int32.toInt 0 = 0 := (by decide); omega)⟩
              · have r585072 : g584838.toInt < p584993.toInt := gC_nle hc585005
                have bg584838' : gB g584838 0 999999 := ⟨by omega, by omega⟩
                have bp584993' : gB p584993 1 1000000 := ⟨by omega, by omega⟩
                refine G_aload_n 3 dr_cX17_run_94 rfl ?_
                refine G_aload 0 dr_cX17_run_95 rfl ?_
                refine Gp_get 0 hm584955 he584986 dr_cX17_run_97 (gk_X12 D I) (Nat.le_of_ble_eq_true rfl) wr_9_220 rfl ?_
                refine G_iload 1 dr_cX17_run_100 rfl ?_
                obtain ⟨r585073, r585074, n585081, f585082, r585075, r585076, r585077, r585078, r585079, r585080⟩ := rLC_n r584997 (by omega)
                have hm585083 : q584994 ∈ P580053 := RS_m hT584989 r585073 (by decide)
                obtain ⟨q585084, hx585085⟩ : ∃ x, x = el q584957 g584838.toInt.toNat := ⟨_, rfl⟩
                have hx585086 : f585082 g584838.toNatClampNeg = some q585084 := (r585079 _ (show g584838.toInt.toNat < γ 2 q584957 by omega)).trans (by rw [hx585085])
                have ht585087 : rKd γ q585084 1 := by rw [hx585085]; exact (r584998 _ (show g584838.toInt.toNat < γ 2 q584957 by omega)).1
                have ht585088 : rFm γ q585084 q584957 := by rw [hx585085]; exact (r584998 _ (show g584838.toInt.toNat < γ 2 q584957 by omega)).2.1
                refine Gw_callV (As := [.int g584838]) (gV_ok D I) (cp_22_ArrayList_get l hl0 D I P580053 F584980 q584957 q584994 g584838 p584992 p584993 f585082 n585081 q585084 hm584990 hm585083 he584991 r585075 (gB_w bg584838' (by decide) (by decide)) (gB_w bp584993' (by decide) (by decide)) (by omega) (by omega) (by assumption) (by omega)) dr_cX17_run_102 ⟨wr_10_201, wr_1_18, wr_10_65, by decide, rfl, (Nat.le_of_ble_eq_true rfl), (Nat.le_of_ble_eq_true rfl)⟩ wr_10_63 wr_10_64 hm584990 he584991 rfl (show 0 + 0 ≤ 0 by first | omega | decide) (show 0 + 0 ≤ 0 by first | omega | decide) (Nat.le_of_ble_eq_true rfl) (fun r585092 w585093 dc585089 ds585090 hp585091 => ?_) (fun _ _ _ _ _ z => z.elim)
                obtain ⟨rfl, rfl, hdc, hds, ht585094⟩ := hp585091
                change G _ _ _ _ _ _ _ (.ref q585084 :: _) _ _ _
                refine G_widen (cs' := 0) (sl' := 0) (by omega) (by omega) ?_
                have hm585095 : q585084 ∈ P580053 := RS_m hT584989 ht585087 (by decide)
                obtain ⟨p585097, p585098, p585099, p585100, p585101, p585102, p585103, he585096, bp585097, bp585098, bp585101, bp585102, bp585103, r585104, r585105, r585106, r585107, r585108⟩ := show rk_1 γ q585084 (F584980 q585084) from RS_o hT584989 ht585087
                have bp585099 := gB_any p585099
                have bp585100 := gB_any p585100
                refine Gp_cast hm585095 he585096 rfl dr_cX17_run_105 wr_10_202 (gr_cast 1 rfl) ?_
                have ac585109 : (fI (F584980 q580055) 26).toInt = z584979.toInt := by rw [he584987]; rfl
                have ac585110 : (fI (F584980 q580055) 9).toInt = p584854.toInt := by rw [he584987]; rfl
                have ac585111 : (fI (F584980 q580055) 10).toInt = p584855.toInt := by rw [he584987]; rfl
                have ac585112 : (fI (F584980 q580055) 32).toInt = p584866.toInt := by rw [he584987]; rfl
                refine Gw_callV (As := [.ref q585084]) (gV_ok D I) (ct_580839_SpillForgeModel_step l hl0 D I γ el P580053 F584980 q580055 q585084 hT584989 htq580055 ht585087) dr_cX17_run_108 ⟨wr_11_96, wr_1_14, wr_11_99, by decide, rfl, (Nat.le_of_ble_eq_true rfl), (Nat.le_of_ble_eq_true rfl)⟩ wr_11_98 wr_p_114 hm584850 he584987 rfl (show 0 + 0 ≤ 0 by first | omega | decide) (show 0 + 0 ≤ 0 by first | omega | decide) (Nat.le_of_ble_eq_true rfl) (fun r585116 w585117 dc585113 ds585114 hp585115 => ?_) (fun _ _ _ _ _ z => z.elim)
                obtain ⟨F585123, o585118, rfl, rfl, hT585124, hs585125, hdc, hds, bo585118, x585119, x585120, x585121, x585122⟩ := hp585115
                have he585126 : F585123 q580056 = .inr (18, [.ref q584907, .ref q584908, .int p584909, .int p584910]) := (hs585125 q580056 (rT0 htq580056 (by decide)) (rT1 htq580056 (by decide)) (rT2 htq580056 (by decide))).trans he584983
                have he585127 : F585123 q584907 = .inr (4, [.int p584929, .ref q584931, .int p584930]) := (hs585125 q584907 (rT0 ht584911 (by decide)) (rT1 ht584911 (by decide)) (rT2 ht584911 (by decide))).trans he584984
                have he585128 : F585123 q584931 = .inl (I (.object "java/lang/Object"), n584945, .inr (.inr (.inr (.inr f584946)))) := (hs585125 q584931 (rT0 r584937 (by decide)) (rT1 r584937 (by decide)) (rT2 r584937 (by decide))).trans he584985
                have he585129 : F585123 q584948 = .inr (17, [.ref q584957, .ref q584958, .int p584959, .int p584960]) := (hs585125 q584948 (rT0 ht584953 (by decide)) (rT1 ht584953 (by decide)) (rT2 ht584953 (by decide))).trans he584986
                have he585130 : F585123 q584957 = .inr (4, [.int p584992, .ref q584994, .int p584993]) := (hs585125 q584957 (rT0 ht584961 (by decide)) (rT1 ht584961 (by decide)) (rT2 ht584961 (by decide))).trans he584991
                have he585131 : F585123 q584994 = .inl (I (.object "java/lang/Object"), n585081, .inr (.inr (.inr (.inr f585082)))) := (hs585125 q584994 (rT0 r585073 (by decide)) (rT1 r585073 (by decide)) (rT2 r585073 (by decide))).trans r585075
                have he585132 : F585123 q585084 = .inr (20, [.int p585097, .int p585098, .int p585099, .int p585100, .int p585101, .int p585102, .int p585103]) := (hs585125 q585084 (rT0 ht585087 (by decide)) (rT1 ht585087 (by decide)) (rT2 ht585087 (by decide))).trans he585096
                have hs585133 : rStr γ [] F580054 F585123 := rStr_tr hs584988 hs585125
                change G _ _ _ _ _ _ _ (.int o585118 :: _) _ _ _
                refine G_widen (cs' := 0) (sl' := 0) (by omega) (by omega) ?_
                refine G_istore (L' := [(6, .int o585118), (5, .ref q584948), (4, .int g584838), (3, .int g584837), (0, .ref q580055), (1, .ref q580056), (2, .int p580057)]) dr_cX17_run_111 (Nat.le_of_ble_eq_true rfl) rfl ?_
                refine G_iload 0 dr_cX17_run_113 rfl ?_
                refine G_if_lt 121 dr_cX17_run_115 (by decide +kernel) (fun hc585134 => ?_) (fun hc585134 => ?_)
                · have r585135 : o585118.toInt < 0 := gj_lt hc585134 (show Int32.toInt 0 = 0 by decide)
                  have bo585118' : gB o585118 (-1) (-1) := ⟨by omega, by omega⟩
                  obtain ⟨z585136, hz585136⟩ : ∃ z : Int32, z = g584838 + Int32.ofInt 1 := ⟨_, rfl⟩
                  have ez585136 : z585136.toInt = g584838.toInt + 1 := gI_inc hz585136 (by decide) bg584838' (by decide) (by decide)
                  have bz585136 : gB z585136 1 1000000 := ⟨by omega, by omega⟩
                  refine G_iinc (L' := [(4, .int z585136), (6, .int o585118), (5, .ref q584948), (3, .int g584837), (0, .ref q580055), (1, .ref q580056), (2, .int p580057)]) z585136 2 dr_cX17_run_121 rfl hz585136.symm (Nat.le_of_ble_eq_true rfl) rfl ?_
                  refine G_goto 54 dr_cX17_run_124 (by decide +kernel) ?_
                  refine G_lv (L' := [(4, .int z585136), (3, .int g584837), (0, .ref q580055), (1, .ref q580056), (2, .int p580057)]) [0, 3, 4, 5, 6] rfl ?_
                  have hm585137 : q580055 ∈ P580053 := RS_m hT585124 htq580055 (by decide)
                  refine rk10_e (show rk_10 γ (F585123 q580055) from RS_o hT585124 htq580055) (fun q585139 q585140 p585141 p585142 p585143 p585144 p585145 p585146 p585147 p585148 p585149 p585150 p585151 p585152 p585153 p585154 p585155 he585138 hB585182 ht585156 ht585157 ht585158 ht585159 ht585160 ht585161 ht585162 ht585163 ht585164 ht585165 ht585166 ht585167 ht585168 ht585169 ht585170 ht585171 ht585172 ht585173 ht585174 ht585175 ht585176 ht585177 ht585178 ht585179 hB585183 => ?_)
                  have ac585184 : (fI (F585123 q580055) 26).toInt = p585150.toInt := by rw [he585138]; rfl
                  have bp585150 : gB p585150 0 100000 := (hB585182.2.2.2.2.2.1)
                  have ac585185 : (fI (F585123 q580055) 9).toInt = p585141.toInt := by rw [he585138]; rfl
                  have bp585141 : gB p585141 0 1 := (hB585182.1)
                  have ac585186 : (fI (F585123 q580055) 10).toInt = p585142.toInt := by rw [he585138]; rfl
                  have bp585142 : gB p585142 0 1 := (hB585182.2.1)
                  have ac585187 : (fI (F585123 q580055) 32).toInt = p585153.toInt := by rw [he585138]; rfl
                  have bp585153 : gB p585153 0 8192 := (hB585182.2.2.2.2.2.2.2.1)
                  have ac585188 : (fI (F585123 q580055) 26).toInt = p585150.toInt := by rw [he585138]; rfl
                  have ac585189 : (fI (F585123 q580055) 9).toInt = p585141.toInt := by rw [he585138]; rfl
                  have ac585190 : (fI (F585123 q580055) 10).toInt = p585142.toInt := by rw [he585138]; rfl
                  have ac585191 : (fI (F585123 q580055) 32).toInt = p585153.toInt := by rw [he585138]; rfl
                  exact ih54_584846 F585123 g584837 z585136 bg584837 (gB_w bz585136 (by decide) (by decide)) hT585124 hs585133 (by omega) (by omega) (by omega) (by omega) (by omega) (by omega)
                · have r585192 : 0 ≤ o585118.toInt := gj_nlt hc585134 (show Int32.toInt 0 = 0 by decide)
                  have bo585118' : gB o585118 0 5 := ⟨by omega, by omega⟩
                  refine G_iload 0 dr_cX17_run_118 rfl ?_
                  have hm585193 : q580055 ∈ P580053 := RS_m hT585124 htq580055 (by decide)
                  refine rk10_e (show rk_10 γ (F585123 q580055) from RS_o hT585124 htq580055) (fun q585195 q585196 p585197 p585198 p585199 p585200 p585201 p585202 p585203 p585204 p585205 p585206 p585207 p585208 p585209 p585210 p585211 he585194 hB585238 ht585212 ht585213 ht585214 ht585215 ht585216 ht585217 ht585218 ht585219 ht585220 ht585221 ht585222 ht585223 ht585224 ht585225 ht585226 ht585227 ht585228 ht585229 ht585230 ht585231 ht585232 ht585233 ht585234 ht585235 hB585239 => ?_)
                  have ac585240 : (fI (F585123 q580055) 26).toInt = p585206.toInt := by rw [he585194]; rfl
                  have bp585206 : gB p585206 0 100000 := (hB585238.2.2.2.2.2.1)
                  have ac585241 : (fI (F585123 q580055) 9).toInt = p585197.toInt := by rw [he585194]; rfl
                  have bp585197 : gB p585197 0 1 := (hB585238.1)
                  have ac585242 : (fI (F585123 q580055) 10).toInt = p585198.toInt := by rw [he585194]; rfl
                  have bp585198 : gB p585198 0 1 := (hB585238.2.1)
                  have ac585243 : (fI (F585123 q580055) 32).toInt = p585209.toInt := by rw [he585194]; rfl
                  have bp585209 : gB p585209 0 8192 := (hB585238.2.2.2.2.2.2.2.1)
                  have ac585244 : (fI (F585123 q580055) 26).toInt = p585206.toInt := by rw [he585194]; rfl
                  have ac585245 : (fI (F585123 q580055) 9).toInt = p585197.toInt := by rw [he585194]; rfl
                  have ac585246 : (fI (F585123 q580055) 10).toInt = p585198.toInt := by rw [he585194]; rfl
                  have ac585247 : (fI (F585123 q580055) 32).toInt = p585209.toInt := by rw [he585194]; rfl
                  exact G_iretA dr_cX17_run_120 rfl (Nat.le_of_ble_eq_true rfl) (Nat.le_of_ble_eq_true rfl) ⟨F585123, o585118, rfl, rfl, hT585124, hs585133, (Nat.le_of_ble_eq_true rfl), (Nat.le_of_ble_eq_true rfl), bo585118', (by omega), (by omega), (by omega)⟩
            · have r585248 : p584863.toInt = p580057.toInt := gC_eq hc584977
              have bp584863' : gB p584863 1 100000 := ⟨by omega, by omega⟩
              refine G_iconst 4 dr_cX17_run_69 (by decide +kernel) ?_
              have ac585249 : (fI (F584839 q580055) 26).toInt = p584863.toInt := by rw [he584851]; rfl
              have ac585250 : (fI (F584839 q580055) 9).toInt = p584854.toInt := by rw [he584851]; rfl
              have ac585251 : (fI (F584839 q580055) 10).toInt = p584855.toInt := by rw [he584851]; rfl
              have ac585252 : (fI (F584839 q580055) 32).toInt = p584866.toInt := by rw [he584851]; rfl
              exact G_iretA dr_cX17_run_70 rfl (Nat.le_of_ble_eq_true rfl) (Nat.le_of_ble_eq_true rfl) ⟨F584839, 4, rfl, rfl, hT584840, hs584841, (Nat.le_of_ble_eq_true rfl), (Nat.le_of_ble_eq_true rfl), (gB_w (gBl (show Int32.toInt 4 = 4 by decide)) (by decide) (by decide)), (by have qa0 : Int32.toInt 4 = 4 := (by decide); omega), (by have qa0 : Int32.toInt 4 = 4 := (by decide); omega), (by have qa0 : Int32.toInt 4 = 4 := (by decide); omega)⟩
        have ac585253 : (fI (F584487 q580055) 26).toInt = 0 := by rw [he584490]; show Int32.toInt 0 = 0; decide
        have ac585254 : (fI (F584487 q580055) 9).toInt = p584417.toInt := by rw [he584490]; rfl
        have ac585255 : (fI (F584487 q580055) 10).toInt = p584418.toInt := by rw [he584490]; rfl
        have ac585256 : (fI (F584487 q580055) 32).toInt = p584429.toInt := by rw [he584490]; rfl
        exact hlp54_584846 ((p580057.toInt - (fI (F584487 q580055) 26).toInt).toNat + 1) F584487 0 0 (gB_w (gBl (show Int32.toInt 0 = 0 by decide)) (by decide) (by decide)) (gB_w (gBl (show Int32.toInt 0 = 0 by decide)) (by decide) (by decide)) hT584493 hs584491 (by have qa0 : Int32.toInt 0 = 0 := (by decide); omega) (by omega) (by omega) (by omega) (by omega) (Nat.lt_succ_self _)
      · have r585257 : g584403.toInt < 2000 := gj_nleL hc584468 (show Int32.toInt 2000 = 2000 by decide)
        have bg584403' : gB g584403 0 1999 := ⟨by omega, by omega⟩
        refine G_aload_n 1 dr_cX17_run_9 rfl ?_
        refine Gp_get 20 hm584413 he584414 dr_cX17_run_10 (gk_X17 D I) (Nat.le_of_ble_eq_true rfl) wr_7_94 rfl ?_
        refine G_iload_n 0 dr_cX17_run_13 rfl ?_
        refine G_iconst 0 dr_cX17_run_14 (by decide +kernel) ?_
        have hm585258 : (γ 9 20) ∈ P580053 := RS_m hT584405 ht584448 (by decide)
        obtain ⟨f585260, he585259⟩ := show rk_22 I (F584404 (γ 9 20)) from RS_o hT584405 ht584448
        refine Gp_iast 0 hm585258 he585259 dr_cX17_run_15 rfl (gB_in bg584403' (by decide) (by decide)) (fun F585261 e585262 n585263 => ?_)
        obtain ⟨f585264, hf585264⟩ : ∃ z, z = upd f585260 g584403.toNatClampNeg 0 := ⟨_, rfl⟩
        rw [← hf585264] at e585262
        have he585265 : F585261 q580055 = .inr (22, [.ref (γ 9 0), .ref (γ 9 1), .ref (γ 9 2), .ref (γ 9 3), .ref (γ 9 4), .ref (γ 9 5), .ref (γ 9 6), .ref (γ 9 7), .ref (γ 9 8), .int p584417, .int p584418, .int p584419, .int p584420, .int p584421, .int p584422, .ref (γ 9 15), .ref (γ 9 16), .ref (γ 9 17), .ref (γ 9 18), .ref (γ 9 19), .ref (γ 9 20), .ref (γ 9 21), .ref (γ 9 22), .int p584423, .int p584424, .int p584425, .int p584426, .int p584427, .ref q584415, .ref (γ 9 29), .int p584428, .ref (γ 9 31), .int p584429, .int p584430, .int p584431, .ref q584416]) := (n585263 q580055 (rn_oa he584414 he585259)).trans he584414
        have he585266 : F585261 (γ 9 20) = .inl (I .int, 2000, .inl f585264) := e585262
        have hs585267 : rStr γ [] F580054 F585261 := rStr_put hs584406 n585263 ht584448 (by decide)
        refine G_aload_n 1 dr_cX17_run_16 rfl ?_
        refine Gp_get 21 hm584413 he585265 dr_cX17_run_17 (gk_X17 D I) (Nat.le_of_ble_eq_true rfl) wr_7_95 rfl ?_
        refine G_iload_n 0 dr_cX17_run_20 rfl ?_
        refine G_iconst 0 dr_cX17_run_21 (by decide +kernel) ?_
        have hT585268 : RS D I P580053 F585261 γ el := RS_set hT584405 n585263 ht584448 (by decide) ⟨f585264, he585266⟩
        have hm585269 : (γ 9 21) ∈ P580053 := RS_m hT585268 ht584449 (by decide)
        obtain ⟨f585271, he585270⟩ := show rk_23 I (F585261 (γ 9 21)) from RS_o hT585268 ht584449
        refine Gp_iast 0 hm585269 he585270 dr_cX17_run_22 rfl (gB_in bg584403' (by decide) (by decide)) (fun F585272 e585273 n585274 => ?_)
        obtain ⟨f585275, hf585275⟩ : ∃ z, z = upd f585271 g584403.toNatClampNeg 0 := ⟨_, rfl⟩
        rw [← hf585275] at e585273
        have he585276 : F585272 q580055 = .inr (22, [.ref (γ 9 0), .ref (γ 9 1), .ref (γ 9 2), .ref (γ 9 3), .ref (γ 9 4), .ref (γ 9 5), .ref (γ 9 6), .ref (γ 9 7), .ref (γ 9 8), .int p584417, .int p584418, .int p584419, .int p584420, .int p584421, .int p584422, .ref (γ 9 15), .ref (γ 9 16), .ref (γ 9 17), .ref (γ 9 18), .ref (γ 9 19), .ref (γ 9 20), .ref (γ 9 21), .ref (γ 9 22), .int p584423, .int p584424, .int p584425, .int p584426, .int p584427, .ref q584415, .ref (γ 9 29), .int p584428, .ref (γ 9 31), .int p584429, .int p584430, .int p584431, .ref q584416]) := (n585274 q580055 (rn_oa he585265 he585270)).trans he585265
        have he585277 : F585272 (γ 9 20) = .inl (I .int, 2000, .inl f585264) := (n585274 (γ 9 20) (rn_ty ht584448 ht584449 (by decide))).trans he585266
        have he585278 : F585272 (γ 9 21) = .inl (I .int, 2000, .inl f585275) := e585273
        have hs585279 : rStr γ [] F580054 F585272 := rStr_put hs585267 n585274 ht584449 (by decide)
        obtain ⟨z585280, hz585280⟩ : ∃ z : Int32, z = g584403 + Int32.ofInt 1 := ⟨_, rfl⟩
        have ez585280 : z585280.toInt = g584403.toInt + 1 := gI_inc hz585280 (by decide) bg584403' (by decide) (by decide)
        have bz585280 : gB z585280 1 2000 := ⟨by omega, by omega⟩
        refine G_iinc (L' := [(3, .int z585280), (0, .ref q580055), (1, .ref q580056), (2, .int p580057)]) z585280 0 dr_cX17_run_23 rfl hz585280.symm (Nat.le_of_ble_eq_true rfl) rfl ?_
        refine G_goto 2 dr_cX17_run_26 (by decide +kernel) ?_
        have hT585281 : RS D I P580053 F585272 γ el := RS_set hT585268 n585274 ht584449 (by decide) ⟨f585275, he585278⟩
        have ac585282 : (fI (F585272 q580055) 26).toInt = p584426.toInt := by rw [he585276]; rfl
        have ac585283 : (fI (F585272 q580055) 9).toInt = p584417.toInt := by rw [he585276]; rfl
        have ac585284 : (fI (F585272 q580055) 10).toInt = p584418.toInt := by rw [he585276]; rfl
        have ac585285 : (fI (F585272 q580055) 32).toInt = p584429.toInt := by rw [he585276]; rfl
        exact ih2_584409 F585272 z585280 (gB_w bz585280 (by decide) (by decide)) hT585281 hs585279 (by omega) (by omega) (by omega) (mz_up ez585280 (Int.le_trans bg584403'.2 (by decide)) hm2_584409)
  have ac585286 : (fI (F580054 q580055) 26).toInt = p580073.toInt := by rw [he580061]; rfl
  have ac585287 : (fI (F580054 q580055) 9).toInt = p580064.toInt := by rw [he580061]; rfl
  have ac585288 : (fI (F580054 q580055) 10).toInt = p580065.toInt := by rw [he580061]; rfl
  have ac585289 : (fI (F580054 q580055) 32).toInt = p580076.toInt := by rw [he580061]; rfl
  exact hlp2_584409 (((2001 : Int) - 0).toNat + 1) F580054 0 (gB_w (gBl (show Int32.toInt 0 = 0 by decide)) (by decide) (by decide)) hT (rStr_rf (γ := γ) (W := []) (F := F580054)) (by omega) (by omega) (by omega) (Nat.lt_succ_self _)
abbrev ky_585299_SpillForgeModel_run : gKey := (cX17_run_, 3, "SpillForgeModel", (some FieldType.int), [], "run", fun _ _ => True)
def pt_585299_SpillForgeModel_run (D : va_G) (I : FieldType → ClassId) (γ el : Nat → Nat → Nat) (P585292 : List Nat) (F585293 : Nat → va_E) (q585294 : Nat) (p585295 : Int32) (p585296 : Int32) : Option Value → va_W → Nat → Nat → Prop := fun r w dc ds => ∃ (F585807 : Nat → va_E) (o585806 : Int32), r = some (.int o585806) ∧ w = va_pl P585292 F585807 ∧ RS D I P585292 F585807 γ el ∧ rStr γ [] F585293 F585807 ∧ dc ≤ 0 ∧ ds ≤ 0 ∧ gB o585806 0 5 ∧ (fI (F585807 q585294) 9).toInt = (fI (F585293 q585294) 9).toInt ∧ (fI (F585807 q585294) 10).toInt = (fI (F585293 q585294) 10).toInt ∧ (fI (F585807 q585294) 32).toInt = (fI (F585293 q585294) 32).toInt
set_option maxRecDepth 100000 in
set_option maxHeartbeats 4000000 in
theorem ct_585299_SpillForgeModel_run (l : Launch) (hl0 : l.stackTraces = false) (D : va_G) (I : FieldType → ClassId) (γ el : Nat → Nat → Nat) (P585292 : List Nat) (F585293 : Nat → va_E) (q585294 : Nat) (p585295 : Int32) (p585296 : Int32) (hT : RS D I P585292 F585293 γ el) (htq585294 : rKd γ q585294 10) (bp585295 : gB p585295 0 1) (x585297 : ((fI (F585293 q585294) 9).toInt = 0 ∨ 0 < γ 6 0)) (x585298 : ((fI (F585293 q585294) 10).toInt = 0 ∨ 0 < γ 6 1)) : CtA (gV D I) l yX17_run_ cX17_run_ 3 (some FieldType.int) 5 111 0 0 [.ref q585294, .int p585295, .int p585296] (va_pl P585292 F585293) (pt_585299_SpillForgeModel_run D I γ el P585292 F585293 q585294 p585295 p585296) gNA := by
  refine CtA_of hl0 (by decide) (Nat.le_of_ble_eq_true rfl) ?_
  have bp585296 := gB_any p585296
  have hm585300 : q585294 ∈ P585292 := RS_m hT htq585294 (by decide)
  refine rk10_e (show rk_10 γ (F585293 q585294) from RS_o hT htq585294) (fun q585302 q585303 p585304 p585305 p585306 p585307 p585308 p585309 p585310 p585311 p585312 p585313 p585314 p585315 p585316 p585317 p585318 he585301 hB585345 ht585319 ht585320 ht585321 ht585322 ht585323 ht585324 ht585325 ht585326 ht585327 ht585328 ht585329 ht585330 ht585331 ht585332 ht585333 ht585334 ht585335 ht585336 ht585337 ht585338 ht585339 ht585340 ht585341 ht585342 hB585346 => ?_)
  have ac585347 : (fI (F585293 q585294) 9).toInt = p585304.toInt := by rw [he585301]; rfl
  have bp585304 : gB p585304 0 1 := (hB585345.1)
  have ac585348 : (fI (F585293 q585294) 10).toInt = p585305.toInt := by rw [he585301]; rfl
  have bp585305 : gB p585305 0 1 := (hB585345.2.1)
  have ac585349 : (fI (F585293 q585294) 32).toInt = p585316.toInt := by rw [he585301]; rfl
  have bp585316 : gB p585316 0 8192 := (hB585345.2.2.2.2.2.2.2.1)
  have fq585350 : γ 6 (γ 1 (γ 9 6)) = γ 6 0 := by rw [show γ 1 (γ 9 6) = 0 from ht585340]
  have fq585351 : γ 6 (γ 1 (γ 9 7)) = γ 6 1 := by rw [show γ 1 (γ 9 7) = 1 from ht585341]
  have fq585352 : γ 6 (γ 1 (γ 9 8)) = γ 6 2 := by rw [show γ 1 (γ 9 8) = 2 from ht585342]
  have r585353 : p585318.toInt ≤ γ 12 q585303 := by have z := hB585346; unfold rM2 at z; exact z.2.2
  refine G_aload_n 0 dr_cX17_run__0 rfl ?_
  refine G_iconst 0 dr_cX17_run__1 (by decide +kernel) ?_
  refine Gp_put 30 hm585300 he585301 dr_cX17_run__2 (gk_X17 D I) (Nat.le_of_ble_eq_true rfl) wr_7_104 rfl rfl rfl (Nat.le_of_ble_eq_true rfl) (fun F585354 e585355 n585356 => ?_)
  have he585357 : F585354 q585294 = .inr (22, [.ref (γ 9 0), .ref (γ 9 1), .ref (γ 9 2), .ref (γ 9 3), .ref (γ 9 4), .ref (γ 9 5), .ref (γ 9 6), .ref (γ 9 7), .ref (γ 9 8), .int p585304, .int p585305, .int p585306, .int p585307, .int p585308, .int p585309, .ref (γ 9 15), .ref (γ 9 16), .ref (γ 9 17), .ref (γ 9 18), .ref (γ 9 19), .ref (γ 9 20), .ref (γ 9 21), .ref (γ 9 22), .int p585310, .int p585311, .int p585312, .int p585313, .int p585314, .ref q585302, .ref (γ 9 29), .int 0, .ref (γ 9 31), .int p585316, .int p585317, .int p585318, .ref q585303]) := e585355
  have hs585358 : rStr γ [] F585293 F585354 := rStr_put (rStr_rf (γ := γ) (W := []) (F := F585293)) n585356 htq585294 (by decide)
  refine G_iload_n 2 dr_cX17_run__5 rfl ?_
  refine G_iconst 1 dr_cX17_run__6 (by decide +kernel) ?_
  refine G_icmp_lt 17 dr_cX17_run__7 (by decide +kernel) (fun hc585359 => ?_) (fun hc585359 => ?_)
  · have r585360 : p585296.toInt < 1 := gj_lt hc585359 (show Int32.toInt 1 = 1 by decide)
    have bp585296' : gB p585296 (-2147483648) 0 := ⟨by omega, by omega⟩
    refine G_aload_n 0 dr_cX17_run__17 rfl ?_
    refine G_iconst 1 dr_cX17_run__18 (by decide +kernel) ?_
    have hT585361 : RS D I P585292 F585354 γ el := RS_set hT n585356 htq585294 (by decide) ⟨q585302, q585303, p585304, p585305, p585306, p585307, p585308, p585309, p585310, p585311, p585312, p585313, p585314, 0, p585316, p585317, p585318, he585357, ⟨bp585304, bp585305, (hB585345.2.2.1), (hB585345.2.2.2.1), (hB585345.2.2.2.2.1), (hB585345.2.2.2.2.2.1), (hB585345.2.2.2.2.2.2.1), bp585316, (hB585345.2.2.2.2.2.2.2.2)⟩, ht585319, ht585320, ht585321, ht585322, ht585323, ht585324, ht585325, ht585326, ht585327, ht585328, ht585329, ht585330, ht585331, ht585332, ht585333, ht585334, ht585335, ht585336, ht585337, ht585338, ht585339, ht585340, ht585341, ht585342, hB585346⟩
    have ac585362 : (fI (F585354 q585294) 9).toInt = p585304.toInt := by rw [he585357]; rfl
    have ac585363 : (fI (F585354 q585294) 10).toInt = p585305.toInt := by rw [he585357]; rfl
    have ac585364 : (fI (F585354 q585294) 32).toInt = p585316.toInt := by rw [he585357]; rfl
    refine Gw_callV (As := [.int 1]) (gV_ok D I) (ct_578426_SpillForgeModel_no l hl0 D I γ el P585292 F585354 q585294 1 hT585361 htq585294) dr_cX17_run__19 ⟨wr_7_191, wr_1_14, wr_7_194, by decide, rfl, (Nat.le_of_ble_eq_true rfl), (Nat.le_of_ble_eq_true rfl)⟩ wr_7_193 wr_p_73 hm585300 he585357 rfl (show 0 + 0 ≤ 0 by first | omega | decide) (show 0 + 0 ≤ 0 by first | omega | decide) (Nat.le_of_ble_eq_true rfl) (fun r585368 w585369 dc585365 ds585366 hp585367 => ?_) (fun _ _ _ _ _ z => z.elim)
    obtain ⟨F585374, rfl, rfl, hT585375, hs585376, hdc, hds, x585370, x585371, x585372, x585373⟩ := hp585367
    have hs585377 : rStr γ [] F585293 F585374 := rStr_tr hs585358 hs585376
    rw [show Int32.toInt 1 = 1 from by decide] at x585373
    change G _ _ _ _ _ _ _ (.int 0 :: _) _ _ _
    refine G_widen (cs' := 0) (sl' := 0) (by omega) (by omega) ?_
    have hm585378 : q585294 ∈ P585292 := RS_m hT585375 htq585294 (by decide)
    refine rk10_e (show rk_10 γ (F585374 q585294) from RS_o hT585375 htq585294) (fun q585380 q585381 p585382 p585383 p585384 p585385 p585386 p585387 p585388 p585389 p585390 p585391 p585392 p585393 p585394 p585395 p585396 he585379 hB585423 ht585397 ht585398 ht585399 ht585400 ht585401 ht585402 ht585403 ht585404 ht585405 ht585406 ht585407 ht585408 ht585409 ht585410 ht585411 ht585412 ht585413 ht585414 ht585415 ht585416 ht585417 ht585418 ht585419 ht585420 hB585424 => ?_)
    have ac585425 : (fI (F585374 q585294) 9).toInt = p585382.toInt := by rw [he585379]; rfl
    have bp585382 : gB p585382 0 1 := (hB585423.1)
    have ac585426 : (fI (F585374 q585294) 10).toInt = p585383.toInt := by rw [he585379]; rfl
    have bp585383 : gB p585383 0 1 := (hB585423.2.1)
    have ac585427 : (fI (F585374 q585294) 32).toInt = p585394.toInt := by rw [he585379]; rfl
    have bp585394 : gB p585394 0 8192 := (hB585423.2.2.2.2.2.2.2.1)
    have ac585428 : (fI (F585374 q585294) 9).toInt = p585382.toInt := by rw [he585379]; rfl
    have ac585429 : (fI (F585374 q585294) 10).toInt = p585383.toInt := by rw [he585379]; rfl
    have ac585430 : (fI (F585374 q585294) 32).toInt = p585394.toInt := by rw [he585379]; rfl
    exact G_iretA dr_cX17_run__22 rfl (Nat.le_of_ble_eq_true rfl) (Nat.le_of_ble_eq_true rfl) ⟨F585374, 0, rfl, rfl, hT585375, hs585377, (Nat.le_of_ble_eq_true rfl), (Nat.le_of_ble_eq_true rfl), (gB_w (gBl (show Int32.toInt 0 = 0 by decide)) (by decide) (by decide)), (by have qa0 : Int32.toInt 0 = 0 := (by decide); omega), (by have qa0 : Int32.toInt 0 = 0 := (by decide); omega), (by have qa0 : Int32.toInt 0 = 0 := (by decide); omega)⟩
  · have r585431 : 1 ≤ p585296.toInt := gj_nlt hc585359 (show Int32.toInt 1 = 1 by decide)
    have bp585296' : gB p585296 1 2147483647 := ⟨by omega, by omega⟩
    refine G_iload_n 2 dr_cX17_run__10 rfl ?_
    refine G_ldcw 100000 dr_cX17_run__11 wr_11_91 ?_
    refine G_icmp_le 23 dr_cX17_run__14 (by decide +kernel) (fun hc585432 => ?_) (fun hc585432 => ?_)
    · have r585433 : p585296.toInt ≤ 100000 := gj_le hc585432 (show Int32.toInt 100000 = 100000 by decide)
      have bp585296'' : gB p585296 1 100000 := ⟨by omega, by omega⟩
      refine G_iload_n 1 dr_cX17_run__23 rfl ?_
      refine G_if_eq 37 dr_cX17_run__24 (by decide +kernel) (fun hc585434 => ?_) (fun hc585434 => ?_)
      · have r585435 : p585295.toInt = 0 := gj_eq hc585434 (show Int32.toInt 0 = 0 by decide)
        have bp585295' : gB p585295 0 0 := gB_t0 r585435
        refine G_aload_n 0 dr_cX17_run__37 rfl ?_
        refine Gp_get 9 hm585300 he585357 dr_cX17_run__38 (gk_X17 D I) (Nat.le_of_ble_eq_true rfl) wr_7_83 rfl ?_
        refine G_if_ne 50 dr_cX17_run__41 (by decide +kernel) (fun hc585436 => ?_) (fun hc585436 => ?_)
        · have r585437 : p585304.toInt ≠ 0 := gj_neq hc585436 (show Int32.toInt 0 = 0 by decide)
          have bp585304' : gB p585304 1 1 := gB_t1 bp585304 r585437
          refine G_aload_n 0 dr_cX17_run__50 rfl ?_
          refine G_aload_n 0 dr_cX17_run__51 rfl ?_
          refine G_iload_n 1 dr_cX17_run__52 rfl ?_
          refine G_if_eq 63 dr_cX17_run__53 (by decide +kernel) (fun _ => ?_) (fun hc => absurd (show False by have := gj_neq hc (show Int32.toInt 0 = 0 by decide); omega) not_false)
          refine G_aload_n 0 dr_cX17_run__63 rfl ?_
          refine Gp_get 6 hm585300 he585357 dr_cX17_run__64 (gk_X17 D I) (Nat.le_of_ble_eq_true rfl) wr_7_80 rfl ?_
          refine G_iload_n 2 dr_cX17_run__67 rfl ?_
          have hT585438 : RS D I P585292 F585354 γ el := RS_set hT n585356 htq585294 (by decide) ⟨q585302, q585303, p585304, p585305, p585306, p585307, p585308, p585309, p585310, p585311, p585312, p585313, p585314, 0, p585316, p585317, p585318, he585357, ⟨(gB_w bp585304' (by decide) (by decide)), bp585305, (hB585345.2.2.1), (hB585345.2.2.2.1), (hB585345.2.2.2.2.1), (hB585345.2.2.2.2.2.1), (hB585345.2.2.2.2.2.2.1), bp585316, (hB585345.2.2.2.2.2.2.2.2)⟩, ht585319, ht585320, ht585321, ht585322, ht585323, ht585324, ht585325, ht585326, ht585327, ht585328, ht585329, ht585330, ht585331, ht585332, ht585333, ht585334, ht585335, ht585336, ht585337, ht585338, ht585339, ht585340, ht585341, ht585342, hB585346⟩
          have ac585439 : (fI (F585354 q585294) 9).toInt = p585304.toInt := by rw [he585357]; rfl
          have ac585440 : (fI (F585354 q585294) 10).toInt = p585305.toInt := by rw [he585357]; rfl
          have ac585441 : (fI (F585354 q585294) 32).toInt = p585316.toInt := by rw [he585357]; rfl
          refine Gw_callV (As := [.ref (γ 9 6), .int p585296]) (gV_ok D I) (ct_580059_SpillForgeModel_run l hl0 D I γ el P585292 F585354 q585294 (γ 9 6) p585296 hT585438 htq585294 ht585327 bp585296'' (by have qa0 : Int32.toInt 0 = 0 := (by decide); omega)) dr_cX17_run__68 ⟨wr_11_92, wr_1_14, wr_11_95, by decide, rfl, (Nat.le_of_ble_eq_true rfl), (Nat.le_of_ble_eq_true rfl)⟩ wr_11_94 wr_p_113 hm585300 he585357 rfl (show 0 + 0 ≤ 0 by first | omega | decide) (show 0 + 0 ≤ 0 by first | omega | decide) (Nat.le_of_ble_eq_true rfl) (fun r585445 w585446 dc585442 ds585443 hp585444 => ?_) (fun _ _ _ _ _ z => z.elim)
          obtain ⟨F585451, o585447, rfl, rfl, hT585452, hs585453, hdc, hds, bo585447, x585448, x585449, x585450⟩ := hp585444
          have hs585454 : rStr γ [] F585293 F585451 := rStr_tr hs585358 hs585453
          change G _ _ _ _ _ _ _ (.int o585447 :: _) _ _ _
          refine G_widen (cs' := 0) (sl' := 0) (by omega) (by omega) ?_
          have hm585455 : q585294 ∈ P585292 := RS_m hT585452 htq585294 (by decide)
          refine rk10_e (show rk_10 γ (F585451 q585294) from RS_o hT585452 htq585294) (fun q585457 q585458 p585459 p585460 p585461 p585462 p585463 p585464 p585465 p585466 p585467 p585468 p585469 p585470 p585471 p585472 p585473 he585456 hB585500 ht585474 ht585475 ht585476 ht585477 ht585478 ht585479 ht585480 ht585481 ht585482 ht585483 ht585484 ht585485 ht585486 ht585487 ht585488 ht585489 ht585490 ht585491 ht585492 ht585493 ht585494 ht585495 ht585496 ht585497 hB585501 => ?_)
          have ac585502 : (fI (F585451 q585294) 9).toInt = p585459.toInt := by rw [he585456]; rfl
          have bp585459 : gB p585459 0 1 := (hB585500.1)
          have ac585503 : (fI (F585451 q585294) 10).toInt = p585460.toInt := by rw [he585456]; rfl
          have bp585460 : gB p585460 0 1 := (hB585500.2.1)
          have ac585504 : (fI (F585451 q585294) 32).toInt = p585471.toInt := by rw [he585456]; rfl
          have bp585471 : gB p585471 0 8192 := (hB585500.2.2.2.2.2.2.2.1)
          refine Gp_put 23 hm585455 he585456 dr_cX17_run__71 (gk_X17 D I) (Nat.le_of_ble_eq_true rfl) wr_7_97 rfl rfl rfl (Nat.le_of_ble_eq_true rfl) (fun F585505 e585506 n585507 => ?_)
          have he585508 : F585505 q585294 = .inr (22, [.ref (γ 9 0), .ref (γ 9 1), .ref (γ 9 2), .ref (γ 9 3), .ref (γ 9 4), .ref (γ 9 5), .ref (γ 9 6), .ref (γ 9 7), .ref (γ 9 8), .int p585459, .int p585460, .int p585461, .int p585462, .int p585463, .int p585464, .ref (γ 9 15), .ref (γ 9 16), .ref (γ 9 17), .ref (γ 9 18), .ref (γ 9 19), .ref (γ 9 20), .ref (γ 9 21), .ref (γ 9 22), .int o585447, .int p585466, .int p585467, .int p585468, .int p585469, .ref q585457, .ref (γ 9 29), .int p585470, .ref (γ 9 31), .int p585471, .int p585472, .int p585473, .ref q585458]) := e585506
          have hs585509 : rStr γ [] F585293 F585505 := rStr_put hs585454 n585507 htq585294 (by decide)
          refine G_aload_n 0 dr_cX17_run__74 rfl ?_
          refine Gp_get 23 hm585455 he585508 dr_cX17_run__75 (gk_X17 D I) (Nat.le_of_ble_eq_true rfl) wr_7_97 rfl ?_
          have hT585510 : RS D I P585292 F585505 γ el := RS_set hT585452 n585507 htq585294 (by decide) ⟨q585457, q585458, p585459, p585460, p585461, p585462, p585463, p585464, o585447, p585466, p585467, p585468, p585469, p585470, p585471, p585472, p585473, he585508, ⟨bp585459, bp585460, (hB585500.2.2.1), (hB585500.2.2.2.1), (hB585500.2.2.2.2.1), (hB585500.2.2.2.2.2.1), (hB585500.2.2.2.2.2.2.1), bp585471, (hB585500.2.2.2.2.2.2.2.2)⟩, ht585474, ht585475, ht585476, ht585477, ht585478, ht585479, ht585480, ht585481, ht585482, ht585483, ht585484, ht585485, ht585486, ht585487, ht585488, ht585489, ht585490, ht585491, ht585492, ht585493, ht585494, ht585495, ht585496, ht585497, hB585501⟩
          have ac585511 : (fI (F585505 q585294) 9).toInt = p585459.toInt := by rw [he585508]; rfl
          have ac585512 : (fI (F585505 q585294) 10).toInt = p585460.toInt := by rw [he585508]; rfl
          have ac585513 : (fI (F585505 q585294) 32).toInt = p585471.toInt := by rw [he585508]; rfl
          exact G_iretA dr_cX17_run__78 rfl (Nat.le_of_ble_eq_true rfl) (Nat.le_of_ble_eq_true rfl) ⟨F585505, o585447, rfl, rfl, hT585510, hs585509, (Nat.le_of_ble_eq_true rfl), (Nat.le_of_ble_eq_true rfl), bo585447, (by omega), (by omega), (by omega)⟩
        · have r585514 : p585304.toInt = 0 := gj_eq hc585436 (show Int32.toInt 0 = 0 by decide)
          have bp585304' : gB p585304 0 0 := gB_t0 r585514
          refine G_aload_n 0 dr_cX17_run__44 rfl ?_
          refine G_iconst 2 dr_cX17_run__45 (by decide +kernel) ?_
          have hT585515 : RS D I P585292 F585354 γ el := RS_set hT n585356 htq585294 (by decide) ⟨q585302, q585303, p585304, p585305, p585306, p585307, p585308, p585309, p585310, p585311, p585312, p585313, p585314, 0, p585316, p585317, p585318, he585357, ⟨(gB_w bp585304' (by decide) (by decide)), bp585305, (hB585345.2.2.1), (hB585345.2.2.2.1), (hB585345.2.2.2.2.1), (hB585345.2.2.2.2.2.1), (hB585345.2.2.2.2.2.2.1), bp585316, (hB585345.2.2.2.2.2.2.2.2)⟩, ht585319, ht585320, ht585321, ht585322, ht585323, ht585324, ht585325, ht585326, ht585327, ht585328, ht585329, ht585330, ht585331, ht585332, ht585333, ht585334, ht585335, ht585336, ht585337, ht585338, ht585339, ht585340, ht585341, ht585342, hB585346⟩
          have ac585516 : (fI (F585354 q585294) 9).toInt = p585304.toInt := by rw [he585357]; rfl
          have ac585517 : (fI (F585354 q585294) 10).toInt = p585305.toInt := by rw [he585357]; rfl
          have ac585518 : (fI (F585354 q585294) 32).toInt = p585316.toInt := by rw [he585357]; rfl
          refine Gw_callV (As := [.int 2]) (gV_ok D I) (ct_578426_SpillForgeModel_no l hl0 D I γ el P585292 F585354 q585294 2 hT585515 htq585294) dr_cX17_run__46 ⟨wr_7_191, wr_1_14, wr_7_194, by decide, rfl, (Nat.le_of_ble_eq_true rfl), (Nat.le_of_ble_eq_true rfl)⟩ wr_7_193 wr_p_73 hm585300 he585357 rfl (show 0 + 0 ≤ 0 by first | omega | decide) (show 0 + 0 ≤ 0 by first | omega | decide) (Nat.le_of_ble_eq_true rfl) (fun r585522 w585523 dc585519 ds585520 hp585521 => ?_) (fun _ _ _ _ _ z => z.elim)
          obtain ⟨F585528, rfl, rfl, hT585529, hs585530, hdc, hds, x585524, x585525, x585526, x585527⟩ := hp585521
          have hs585531 : rStr γ [] F585293 F585528 := rStr_tr hs585358 hs585530
          rw [show Int32.toInt 2 = 2 from by decide] at x585527
          change G _ _ _ _ _ _ _ (.int 0 :: _) _ _ _
          refine G_widen (cs' := 0) (sl' := 0) (by omega) (by omega) ?_
          have hm585532 : q585294 ∈ P585292 := RS_m hT585529 htq585294 (by decide)
          refine rk10_e (show rk_10 γ (F585528 q585294) from RS_o hT585529 htq585294) (fun q585534 q585535 p585536 p585537 p585538 p585539 p585540 p585541 p585542 p585543 p585544 p585545 p585546 p585547 p585548 p585549 p585550 he585533 hB585577 ht585551 ht585552 ht585553 ht585554 ht585555 ht585556 ht585557 ht585558 ht585559 ht585560 ht585561 ht585562 ht585563 ht585564 ht585565 ht585566 ht585567 ht585568 ht585569 ht585570 ht585571 ht585572 ht585573 ht585574 hB585578 => ?_)
          have ac585579 : (fI (F585528 q585294) 9).toInt = p585536.toInt := by rw [he585533]; rfl
          have bp585536 : gB p585536 0 1 := (hB585577.1)
          have ac585580 : (fI (F585528 q585294) 10).toInt = p585537.toInt := by rw [he585533]; rfl
          have bp585537 : gB p585537 0 1 := (hB585577.2.1)
          have ac585581 : (fI (F585528 q585294) 32).toInt = p585548.toInt := by rw [he585533]; rfl
          have bp585548 : gB p585548 0 8192 := (hB585577.2.2.2.2.2.2.2.1)
          have ac585582 : (fI (F585528 q585294) 9).toInt = p585536.toInt := by rw [he585533]; rfl
          have ac585583 : (fI (F585528 q585294) 10).toInt = p585537.toInt := by rw [he585533]; rfl
          have ac585584 : (fI (F585528 q585294) 32).toInt = p585548.toInt := by rw [he585533]; rfl
          exact G_iretA dr_cX17_run__49 rfl (Nat.le_of_ble_eq_true rfl) (Nat.le_of_ble_eq_true rfl) ⟨F585528, 0, rfl, rfl, hT585529, hs585531, (Nat.le_of_ble_eq_true rfl), (Nat.le_of_ble_eq_true rfl), (gB_w (gBl (show Int32.toInt 0 = 0 by decide)) (by decide) (by decide)), (by have qa0 : Int32.toInt 0 = 0 := (by decide); omega), (by have qa0 : Int32.toInt 0 = 0 := (by decide); omega), (by have qa0 : Int32.toInt 0 = 0 := (by decide); omega)⟩
      · have r585585 : p585295.toInt ≠ 0 := gj_neq hc585434 (show Int32.toInt 0 = 0 by decide)
        have bp585295' : gB p585295 1 1 := gB_t1 bp585295 r585585
        refine G_aload_n 0 dr_cX17_run__27 rfl ?_
        refine Gp_get 10 hm585300 he585357 dr_cX17_run__28 (gk_X17 D I) (Nat.le_of_ble_eq_true rfl) wr_7_84 rfl ?_
        refine G_if_ne 50 dr_cX17_run__31 (by decide +kernel) (fun hc585586 => ?_) (fun hc585586 => ?_)
        · have r585587 : p585305.toInt ≠ 0 := gj_neq hc585586 (show Int32.toInt 0 = 0 by decide)
          have bp585305' : gB p585305 1 1 := gB_t1 bp585305 r585587
          refine G_aload_n 0 dr_cX17_run__50 rfl ?_
          refine G_aload_n 0 dr_cX17_run__51 rfl ?_
          refine G_iload_n 1 dr_cX17_run__52 rfl ?_
          refine G_if_eq 63 dr_cX17_run__53 (by decide +kernel) (fun hc => absurd (show False by have := gj_eq hc (show Int32.toInt 0 = 0 by decide); omega) not_false) (fun _ => ?_)
          refine G_aload_n 0 dr_cX17_run__56 rfl ?_
          refine Gp_get 7 hm585300 he585357 dr_cX17_run__57 (gk_X17 D I) (Nat.le_of_ble_eq_true rfl) wr_7_81 rfl ?_
          refine G_goto 67 dr_cX17_run__60 (by decide +kernel) ?_
          refine G_iload_n 2 dr_cX17_run__67 rfl ?_
          have hT585588 : RS D I P585292 F585354 γ el := RS_set hT n585356 htq585294 (by decide) ⟨q585302, q585303, p585304, p585305, p585306, p585307, p585308, p585309, p585310, p585311, p585312, p585313, p585314, 0, p585316, p585317, p585318, he585357, ⟨bp585304, (gB_w bp585305' (by decide) (by decide)), (hB585345.2.2.1), (hB585345.2.2.2.1), (hB585345.2.2.2.2.1), (hB585345.2.2.2.2.2.1), (hB585345.2.2.2.2.2.2.1), bp585316, (hB585345.2.2.2.2.2.2.2.2)⟩, ht585319, ht585320, ht585321, ht585322, ht585323, ht585324, ht585325, ht585326, ht585327, ht585328, ht585329, ht585330, ht585331, ht585332, ht585333, ht585334, ht585335, ht585336, ht585337, ht585338, ht585339, ht585340, ht585341, ht585342, hB585346⟩
          have ac585589 : (fI (F585354 q585294) 9).toInt = p585304.toInt := by rw [he585357]; rfl
          have ac585590 : (fI (F585354 q585294) 10).toInt = p585305.toInt := by rw [he585357]; rfl
          have ac585591 : (fI (F585354 q585294) 32).toInt = p585316.toInt := by rw [he585357]; rfl
          refine Gw_callV (As := [.ref (γ 9 7), .int p585296]) (gV_ok D I) (ct_580059_SpillForgeModel_run l hl0 D I γ el P585292 F585354 q585294 (γ 9 7) p585296 hT585588 htq585294 ht585328 bp585296'' (by have qa0 : Int32.toInt 0 = 0 := (by decide); omega)) dr_cX17_run__68 ⟨wr_11_92, wr_1_14, wr_11_95, by decide, rfl, (Nat.le_of_ble_eq_true rfl), (Nat.le_of_ble_eq_true rfl)⟩ wr_11_94 wr_p_113 hm585300 he585357 rfl (show 0 + 0 ≤ 0 by first | omega | decide) (show 0 + 0 ≤ 0 by first | omega | decide) (Nat.le_of_ble_eq_true rfl) (fun r585595 w585596 dc585592 ds585593 hp585594 => ?_) (fun _ _ _ _ _ z => z.elim)
          obtain ⟨F585601, o585597, rfl, rfl, hT585602, hs585603, hdc, hds, bo585597, x585598, x585599, x585600⟩ := hp585594
          have hs585604 : rStr γ [] F585293 F585601 := rStr_tr hs585358 hs585603
          change G _ _ _ _ _ _ _ (.int o585597 :: _) _ _ _
          refine G_widen (cs' := 0) (sl' := 0) (by omega) (by omega) ?_
          have hm585605 : q585294 ∈ P585292 := RS_m hT585602 htq585294 (by decide)
          refine rk10_e (show rk_10 γ (F585601 q585294) from RS_o hT585602 htq585294) (fun q585607 q585608 p585609 p585610 p585611 p585612 p585613 p585614 p585615 p585616 p585617 p585618 p585619 p585620 p585621 p585622 p585623 he585606 hB585650 ht585624 ht585625 ht585626 ht585627 ht585628 ht585629 ht585630 ht585631 ht585632 ht585633 ht585634 ht585635 ht585636 ht585637 ht585638 ht585639 ht585640 ht585641 ht585642 ht585643 ht585644 ht585645 ht585646 ht585647 hB585651 => ?_)
          have ac585652 : (fI (F585601 q585294) 9).toInt = p585609.toInt := by rw [he585606]; rfl
          have bp585609 : gB p585609 0 1 := (hB585650.1)
          have ac585653 : (fI (F585601 q585294) 10).toInt = p585610.toInt := by rw [he585606]; rfl
          have bp585610 : gB p585610 0 1 := (hB585650.2.1)
          have ac585654 : (fI (F585601 q585294) 32).toInt = p585621.toInt := by rw [he585606]; rfl
          have bp585621 : gB p585621 0 8192 := (hB585650.2.2.2.2.2.2.2.1)
          refine Gp_put 23 hm585605 he585606 dr_cX17_run__71 (gk_X17 D I) (Nat.le_of_ble_eq_true rfl) wr_7_97 rfl rfl rfl (Nat.le_of_ble_eq_true rfl) (fun F585655 e585656 n585657 => ?_)
          have he585658 : F585655 q585294 = .inr (22, [.ref (γ 9 0), .ref (γ 9 1), .ref (γ 9 2), .ref (γ 9 3), .ref (γ 9 4), .ref (γ 9 5), .ref (γ 9 6), .ref (γ 9 7), .ref (γ 9 8), .int p585609, .int p585610, .int p585611, .int p585612, .int p585613, .int p585614, .ref (γ 9 15), .ref (γ 9 16), .ref (γ 9 17), .ref (γ 9 18), .ref (γ 9 19), .ref (γ 9 20), .ref (γ 9 21), .ref (γ 9 22), .int o585597, .int p585616, .int p585617, .int p585618, .int p585619, .ref q585607, .ref (γ 9 29), .int p585620, .ref (γ 9 31), .int p585621, .int p585622, .int p585623, .ref q585608]) := e585656
          have hs585659 : rStr γ [] F585293 F585655 := rStr_put hs585604 n585657 htq585294 (by decide)
          refine G_aload_n 0 dr_cX17_run__74 rfl ?_
          refine Gp_get 23 hm585605 he585658 dr_cX17_run__75 (gk_X17 D I) (Nat.le_of_ble_eq_true rfl) wr_7_97 rfl ?_
          have hT585660 : RS D I P585292 F585655 γ el := RS_set hT585602 n585657 htq585294 (by decide) ⟨q585607, q585608, p585609, p585610, p585611, p585612, p585613, p585614, o585597, p585616, p585617, p585618, p585619, p585620, p585621, p585622, p585623, he585658, ⟨bp585609, bp585610, (hB585650.2.2.1), (hB585650.2.2.2.1), (hB585650.2.2.2.2.1), (hB585650.2.2.2.2.2.1), (hB585650.2.2.2.2.2.2.1), bp585621, (hB585650.2.2.2.2.2.2.2.2)⟩, ht585624, ht585625, ht585626, ht585627, ht585628, ht585629, ht585630, ht585631, ht585632, ht585633, ht585634, ht585635, ht585636, ht585637, ht585638, ht585639, ht585640, ht585641, ht585642, ht585643, ht585644, ht585645, ht585646, ht585647, hB585651⟩
          have ac585661 : (fI (F585655 q585294) 9).toInt = p585609.toInt := by rw [he585658]; rfl
          have ac585662 : (fI (F585655 q585294) 10).toInt = p585610.toInt := by rw [he585658]; rfl
          have ac585663 : (fI (F585655 q585294) 32).toInt = p585621.toInt := by rw [he585658]; rfl
          exact G_iretA dr_cX17_run__78 rfl (Nat.le_of_ble_eq_true rfl) (Nat.le_of_ble_eq_true rfl) ⟨F585655, o585597, rfl, rfl, hT585660, hs585659, (Nat.le_of_ble_eq_true rfl), (Nat.le_of_ble_eq_true rfl), bo585597, (by omega), (by omega), (by omega)⟩
        · have r585664 : p585305.toInt = 0 := gj_eq hc585586 (show Int32.toInt 0 = 0 by decide)
          have bp585305' : gB p585305 0 0 := gB_t0 r585664
          refine G_goto 44 dr_cX17_run__34 (by decide +kernel) ?_
          refine G_aload_n 0 dr_cX17_run__44 rfl ?_
          refine G_iconst 2 dr_cX17_run__45 (by decide +kernel) ?_
          have hT585665 : RS D I P585292 F585354 γ el := RS_set hT n585356 htq585294 (by decide) ⟨q585302, q585303, p585304, p585305, p585306, p585307, p585308, p585309, p585310, p585311, p585312, p585313, p585314, 0, p585316, p585317, p585318, he585357, ⟨bp585304, (gB_w bp585305' (by decide) (by decide)), (hB585345.2.2.1), (hB585345.2.2.2.1), (hB585345.2.2.2.2.1), (hB585345.2.2.2.2.2.1), (hB585345.2.2.2.2.2.2.1), bp585316, (hB585345.2.2.2.2.2.2.2.2)⟩, ht585319, ht585320, ht585321, ht585322, ht585323, ht585324, ht585325, ht585326, ht585327, ht585328, ht585329, ht585330, ht585331, ht585332, ht585333, ht585334, ht585335, ht585336, ht585337, ht585338, ht585339, ht585340, ht585341, ht585342, hB585346⟩
          have ac585666 : (fI (F585354 q585294) 9).toInt = p585304.toInt := by rw [he585357]; rfl
          have ac585667 : (fI (F585354 q585294) 10).toInt = p585305.toInt := by rw [he585357]; rfl
          have ac585668 : (fI (F585354 q585294) 32).toInt = p585316.toInt := by rw [he585357]; rfl
          refine Gw_callV (As := [.int 2]) (gV_ok D I) (ct_578426_SpillForgeModel_no l hl0 D I γ el P585292 F585354 q585294 2 hT585665 htq585294) dr_cX17_run__46 ⟨wr_7_191, wr_1_14, wr_7_194, by decide, rfl, (Nat.le_of_ble_eq_true rfl), (Nat.le_of_ble_eq_true rfl)⟩ wr_7_193 wr_p_73 hm585300 he585357 rfl (show 0 + 0 ≤ 0 by first | omega | decide) (show 0 + 0 ≤ 0 by first | omega | decide) (Nat.le_of_ble_eq_true rfl) (fun r585672 w585673 dc585669 ds585670 hp585671 => ?_) (fun _ _ _ _ _ z => z.elim)
          obtain ⟨F585678, rfl, rfl, hT585679, hs585680, hdc, hds, x585674, x585675, x585676, x585677⟩ := hp585671
          have hs585681 : rStr γ [] F585293 F585678 := rStr_tr hs585358 hs585680
          rw [show Int32.toInt 2 = 2 from by decide] at x585677
          change G _ _ _ _ _ _ _ (.int 0 :: _) _ _ _
          refine G_widen (cs' := 0) (sl' := 0) (by omega) (by omega) ?_
          have hm585682 : q585294 ∈ P585292 := RS_m hT585679 htq585294 (by decide)
          refine rk10_e (show rk_10 γ (F585678 q585294) from RS_o hT585679 htq585294) (fun q585684 q585685 p585686 p585687 p585688 p585689 p585690 p585691 p585692 p585693 p585694 p585695 p585696 p585697 p585698 p585699 p585700 he585683 hB585727 ht585701 ht585702 ht585703 ht585704 ht585705 ht585706 ht585707 ht585708 ht585709 ht585710 ht585711 ht585712 ht585713 ht585714 ht585715 ht585716 ht585717 ht585718 ht585719 ht585720 ht585721 ht585722 ht585723 ht585724 hB585728 => ?_)
          have ac585729 : (fI (F585678 q585294) 9).toInt = p585686.toInt := by rw [he585683]; rfl
          have bp585686 : gB p585686 0 1 := (hB585727.1)
          have ac585730 : (fI (F585678 q585294) 10).toInt = p585687.toInt := by rw [he585683]; rfl
          have bp585687 : gB p585687 0 1 := (hB585727.2.1)
          have ac585731 : (fI (F585678 q585294) 32).toInt = p585698.toInt := by rw [he585683]; rfl
          have bp585698 : gB p585698 0 8192 := (hB585727.2.2.2.2.2.2.2.1)
          have ac585732 : (fI (F585678 q585294) 9).toInt = p585686.toInt := by rw [he585683]; rfl
          have ac585733 : (fI (F585678 q585294) 10).toInt = p585687.toInt := by rw [he585683]; rfl
          have ac585734 : (fI (F585678 q585294) 32).toInt = p585698.toInt := by rw [he585683]; rfl
          exact G_iretA dr_cX17_run__49 rfl (Nat.le_of_ble_eq_true rfl) (Nat.le_of_ble_eq_true rfl) ⟨F585678, 0, rfl, rfl, hT585679, hs585681, (Nat.le_of_ble_eq_true rfl), (Nat.le_of_ble_eq_true rfl), (gB_w (gBl (show Int32.toInt 0 = 0 by decide)) (by decide) (by decide)), (by have qa0 : Int32.toInt 0 = 0 := (by decide); omega), (by have qa0 : Int32.toInt 0 = 0 := (by decide); omega), (by have qa0 : Int32.toInt 0 = 0 := (by decide); omega)⟩
    · have r585735 : 100000 < p585296.toInt := gj_nle hc585432 (show Int32.toInt 100000 = 100000 by decide)
      have bp585296'' : gB p585296 100001 2147483647 := ⟨by omega, by omega⟩
      refine G_aload_n 0 dr_cX17_run__17 rfl ?_
      refine G_iconst 1 dr_cX17_run__18 (by decide +kernel) ?_
      have hT585736 : RS D I P585292 F585354 γ el := RS_set hT n585356 htq585294 (by decide) ⟨q585302, q585303, p585304, p585305, p585306, p585307, p585308, p585309, p585310, p585311, p585312, p585313, p585314, 0, p585316, p585317, p585318, he585357, ⟨bp585304, bp585305, (hB585345.2.2.1), (hB585345.2.2.2.1), (hB585345.2.2.2.2.1), (hB585345.2.2.2.2.2.1), (hB585345.2.2.2.2.2.2.1), bp585316, (hB585345.2.2.2.2.2.2.2.2)⟩, ht585319, ht585320, ht585321, ht585322, ht585323, ht585324, ht585325, ht585326, ht585327, ht585328, ht585329, ht585330, ht585331, ht585332, ht585333, ht585334, ht585335, ht585336, ht585337, ht585338, ht585339, ht585340, ht585341, ht585342, hB585346⟩
      have ac585737 : (fI (F585354 q585294) 9).toInt = p585304.toInt := by rw [he585357]; rfl
      have ac585738 : (fI (F585354 q585294) 10).toInt = p585305.toInt := by rw [he585357]; rfl
      have ac585739 : (fI (F585354 q585294) 32).toInt = p585316.toInt := by rw [he585357]; rfl
      refine Gw_callV (As := [.int 1]) (gV_ok D I) (ct_578426_SpillForgeModel_no l hl0 D I γ el P585292 F585354 q585294 1 hT585736 htq585294) dr_cX17_run__19 ⟨wr_7_191, wr_1_14, wr_7_194, by decide, rfl, (Nat.le_of_ble_eq_true rfl), (Nat.le_of_ble_eq_true rfl)⟩ wr_7_193 wr_p_73 hm585300 he585357 rfl (show 0 + 0 ≤ 0 by first | omega | decide) (show 0 + 0 ≤ 0 by first | omega | decide) (Nat.le_of_ble_eq_true rfl) (fun r585743 w585744 dc585740 ds585741 hp585742 => ?_) (fun _ _ _ _ _ z => z.elim)
      obtain ⟨F585749, rfl, rfl, hT585750, hs585751, hdc, hds, x585745, x585746, x585747, x585748⟩ := hp585742
      have hs585752 : rStr γ [] F585293 F585749 := rStr_tr hs585358 hs585751
      rw [show Int32.toInt 1 = 1 from by decide] at x585748
      change G _ _ _ _ _ _ _ (.int 0 :: _) _ _ _
      refine G_widen (cs' := 0) (sl' := 0) (by omega) (by omega) ?_
      have hm585753 : q585294 ∈ P585292 := RS_m hT585750 htq585294 (by decide)
      refine rk10_e (show rk_10 γ (F585749 q585294) from RS_o hT585750 htq585294) (fun q585755 q585756 p585757 p585758 p585759 p585760 p585761 p585762 p585763 p585764 p585765 p585766 p585767 p585768 p585769 p585770 p585771 he585754 hB585798 ht585772 ht585773 ht585774 ht585775 ht585776 ht585777 ht585778 ht585779 ht585780 ht585781 ht585782 ht585783 ht585784 ht585785 ht585786 ht585787 ht585788 ht585789 ht585790 ht585791 ht585792 ht585793 ht585794 ht585795 hB585799 => ?_)
      have ac585800 : (fI (F585749 q585294) 9).toInt = p585757.toInt := by rw [he585754]; rfl
      have bp585757 : gB p585757 0 1 := (hB585798.1)
      have ac585801 : (fI (F585749 q585294) 10).toInt = p585758.toInt := by rw [he585754]; rfl
      have bp585758 : gB p585758 0 1 := (hB585798.2.1)
      have ac585802 : (fI (F585749 q585294) 32).toInt = p585769.toInt := by rw [he585754]; rfl
      have bp585769 : gB p585769 0 8192 := (hB585798.2.2.2.2.2.2.2.1)
      have ac585803 : (fI (F585749 q585294) 9).toInt = p585757.toInt := by rw [he585754]; rfl
      have ac585804 : (fI (F585749 q585294) 10).toInt = p585758.toInt := by rw [he585754]; rfl
      have ac585805 : (fI (F585749 q585294) 32).toInt = p585769.toInt := by rw [he585754]; rfl
      exact G_iretA dr_cX17_run__22 rfl (Nat.le_of_ble_eq_true rfl) (Nat.le_of_ble_eq_true rfl) ⟨F585749, 0, rfl, rfl, hT585750, hs585752, (Nat.le_of_ble_eq_true rfl), (Nat.le_of_ble_eq_true rfl), (gB_w (gBl (show Int32.toInt 0 = 0 by decide)) (by decide) (by decide)), (by have qa0 : Int32.toInt 0 = 0 := (by decide); omega), (by have qa0 : Int32.toInt 0 = 0 := (by decide); omega), (by have qa0 : Int32.toInt 0 = 0 := (by decide); omega)⟩
