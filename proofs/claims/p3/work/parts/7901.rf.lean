abbrev ky_215447_SpillForgeModel_set : gKey := (cX17_set, 2, "SpillForgeModel", none, [], "set", fun _ _ => True)
def pp_215447_SpillForgeModel_set (D : va_G) (I : FieldType → ClassId) (P215441 : List Nat) (F215442 : Nat → va_E) (q215443 : Nat) (p215444 : Int32) (f215445 : Nat → Int64) : Option Value → va_W → Nat → Nat → Prop := fun r w dc ds => ∃ (F215460 : Nat → va_E) (f215458 : Nat → Int64), r = none ∧ w = va_pl P215441 F215460 ∧ rFr [q215443] P215441 F215442 F215460 ∧ F215460 q215443 = .inl (I .long, 32, .inr (.inl f215458)) ∧ dc ≤ 0 ∧ ds ≤ 0 ∧ lb_W f215458 (32) (32) (2000) ∧ (∀ k : Nat, rbt f215458 k = (rbt f215445 k || decide ((k : Int) = p215444.toInt)))
set_option maxRecDepth 100000 in
set_option maxHeartbeats 4000000 in
theorem cp_215447_SpillForgeModel_set (l : Launch) (hl0 : l.stackTraces = false) (D : va_G) (I : FieldType → ClassId) (P215441 : List Nat) (F215442 : Nat → va_E) (q215443 : Nat) (p215444 : Int32) (f215445 : Nat → Int64) (hmq215443 : q215443 ∈ P215441) (heq215443 : F215442 q215443 = .inl (I .long, 32, .inr (.inl f215445))) (bp215444 : gB p215444 0 1999) (x215446 : lb_W f215445 (32) (32) (2000)) : CtA (gV D I) l yX17_set cX17_set 2 none 0 0 0 0 [.ref q215443, .int p215444] (va_pl P215441 F215442) (pp_215447_SpillForgeModel_set D I P215441 F215442 q215443 p215444 f215445) gNA := by
  refine CtA_of hl0 (by decide) (Nat.le_of_ble_eq_true rfl) ?_
  refine G_aload_n 0 dr_cX17_set_0 rfl ?_
  refine G_iload_n 1 dr_cX17_set_1 rfl ?_
  refine G_bipush 6 dr_cX17_set_2 (by decide +kernel) ?_
  refine G_ishr dr_cX17_set_4 (G_nam fun z215448 hz215448 => ?_)
  have ez215448 : z215448.toInt = p215444.toInt / 64 := gI_shr (k := 6) hz215448 (by decide)
  have bz215448 : gB z215448 0 31 := ⟨by omega, by omega⟩
  refine G_dup2_11 dr_cX17_set_5 rfl rfl ?_
  refine Gp_lald 2 hmq215443 heq215443 dr_cX17_set_6 rfl (gB_in bz215448 (by decide) (by decide)) (G_namL fun u215449 hu215449 => ?_)
  have qu215449 : lb_Q u215449 (2000 - 64 * z215448.toInt) := lb_Wld hu215449 x215446 (by omega) (by omega) (lb_Mod0 (by omega) (by omega))
  refine G_lconst 1 dr_cX17_set_7 rfl ?_
  refine G_iload_n 1 dr_cX17_set_8 rfl ?_
  refine G_lshl dr_cX17_set_9 (G_namL fun u215450 hu215450 => ?_)
  have qu215450 : lb_Q u215450 (p215444.toInt % 64 + 1) := lb_Qshl hu215450 (by omega)
  refine G_lor dr_cX17_set_10 (G_namL fun u215451 hu215451 => ?_)
  have qu215451 : lb_Q u215451 (2000 - 64 * z215448.toInt) := lb_Qor hu215451 qu215449 (lb_Qw qu215450 (by omega))
  refine Gp_last 2 hmq215443 heq215443 dr_cX17_set_11 rfl (gB_in bz215448 (by decide) (by decide)) (fun F215452 e215453 n215454 => ?_)
  obtain ⟨f215455, hf215455⟩ : ∃ z, z = vp_updL f215445 z215448.toNatClampNeg u215451 := ⟨_, rfl⟩
  rw [← hf215455] at e215453
  have he215456 : F215452 q215443 = .inl (I .long, 32, .inr (.inl f215455)) := e215453
  have hfr215457 : rFr [q215443] P215441 F215442 F215452 := rFr_put (rFr_rf (W := []) (P := P215441) (F := F215442)) n215454
  have wf215455 : lb_W f215455 (32) (32) (2000) := lb_Wst hf215455 x215446 (by omega) (lb_Mod0 (by omega) (by omega)) qu215451
  exact G_vretA dr_cX17_set_12 rfl (Nat.le_of_ble_eq_true rfl) (Nat.le_of_ble_eq_true rfl) ⟨F215452, f215455, rfl, rfl, hfr215457, he215456, (Nat.le_of_ble_eq_true rfl), (Nat.le_of_ble_eq_true rfl), wf215455, (rbt_set (by assumption) (by assumption) (by assumption) (by assumption) hf215455 (by omega))⟩
abbrev ky_215467_SpillForgeModel_clear : gKey := (cX17_clear, 2, "SpillForgeModel", none, [], "clear", fun _ _ => True)
def pp_215467_SpillForgeModel_clear (D : va_G) (I : FieldType → ClassId) (P215461 : List Nat) (F215462 : Nat → va_E) (q215463 : Nat) (p215464 : Int32) (f215465 : Nat → Int64) : Option Value → va_W → Nat → Nat → Prop := fun r w dc ds => ∃ (F215481 : Nat → va_E) (f215479 : Nat → Int64), r = none ∧ w = va_pl P215461 F215481 ∧ rFr [q215463] P215461 F215462 F215481 ∧ F215481 q215463 = .inl (I .long, 32, .inr (.inl f215479)) ∧ dc ≤ 0 ∧ ds ≤ 0 ∧ lb_W f215479 (32) (32) (2000) ∧ (∀ k : Nat, rbt f215479 k = (rbt f215465 k && ! decide ((k : Int) = p215464.toInt)))
set_option maxRecDepth 100000 in
set_option maxHeartbeats 4000000 in
theorem cp_215467_SpillForgeModel_clear (l : Launch) (hl0 : l.stackTraces = false) (D : va_G) (I : FieldType → ClassId) (P215461 : List Nat) (F215462 : Nat → va_E) (q215463 : Nat) (p215464 : Int32) (f215465 : Nat → Int64) (hmq215463 : q215463 ∈ P215461) (heq215463 : F215462 q215463 = .inl (I .long, 32, .inr (.inl f215465))) (bp215464 : gB p215464 0 1999) (x215466 : lb_W f215465 (32) (32) (2000)) : CtA (gV D I) l yX17_clear cX17_clear 2 none 0 0 0 0 [.ref q215463, .int p215464] (va_pl P215461 F215462) (pp_215467_SpillForgeModel_clear D I P215461 F215462 q215463 p215464 f215465) gNA := by
  refine CtA_of hl0 (by decide) (Nat.le_of_ble_eq_true rfl) ?_
  refine G_aload_n 0 dr_cX17_clear_0 rfl ?_
  refine G_iload_n 1 dr_cX17_clear_1 rfl ?_
  refine G_bipush 6 dr_cX17_clear_2 (by decide +kernel) ?_
  refine G_ishr dr_cX17_clear_4 (G_nam fun z215468 hz215468 => ?_)
  have ez215468 : z215468.toInt = p215464.toInt / 64 := gI_shr (k := 6) hz215468 (by decide)
  have bz215468 : gB z215468 0 31 := ⟨by omega, by omega⟩
  refine G_dup2_11 dr_cX17_clear_5 rfl rfl ?_
  refine Gp_lald 2 hmq215463 heq215463 dr_cX17_clear_6 rfl (gB_in bz215468 (by decide) (by decide)) (G_namL fun u215469 hu215469 => ?_)
  have qu215469 : lb_Q u215469 (2000 - 64 * z215468.toInt) := lb_Wld hu215469 x215466 (by omega) (by omega) (lb_Mod0 (by omega) (by omega))
  refine G_lconst 1 dr_cX17_clear_7 rfl ?_
  refine G_iload_n 1 dr_cX17_clear_8 rfl ?_
  refine G_lshl dr_cX17_clear_9 (G_namL fun u215470 hu215470 => ?_)
  have qu215470 : lb_Q u215470 (p215464.toInt % 64 + 1) := lb_Qshl hu215470 (by omega)
  refine G_ldc2 (-1) dr_cX17_clear_10 wr_10_188 ?_
  refine G_lxor dr_cX17_clear_13 (G_namL fun u215471 hu215471 => ?_)
  refine G_land dr_cX17_clear_14 (G_namL fun u215472 hu215472 => ?_)
  have qu215472 : lb_Q u215472 (2000 - 64 * z215468.toInt) := lb_QandL hu215472 qu215469
  refine Gp_last 2 hmq215463 heq215463 dr_cX17_clear_15 rfl (gB_in bz215468 (by decide) (by decide)) (fun F215473 e215474 n215475 => ?_)
  obtain ⟨f215476, hf215476⟩ : ∃ z, z = vp_updL f215465 z215468.toNatClampNeg u215472 := ⟨_, rfl⟩
  rw [← hf215476] at e215474
  have he215477 : F215473 q215463 = .inl (I .long, 32, .inr (.inl f215476)) := e215474
  have hfr215478 : rFr [q215463] P215461 F215462 F215473 := rFr_put (rFr_rf (W := []) (P := P215461) (F := F215462)) n215475
  have wf215476 : lb_W f215476 (32) (32) (2000) := lb_Wst hf215476 x215466 (by omega) (lb_Mod0 (by omega) (by omega)) qu215472
  exact G_vretA dr_cX17_clear_16 rfl (Nat.le_of_ble_eq_true rfl) (Nat.le_of_ble_eq_true rfl) ⟨F215473, f215476, rfl, rfl, hfr215478, he215477, (Nat.le_of_ble_eq_true rfl), (Nat.le_of_ble_eq_true rfl), wf215476, (rbt_clr (by assumption) (by assumption) (by assumption) (by assumption) (by assumption) hf215476 (by omega))⟩
abbrev ky_215492_Row_usesA : gKey := (cX15_usesA, 1, "SpillForgeModel$Row", (some FieldType.boolean), [], "usesA", fun _ _ => True)
def pp_215492_Row_usesA (D : va_G) (I : FieldType → ClassId) (P215482 : List Nat) (F215483 : Nat → va_E) (q215484 : Nat) (p215485 : Int32) (p215486 : Int32) (p215487 : Int32) (p215488 : Int32) (p215489 : Int32) (p215490 : Int32) (p215491 : Int32) : Option Value → va_W → Nat → Nat → Prop := fun r w dc ds => ∃ (o215505 : Int32), r = some (.int o215505) ∧ w = va_pl P215482 F215483 ∧ dc ≤ 0 ∧ ds ≤ 0 ∧ gB o215505 0 1 ∧ ((o215505.toInt = 1 ∧ p215485.toInt ≠ 20 ∧ p215485.toInt ≠ 21 ∧ p215485.toInt ≠ 30 ∧ p215490.toInt = 1) ∨ (o215505.toInt = 0 ∧ (p215485.toInt = 20 ∨ p215485.toInt = 21 ∨ p215485.toInt = 30 ∨ p215490.toInt = 0)))
set_option maxRecDepth 100000 in
set_option maxHeartbeats 4000000 in
theorem cp_215492_Row_usesA (l : Launch) (hl0 : l.stackTraces = false) (D : va_G) (I : FieldType → ClassId) (P215482 : List Nat) (F215483 : Nat → va_E) (q215484 : Nat) (p215485 : Int32) (p215486 : Int32) (p215487 : Int32) (p215488 : Int32) (p215489 : Int32) (p215490 : Int32) (p215491 : Int32) (hmq215484 : q215484 ∈ P215482) (heq215484 : F215483 q215484 = .inr (20, [.int p215485, .int p215486, .int p215487, .int p215488, .int p215489, .int p215490, .int p215491])) (bp215485 : gB p215485 0 32) (bp215486 : gB p215486 0 1999) (bp215489 : gB p215489 0 1999) (bp215490 : gB p215490 0 1) (bp215491 : gB p215491 0 1) : CtA (gV D I) l yX15_usesA cX15_usesA 1 (some FieldType.boolean) 0 0 0 0 [.ref q215484] (va_pl P215482 F215483) (pp_215492_Row_usesA D I P215482 F215483 q215484 p215485 p215486 p215487 p215488 p215489 p215490 p215491) gNA := by
  refine CtA_of hl0 (by decide) (Nat.le_of_ble_eq_true rfl) ?_
  have bp215487 := gB_any p215487
  have bp215488 := gB_any p215488
  refine G_aload_n 0 dr_cX15_usesA_0 rfl ?_
  refine Gp_get 0 hmq215484 heq215484 dr_cX15_usesA_1 (gk_X15 D I) (Nat.le_of_ble_eq_true rfl) wr_9_175 rfl ?_
  refine G_bipush 20 dr_cX15_usesA_4 (by decide +kernel) ?_
  refine G_icmp_eq 38 dr_cX15_usesA_6 (by decide +kernel) (fun hc215493 => ?_) (fun hc215493 => ?_)
  · have r215494 : p215485.toInt = 20 := gj_eq hc215493 (show Int32.toInt 20 = 20 by decide)
    have bp215485' : gB p215485 20 20 := ⟨by omega, by omega⟩
    refine G_iconst 0 dr_cX15_usesA_38 (by decide +kernel) ?_
    exact G_zretA FieldType.boolean dr_cX15_usesA_39 rfl rfl (Nat.le_of_ble_eq_true rfl) (Nat.le_of_ble_eq_true rfl) ⟨0, rfl, rfl, (Nat.le_of_ble_eq_true rfl), (Nat.le_of_ble_eq_true rfl), (gB_w (gBl (show Int32.toInt 0 = 0 by decide)) (by decide) (by decide)), (by have qa0 : Int32.toInt 0 = 0 := (by decide); omega)⟩
  · have r215495 : p215485.toInt ≠ 20 := gj_neq hc215493 (show Int32.toInt 20 = 20 by decide)
    refine G_aload_n 0 dr_cX15_usesA_9 rfl ?_
    refine Gp_get 0 hmq215484 heq215484 dr_cX15_usesA_10 (gk_X15 D I) (Nat.le_of_ble_eq_true rfl) wr_9_175 rfl ?_
    refine G_bipush 21 dr_cX15_usesA_13 (by decide +kernel) ?_
    refine G_icmp_eq 38 dr_cX15_usesA_15 (by decide +kernel) (fun hc215496 => ?_) (fun hc215496 => ?_)
    · have r215497 : p215485.toInt = 21 := gj_eq hc215496 (show Int32.toInt 21 = 21 by decide)
      have bp215485' : gB p215485 21 21 := ⟨by omega, by omega⟩
      refine G_iconst 0 dr_cX15_usesA_38 (by decide +kernel) ?_
      exact G_zretA FieldType.boolean dr_cX15_usesA_39 rfl rfl (Nat.le_of_ble_eq_true rfl) (Nat.le_of_ble_eq_true rfl) ⟨0, rfl, rfl, (Nat.le_of_ble_eq_true rfl), (Nat.le_of_ble_eq_true rfl), (gB_w (gBl (show Int32.toInt 0 = 0 by decide)) (by decide) (by decide)), (by have qa0 : Int32.toInt 0 = 0 := (by decide); omega)⟩
    · have r215498 : p215485.toInt ≠ 21 := gj_neq hc215496 (show Int32.toInt 21 = 21 by decide)
      refine G_aload_n 0 dr_cX15_usesA_18 rfl ?_
      refine Gp_get 0 hmq215484 heq215484 dr_cX15_usesA_19 (gk_X15 D I) (Nat.le_of_ble_eq_true rfl) wr_9_175 rfl ?_
      refine G_bipush 30 dr_cX15_usesA_22 (by decide +kernel) ?_
      refine G_icmp_eq 38 dr_cX15_usesA_24 (by decide +kernel) (fun hc215499 => ?_) (fun hc215499 => ?_)
      · have r215500 : p215485.toInt = 30 := gj_eq hc215499 (show Int32.toInt 30 = 30 by decide)
        have bp215485' : gB p215485 30 30 := ⟨by omega, by omega⟩
        refine G_iconst 0 dr_cX15_usesA_38 (by decide +kernel) ?_
        exact G_zretA FieldType.boolean dr_cX15_usesA_39 rfl rfl (Nat.le_of_ble_eq_true rfl) (Nat.le_of_ble_eq_true rfl) ⟨0, rfl, rfl, (Nat.le_of_ble_eq_true rfl), (Nat.le_of_ble_eq_true rfl), (gB_w (gBl (show Int32.toInt 0 = 0 by decide)) (by decide) (by decide)), (by have qa0 : Int32.toInt 0 = 0 := (by decide); omega)⟩
      · have r215501 : p215485.toInt ≠ 30 := gj_neq hc215499 (show Int32.toInt 30 = 30 by decide)
        refine G_aload_n 0 dr_cX15_usesA_27 rfl ?_
        refine Gp_get 5 hmq215484 heq215484 dr_cX15_usesA_28 (gk_X15 D I) (Nat.le_of_ble_eq_true rfl) wr_9_195 rfl ?_
        refine G_if_eq 38 dr_cX15_usesA_31 (by decide +kernel) (fun hc215502 => ?_) (fun hc215502 => ?_)
        · have r215503 : p215490.toInt = 0 := gj_eq hc215502 (show Int32.toInt 0 = 0 by decide)
          have bp215490' : gB p215490 0 0 := ⟨by omega, by omega⟩
          refine G_iconst 0 dr_cX15_usesA_38 (by decide +kernel) ?_
          exact G_zretA FieldType.boolean dr_cX15_usesA_39 rfl rfl (Nat.le_of_ble_eq_true rfl) (Nat.le_of_ble_eq_true rfl) ⟨0, rfl, rfl, (Nat.le_of_ble_eq_true rfl), (Nat.le_of_ble_eq_true rfl), (gB_w (gBl (show Int32.toInt 0 = 0 by decide)) (by decide) (by decide)), (by have qa0 : Int32.toInt 0 = 0 := (by decide); omega)⟩
        · have r215504 : p215490.toInt ≠ 0 := gj_neq hc215502 (show Int32.toInt 0 = 0 by decide)
          have bp215490' : gB p215490 1 1 := ⟨by omega, by omega⟩
          refine G_iconst 1 dr_cX15_usesA_34 (by decide +kernel) ?_
          refine G_goto 39 dr_cX15_usesA_35 (by decide +kernel) ?_
          exact G_zretA FieldType.boolean dr_cX15_usesA_39 rfl rfl (Nat.le_of_ble_eq_true rfl) (Nat.le_of_ble_eq_true rfl) ⟨1, rfl, rfl, (Nat.le_of_ble_eq_true rfl), (Nat.le_of_ble_eq_true rfl), (gB_w (gBl (show Int32.toInt 1 = 1 by decide)) (by decide) (by decide)), (by have qa0 : Int32.toInt 1 = 1 := (by decide); omega)⟩
abbrev ky_215516_Row_usesB : gKey := (cX15_usesB, 1, "SpillForgeModel$Row", (some FieldType.boolean), [], "usesB", fun _ _ => True)
def pp_215516_Row_usesB (D : va_G) (I : FieldType → ClassId) (P215506 : List Nat) (F215507 : Nat → va_E) (q215508 : Nat) (p215509 : Int32) (p215510 : Int32) (p215511 : Int32) (p215512 : Int32) (p215513 : Int32) (p215514 : Int32) (p215515 : Int32) : Option Value → va_W → Nat → Nat → Prop := fun r w dc ds => ∃ (o215526 : Int32), r = some (.int o215526) ∧ w = va_pl P215506 F215507 ∧ dc ≤ 0 ∧ ds ≤ 0 ∧ gB o215526 0 1 ∧ ((o215526.toInt = 1 ∧ 0 < p215509.toInt ∧ p215509.toInt < 20 ∧ p215515.toInt = 1) ∨ (o215526.toInt = 0 ∧ (p215509.toInt ≤ 0 ∨ 20 ≤ p215509.toInt ∨ p215515.toInt = 0)))
set_option maxRecDepth 100000 in
set_option maxHeartbeats 4000000 in
theorem cp_215516_Row_usesB (l : Launch) (hl0 : l.stackTraces = false) (D : va_G) (I : FieldType → ClassId) (P215506 : List Nat) (F215507 : Nat → va_E) (q215508 : Nat) (p215509 : Int32) (p215510 : Int32) (p215511 : Int32) (p215512 : Int32) (p215513 : Int32) (p215514 : Int32) (p215515 : Int32) (hmq215508 : q215508 ∈ P215506) (heq215508 : F215507 q215508 = .inr (20, [.int p215509, .int p215510, .int p215511, .int p215512, .int p215513, .int p215514, .int p215515])) (bp215509 : gB p215509 0 32) (bp215510 : gB p215510 0 1999) (bp215513 : gB p215513 0 1999) (bp215514 : gB p215514 0 1) (bp215515 : gB p215515 0 1) : CtA (gV D I) l yX15_usesB cX15_usesB 1 (some FieldType.boolean) 0 0 0 0 [.ref q215508] (va_pl P215506 F215507) (pp_215516_Row_usesB D I P215506 F215507 q215508 p215509 p215510 p215511 p215512 p215513 p215514 p215515) gNA := by
  refine CtA_of hl0 (by decide) (Nat.le_of_ble_eq_true rfl) ?_
  have bp215511 := gB_any p215511
  have bp215512 := gB_any p215512
  refine G_aload_n 0 dr_cX15_usesB_0 rfl ?_
  refine Gp_get 0 hmq215508 heq215508 dr_cX15_usesB_1 (gk_X15 D I) (Nat.le_of_ble_eq_true rfl) wr_9_175 rfl ?_
  refine G_if_le 27 dr_cX15_usesB_4 (by decide +kernel) (fun hc215517 => ?_) (fun hc215517 => ?_)
  · have r215518 : p215509.toInt ≤ 0 := gj_le hc215517 (show Int32.toInt 0 = 0 by decide)
    have bp215509' : gB p215509 0 0 := ⟨by omega, by omega⟩
    refine G_iconst 0 dr_cX15_usesB_27 (by decide +kernel) ?_
    exact G_zretA FieldType.boolean dr_cX15_usesB_28 rfl rfl (Nat.le_of_ble_eq_true rfl) (Nat.le_of_ble_eq_true rfl) ⟨0, rfl, rfl, (Nat.le_of_ble_eq_true rfl), (Nat.le_of_ble_eq_true rfl), (gB_w (gBl (show Int32.toInt 0 = 0 by decide)) (by decide) (by decide)), (by have qa0 : Int32.toInt 0 = 0 := (by decide); omega)⟩
  · have r215519 : 0 < p215509.toInt := gj_nle hc215517 (show Int32.toInt 0 = 0 by decide)
    have bp215509' : gB p215509 1 32 := ⟨by omega, by omega⟩
    refine G_aload_n 0 dr_cX15_usesB_7 rfl ?_
    refine Gp_get 0 hmq215508 heq215508 dr_cX15_usesB_8 (gk_X15 D I) (Nat.le_of_ble_eq_true rfl) wr_9_175 rfl ?_
    refine G_bipush 20 dr_cX15_usesB_11 (by decide +kernel) ?_
    refine G_icmp_ge 27 dr_cX15_usesB_13 (by decide +kernel) (fun hc215520 => ?_) (fun hc215520 => ?_)
    · have r215521 : 20 ≤ p215509.toInt := gj_leL hc215520 (show Int32.toInt 20 = 20 by decide)
      have bp215509'' : gB p215509 20 32 := ⟨by omega, by omega⟩
      refine G_iconst 0 dr_cX15_usesB_27 (by decide +kernel) ?_
      exact G_zretA FieldType.boolean dr_cX15_usesB_28 rfl rfl (Nat.le_of_ble_eq_true rfl) (Nat.le_of_ble_eq_true rfl) ⟨0, rfl, rfl, (Nat.le_of_ble_eq_true rfl), (Nat.le_of_ble_eq_true rfl), (gB_w (gBl (show Int32.toInt 0 = 0 by decide)) (by decide) (by decide)), (by have qa0 : Int32.toInt 0 = 0 := (by decide); omega)⟩
    · have r215522 : p215509.toInt < 20 := gj_nleL hc215520 (show Int32.toInt 20 = 20 by decide)
      have bp215509'' : gB p215509 1 19 := ⟨by omega, by omega⟩
      refine G_aload_n 0 dr_cX15_usesB_16 rfl ?_
      refine Gp_get 6 hmq215508 heq215508 dr_cX15_usesB_17 (gk_X15 D I) (Nat.le_of_ble_eq_true rfl) wr_9_199 rfl ?_
      refine G_if_eq 27 dr_cX15_usesB_20 (by decide +kernel) (fun hc215523 => ?_) (fun hc215523 => ?_)
      · have r215524 : p215515.toInt = 0 := gj_eq hc215523 (show Int32.toInt 0 = 0 by decide)
        have bp215515' : gB p215515 0 0 := ⟨by omega, by omega⟩
        refine G_iconst 0 dr_cX15_usesB_27 (by decide +kernel) ?_
        exact G_zretA FieldType.boolean dr_cX15_usesB_28 rfl rfl (Nat.le_of_ble_eq_true rfl) (Nat.le_of_ble_eq_true rfl) ⟨0, rfl, rfl, (Nat.le_of_ble_eq_true rfl), (Nat.le_of_ble_eq_true rfl), (gB_w (gBl (show Int32.toInt 0 = 0 by decide)) (by decide) (by decide)), (by have qa0 : Int32.toInt 0 = 0 := (by decide); omega)⟩
      · have r215525 : p215515.toInt ≠ 0 := gj_neq hc215523 (show Int32.toInt 0 = 0 by decide)
        have bp215515' : gB p215515 1 1 := ⟨by omega, by omega⟩
        refine G_iconst 1 dr_cX15_usesB_23 (by decide +kernel) ?_
        refine G_goto 28 dr_cX15_usesB_24 (by decide +kernel) ?_
        exact G_zretA FieldType.boolean dr_cX15_usesB_28 rfl rfl (Nat.le_of_ble_eq_true rfl) (Nat.le_of_ble_eq_true rfl) ⟨1, rfl, rfl, (Nat.le_of_ble_eq_true rfl), (Nat.le_of_ble_eq_true rfl), (gB_w (gBl (show Int32.toInt 1 = 1 by decide)) (by decide) (by decide)), (by have qa0 : Int32.toInt 1 = 1 := (by decide); omega)⟩
abbrev ky_215537_Row_sets : gKey := (cX15_sets, 1, "SpillForgeModel$Row", (some FieldType.boolean), [], "sets", fun _ _ => True)
def pp_215537_Row_sets (D : va_G) (I : FieldType → ClassId) (P215527 : List Nat) (F215528 : Nat → va_E) (q215529 : Nat) (p215530 : Int32) (p215531 : Int32) (p215532 : Int32) (p215533 : Int32) (p215534 : Int32) (p215535 : Int32) (p215536 : Int32) : Option Value → va_W → Nat → Nat → Prop := fun r w dc ds => ∃ (o215541 : Int32), r = some (.int o215541) ∧ w = va_pl P215527 F215528 ∧ dc ≤ 0 ∧ ds ≤ 0 ∧ gB o215541 0 1 ∧ ((o215541.toInt = 1 ∧ p215530.toInt ≤ 21) ∨ (o215541.toInt = 0 ∧ 21 < p215530.toInt))
set_option maxRecDepth 100000 in
set_option maxHeartbeats 4000000 in
theorem cp_215537_Row_sets (l : Launch) (hl0 : l.stackTraces = false) (D : va_G) (I : FieldType → ClassId) (P215527 : List Nat) (F215528 : Nat → va_E) (q215529 : Nat) (p215530 : Int32) (p215531 : Int32) (p215532 : Int32) (p215533 : Int32) (p215534 : Int32) (p215535 : Int32) (p215536 : Int32) (hmq215529 : q215529 ∈ P215527) (heq215529 : F215528 q215529 = .inr (20, [.int p215530, .int p215531, .int p215532, .int p215533, .int p215534, .int p215535, .int p215536])) (bp215530 : gB p215530 0 32) (bp215531 : gB p215531 0 1999) (bp215534 : gB p215534 0 1999) (bp215535 : gB p215535 0 1) (bp215536 : gB p215536 0 1) : CtA (gV D I) l yX15_sets cX15_sets 1 (some FieldType.boolean) 0 0 0 0 [.ref q215529] (va_pl P215527 F215528) (pp_215537_Row_sets D I P215527 F215528 q215529 p215530 p215531 p215532 p215533 p215534 p215535 p215536) gNA := by
  refine CtA_of hl0 (by decide) (Nat.le_of_ble_eq_true rfl) ?_
  have bp215532 := gB_any p215532
  have bp215533 := gB_any p215533
  refine G_aload_n 0 dr_cX15_sets_0 rfl ?_
  refine Gp_get 0 hmq215529 heq215529 dr_cX15_sets_1 (gk_X15 D I) (Nat.le_of_ble_eq_true rfl) wr_9_175 rfl ?_
  refine G_bipush 21 dr_cX15_sets_4 (by decide +kernel) ?_
  refine G_icmp_gt 13 dr_cX15_sets_6 (by decide +kernel) (fun hc215538 => ?_) (fun hc215538 => ?_)
  · have r215539 : 21 < p215530.toInt := gj_ltL hc215538 (show Int32.toInt 21 = 21 by decide)
    have bp215530' : gB p215530 22 32 := ⟨by omega, by omega⟩
    refine G_iconst 0 dr_cX15_sets_13 (by decide +kernel) ?_
    exact G_zretA FieldType.boolean dr_cX15_sets_14 rfl rfl (Nat.le_of_ble_eq_true rfl) (Nat.le_of_ble_eq_true rfl) ⟨0, rfl, rfl, (Nat.le_of_ble_eq_true rfl), (Nat.le_of_ble_eq_true rfl), (gB_w (gBl (show Int32.toInt 0 = 0 by decide)) (by decide) (by decide)), (by have qa0 : Int32.toInt 0 = 0 := (by decide); omega)⟩
  · have r215540 : p215530.toInt ≤ 21 := gj_nltL hc215538 (show Int32.toInt 21 = 21 by decide)
    have bp215530' : gB p215530 0 21 := ⟨by omega, by omega⟩
    refine G_iconst 1 dr_cX15_sets_9 (by decide +kernel) ?_
    refine G_goto 14 dr_cX15_sets_10 (by decide +kernel) ?_
    exact G_zretA FieldType.boolean dr_cX15_sets_14 rfl rfl (Nat.le_of_ble_eq_true rfl) (Nat.le_of_ble_eq_true rfl) ⟨1, rfl, rfl, (Nat.le_of_ble_eq_true rfl), (Nat.le_of_ble_eq_true rfl), (gB_w (gBl (show Int32.toInt 1 = 1 by decide)) (by decide) (by decide)), (by have qa0 : Int32.toInt 1 = 1 := (by decide); omega)⟩
abbrev ky_215553_SpillForgeModel_setOf : gKey := (cX17_setOf, 2, "SpillForgeModel", (some FieldType.int), [], "setOf", fun _ _ => True)
def pp_215553_SpillForgeModel_setOf (D : va_G) (I : FieldType → ClassId) (P215542 : List Nat) (F215543 : Nat → va_E) (q215544 : Nat) (p215545 : Int32) (p215546 : Int32) (p215547 : Int32) (p215548 : Int32) (p215549 : Int32) (p215550 : Int32) (p215551 : Int32) (p215552 : Int32) : Option Value → va_W → Nat → Nat → Prop := fun r w dc ds => ∃ (o215570 : Int32), r = some (.int o215570) ∧ w = va_pl P215542 F215543 ∧ dc ≤ 0 ∧ ds ≤ 0 ∧ gB o215570 (-1) 1999 ∧ ((p215545.toInt = 0 ∧ p215546.toInt ≤ 21 ∧ o215570.toInt = p215547.toInt) ∨ (p215545.toInt = 0 ∧ 21 < p215546.toInt ∧ o215570.toInt = -1) ∨ (p215545.toInt = 1 ∧ p215546.toInt = 23 ∧ o215570.toInt = p215550.toInt) ∨ (p215545.toInt = 1 ∧ p215546.toInt ≠ 23 ∧ o215570.toInt = -1))
set_option maxRecDepth 100000 in
set_option maxHeartbeats 4000000 in
theorem cp_215553_SpillForgeModel_setOf (l : Launch) (hl0 : l.stackTraces = false) (D : va_G) (I : FieldType → ClassId) (P215542 : List Nat) (F215543 : Nat → va_E) (q215544 : Nat) (p215545 : Int32) (p215546 : Int32) (p215547 : Int32) (p215548 : Int32) (p215549 : Int32) (p215550 : Int32) (p215551 : Int32) (p215552 : Int32) (hmq215544 : q215544 ∈ P215542) (heq215544 : F215543 q215544 = .inr (20, [.int p215546, .int p215547, .int p215548, .int p215549, .int p215550, .int p215551, .int p215552])) (bp215545 : gB p215545 0 1) (bp215546 : gB p215546 0 32) (bp215547 : gB p215547 0 1999) (bp215550 : gB p215550 0 1999) (bp215551 : gB p215551 0 1) (bp215552 : gB p215552 0 1) : CtA (gV D I) l yX17_setOf cX17_setOf 2 (some FieldType.int) 1 20 0 0 [.ref q215544, .int p215545] (va_pl P215542 F215543) (pp_215553_SpillForgeModel_setOf D I P215542 F215543 q215544 p215545 p215546 p215547 p215548 p215549 p215550 p215551 p215552) gNA := by
  refine CtA_of hl0 (by decide) (Nat.le_of_ble_eq_true rfl) ?_
  have bp215548 := gB_any p215548
  have bp215549 := gB_any p215549
  refine G_iload_n 1 dr_cX17_setOf_0 rfl ?_
  refine G_if_eq 24 dr_cX17_setOf_1 (by decide +kernel) (fun hc215554 => ?_) (fun hc215554 => ?_)
  · have r215555 : p215545.toInt = 0 := gj_eq hc215554 (show Int32.toInt 0 = 0 by decide)
    have bp215545' : gB p215545 0 0 := ⟨by omega, by omega⟩
    refine G_aload_n 0 dr_cX17_setOf_24 rfl ?_
    refine Gw_callV (As := []) (gV_ok D I) (cp_215537_Row_sets l hl0 D I P215542 F215543 q215544 p215546 p215547 p215548 p215549 p215550 p215551 p215552 hmq215544 heq215544 bp215546 bp215547 bp215550 bp215551 bp215552) dr_cX17_setOf_25 ⟨wr_10_181, wr_1_39, wr_10_184, by decide, rfl, (Nat.le_of_ble_eq_true rfl), (Nat.le_of_ble_eq_true rfl)⟩ wr_10_182 wr_10_183 hmq215544 heq215544 rfl (show 0 + 0 ≤ 0 by first | omega | decide) (show 0 + 0 ≤ 0 by first | omega | decide) (Nat.le_of_ble_eq_true rfl) (fun r215559 w215560 dc215556 ds215557 hp215558 => ?_) (fun _ _ _ _ _ z => z.elim)
    obtain ⟨o215561, rfl, rfl, hdc, hds, bo215561, x215562⟩ := hp215558
    change G _ _ _ _ _ _ _ (.int o215561 :: _) _ _ _
    refine G_widen (cs' := 0) (sl' := 0) (by omega) (by omega) ?_
    refine G_if_eq 38 dr_cX17_setOf_28 (by decide +kernel) (fun hc215563 => ?_) (fun hc215563 => ?_)
    · have r215564 : o215561.toInt = 0 := gj_eq hc215563 (show Int32.toInt 0 = 0 by decide)
      have bo215561' : gB o215561 0 0 := ⟨by omega, by omega⟩
      refine G_iconst (-1) dr_cX17_setOf_38 (by decide +kernel) ?_
      exact G_iretA dr_cX17_setOf_39 rfl (Nat.le_of_ble_eq_true rfl) (Nat.le_of_ble_eq_true rfl) ⟨(-1), rfl, rfl, (Nat.le_of_ble_eq_true rfl), (Nat.le_of_ble_eq_true rfl), (gB_w (gBl (show Int32.toInt (-1) = (-1) by decide)) (by decide) (by decide)), (by have qa0 : Int32.toInt (-1) = (-1) := (by decide); omega)⟩
    · have r215565 : o215561.toInt ≠ 0 := gj_neq hc215563 (show Int32.toInt 0 = 0 by decide)
      have bo215561' : gB o215561 1 1 := ⟨by omega, by omega⟩
      refine G_aload_n 0 dr_cX17_setOf_31 rfl ?_
      refine Gp_get 1 hmq215544 heq215544 dr_cX17_setOf_32 (gk_X15 D I) (Nat.le_of_ble_eq_true rfl) wr_9_182 rfl ?_
      refine G_goto 39 dr_cX17_setOf_35 (by decide +kernel) ?_
      exact G_iretA dr_cX17_setOf_39 rfl (Nat.le_of_ble_eq_true rfl) (Nat.le_of_ble_eq_true rfl) ⟨p215547, rfl, rfl, (Nat.le_of_ble_eq_true rfl), (Nat.le_of_ble_eq_true rfl), (gB_w bp215547 (by decide) (by decide)), (by omega)⟩
  · have r215566 : p215545.toInt ≠ 0 := gj_neq hc215554 (show Int32.toInt 0 = 0 by decide)
    have bp215545' : gB p215545 1 1 := ⟨by omega, by omega⟩
    refine G_aload_n 0 dr_cX17_setOf_4 rfl ?_
    refine Gp_get 0 hmq215544 heq215544 dr_cX17_setOf_5 (gk_X15 D I) (Nat.le_of_ble_eq_true rfl) wr_9_177 rfl ?_
    refine G_bipush 23 dr_cX17_setOf_8 (by decide +kernel) ?_
    refine G_icmp_ne 20 dr_cX17_setOf_10 (by decide +kernel) (fun hc215567 => ?_) (fun hc215567 => ?_)
    · have r215568 : p215546.toInt ≠ 23 := gj_neq hc215567 (show Int32.toInt 23 = 23 by decide)
      refine G_iconst (-1) dr_cX17_setOf_20 (by decide +kernel) ?_
      refine G_goto 39 dr_cX17_setOf_21 (by decide +kernel) ?_
      exact G_iretA dr_cX17_setOf_39 rfl (Nat.le_of_ble_eq_true rfl) (Nat.le_of_ble_eq_true rfl) ⟨(-1), rfl, rfl, (Nat.le_of_ble_eq_true rfl), (Nat.le_of_ble_eq_true rfl), (gB_w (gBl (show Int32.toInt (-1) = (-1) by decide)) (by decide) (by decide)), (by have qa0 : Int32.toInt (-1) = (-1) := (by decide); omega)⟩
    · have r215569 : p215546.toInt = 23 := gj_eq hc215567 (show Int32.toInt 23 = 23 by decide)
      have bp215546' : gB p215546 23 23 := ⟨by omega, by omega⟩
      refine G_aload_n 0 dr_cX17_setOf_13 rfl ?_
      refine Gp_get 4 hmq215544 heq215544 dr_cX17_setOf_14 (gk_X15 D I) (Nat.le_of_ble_eq_true rfl) wr_9_193 rfl ?_
      refine G_goto 39 dr_cX17_setOf_17 (by decide +kernel) ?_
      exact G_iretA dr_cX17_setOf_39 rfl (Nat.le_of_ble_eq_true rfl) (Nat.le_of_ble_eq_true rfl) ⟨p215550, rfl, rfl, (Nat.le_of_ble_eq_true rfl), (Nat.le_of_ble_eq_true rfl), (gB_w bp215550 (by decide) (by decide)), (by omega)⟩
abbrev ky_215576_SpillForgeModel_back : gKey := (cX17_back, 4, "SpillForgeModel", none, [], "back", fun _ _ => True)
def pt_215576_SpillForgeModel_back (D : va_G) (I : FieldType → ClassId) (γ el : Nat → Nat → Nat) (P215571 : List Nat) (F215572 : Nat → va_E) (q215573 : Nat) (q215574 : Nat) (p215575 : Int32) : Option Value → va_W → Nat → Nat → Prop := fun r w dc ds => ∃ (F215894 : Nat → va_E), r = none ∧ w = va_pl P215571 F215894 ∧ RS D I P215571 F215894 γ el ∧ rStr γ [] F215572 F215894 ∧ dc ≤ 0 ∧ ds ≤ 0 ∧ (∀ k : Nat, rbt (cL (F215894 (γ 9 2))) k = bkS (F215572 q215574) (decide (p215575.toInt = 1)) (rbt (cL (F215572 (γ 9 2)))) k) ∧ rLv γ F215572 F215894 ∧ (F215894 q215573 = F215572 q215573)
set_option maxRecDepth 100000 in
set_option maxHeartbeats 4000000 in
theorem ct_215576_SpillForgeModel_back (l : Launch) (hl0 : l.stackTraces = false) (D : va_G) (I : FieldType → ClassId) (γ el : Nat → Nat → Nat) (P215571 : List Nat) (F215572 : Nat → va_E) (q215573 : Nat) (q215574 : Nat) (p215575 : Int32) (hT : RS D I P215571 F215572 γ el) (htq215573 : rKd γ q215573 10) (htq215574 : rKd γ q215574 1) (bp215575 : gB p215575 0 1) : CtA (gV D I) l yX17_back cX17_back 4 none 2 41 0 0 [.ref q215573, .ref q215574, .int p215575] (va_pl P215571 F215572) (pt_215576_SpillForgeModel_back D I γ el P215571 F215572 q215573 q215574 p215575) gNA := by
  refine CtA_of hl0 (by decide) (Nat.le_of_ble_eq_true rfl) ?_
  have hm215577 : q215573 ∈ P215571 := RS_m hT htq215573 (by decide)
  obtain ⟨q215579, q215580, p215581, p215582, p215583, p215584, p215585, p215586, p215587, p215588, p215589, p215590, p215591, p215592, p215593, p215594, p215595, he215578, hB215622, ht215596, ht215597, ht215598, ht215599, ht215600, ht215601, ht215602, ht215603, ht215604, ht215605, ht215606, ht215607, ht215608, ht215609, ht215610, ht215611, ht215612, ht215613, ht215614, ht215615, ht215616, ht215617, ht215618, ht215619, hB215623⟩ := show rk_10 γ (F215572 q215573) from RS_o hT htq215573
  have hm215624 : (γ 9 2) ∈ P215571 := RS_m hT ht215600 (by decide)
  obtain ⟨f215626, he215625, wf215626⟩ := show rk_35 I (F215572 (γ 9 2)) from RS_o hT ht215600
  have hm215627 : q215574 ∈ P215571 := RS_m hT htq215574 (by decide)
  obtain ⟨p215629, p215630, p215631, p215632, p215633, p215634, p215635, he215628, bp215629, bp215630, bp215633, bp215634, bp215635, r215636, r215637, r215638, r215639, r215640⟩ := show rk_1 γ q215574 (F215572 q215574) from RS_o hT htq215574
  have bp215631 := gB_any p215631
  have bp215632 := gB_any p215632
  refine G_aload_n 1 dr_cX17_back_0 rfl ?_
  refine G_iload_n 2 dr_cX17_back_1 rfl ?_
  refine Gw_callS (As := [.ref q215574, .int p215575]) (gV_ok D I) (cp_215553_SpillForgeModel_setOf l hl0 D I P215571 F215572 q215574 p215575 p215629 p215630 p215631 p215632 p215633 p215634 p215635 hm215627 he215628 bp215575 bp215629 bp215630 bp215633 bp215634 bp215635) dr_cX17_back_2 ⟨wr_10_178, wr_1_14, wr_10_180, by decide, rfl, (Nat.le_of_ble_eq_true rfl), (Nat.le_of_ble_eq_true rfl)⟩ wr_10_179 (show 0 + 0 ≤ 0 by first | omega | decide) (show 0 + 0 ≤ 0 by first | omega | decide) (Nat.le_of_ble_eq_true rfl) (fun r215644 w215645 dc215641 ds215642 hp215643 => ?_) (fun _ _ _ _ _ z => z.elim)
  obtain ⟨o215646, rfl, rfl, hdc, hds, bo215646, x215647⟩ := hp215643
  change G _ _ _ _ _ _ _ (.int o215646 :: _) _ _ _
  refine G_widen (cs' := 0) (sl' := 0) (by omega) (by omega) ?_
  refine G_istore_n (L' := [(3, .int o215646), (0, .ref q215573), (1, .ref q215574), (2, .int p215575)]) dr_cX17_back_5 (Nat.le_of_ble_eq_true rfl) rfl ?_
  refine G_iload_n 0 dr_cX17_back_6 rfl ?_
  refine G_if_lt 18 dr_cX17_back_7 (by decide +kernel) (fun hc215648 => ?_) (fun hc215648 => ?_)
  · have r215649 : o215646.toInt < 0 := gj_lt hc215648 (show Int32.toInt 0 = 0 by decide)
    have bo215646' : gB o215646 (-1) (-1) := ⟨by omega, by omega⟩
    refine G_iload_n 3 dr_cX17_back_18 rfl ?_
    refine G_if_eq 43 dr_cX17_back_19 (by decide +kernel) (fun hc215650 => ?_) (fun hc215650 => ?_)
    · have r215651 : p215575.toInt = 0 := gj_eq hc215650 (show Int32.toInt 0 = 0 by decide)
      have bp215575' : gB p215575 0 0 := ⟨by omega, by omega⟩
      refine G_aload_n 2 dr_cX17_back_43 rfl ?_
      refine Gw_callV (As := []) (gV_ok D I) (cp_215492_Row_usesA l hl0 D I P215571 F215572 q215574 p215629 p215630 p215631 p215632 p215633 p215634 p215635 hm215627 he215628 bp215629 bp215630 bp215633 bp215634 bp215635) dr_cX17_back_44 ⟨wr_10_192, wr_1_39, wr_10_195, by decide, rfl, (Nat.le_of_ble_eq_true rfl), (Nat.le_of_ble_eq_true rfl)⟩ wr_10_193 wr_10_194 hm215627 he215628 rfl (show 0 + 0 ≤ 0 by first | omega | decide) (show 0 + 0 ≤ 0 by first | omega | decide) (Nat.le_of_ble_eq_true rfl) (fun r215655 w215656 dc215652 ds215653 hp215654 => ?_) (fun _ _ _ _ _ z => z.elim)
      obtain ⟨o215657, rfl, rfl, hdc, hds, bo215657, x215658⟩ := hp215654
      change G _ _ _ _ _ _ _ (.int o215657 :: _) _ _ _
      refine G_widen (cs' := 0) (sl' := 0) (by omega) (by omega) ?_
      refine G_if_eq 61 dr_cX17_back_47 (by decide +kernel) (fun hc215659 => ?_) (fun hc215659 => ?_)
      · have r215660 : o215657.toInt = 0 := gj_eq hc215659 (show Int32.toInt 0 = 0 by decide)
        have bo215657' : gB o215657 0 0 := ⟨by omega, by omega⟩
        refine G_aload_n 2 dr_cX17_back_61 rfl ?_
        refine Gw_callV (As := []) (gV_ok D I) (cp_215516_Row_usesB l hl0 D I P215571 F215572 q215574 p215629 p215630 p215631 p215632 p215633 p215634 p215635 hm215627 he215628 bp215629 bp215630 bp215633 bp215634 bp215635) dr_cX17_back_62 ⟨wr_10_196, wr_1_39, wr_10_199, by decide, rfl, (Nat.le_of_ble_eq_true rfl), (Nat.le_of_ble_eq_true rfl)⟩ wr_10_197 wr_10_198 hm215627 he215628 rfl (show 0 + 0 ≤ 0 by first | omega | decide) (show 0 + 0 ≤ 0 by first | omega | decide) (Nat.le_of_ble_eq_true rfl) (fun r215664 w215665 dc215661 ds215662 hp215663 => ?_) (fun _ _ _ _ _ z => z.elim)
        obtain ⟨o215666, rfl, rfl, hdc, hds, bo215666, x215667⟩ := hp215663
        change G _ _ _ _ _ _ _ (.int o215666 :: _) _ _ _
        refine G_widen (cs' := 0) (sl' := 0) (by omega) (by omega) ?_
        refine G_if_eq 79 dr_cX17_back_65 (by decide +kernel) (fun hc215668 => ?_) (fun hc215668 => ?_)
        · have r215669 : o215666.toInt = 0 := gj_eq hc215668 (show Int32.toInt 0 = 0 by decide)
          have bo215666' : gB o215666 0 0 := ⟨by omega, by omega⟩
          exact G_vretA dr_cX17_back_79 rfl (Nat.le_of_ble_eq_true rfl) (Nat.le_of_ble_eq_true rfl) ⟨F215572, rfl, rfl, hT, (rStr_rf (γ := γ) (W := []) (F := F215572)), (Nat.le_of_ble_eq_true rfl), (Nat.le_of_ble_eq_true rfl), (fun k => by rw [cL_of he215625, bkS_of he215628, (decide_eq_false (show ¬ (p215575.toInt = 1) by omega))]; exact bk_n false false false (decide_eq_false (show ¬ (p215629.toInt ≤ 21) by omega)) (decide_eq_false (show ¬ (p215629.toInt ≠ 20 ∧ p215629.toInt ≠ 21 ∧ p215629.toInt ≠ 30 ∧ p215634.toInt = 1) by omega)) (decide_eq_false (show ¬ (0 < p215629.toInt ∧ p215629.toInt < 20 ∧ p215635.toInt = 1) by omega)) (by simp)), (rLv_rf (γ := γ) (F := F215572)), rfl⟩
        · have r215670 : o215666.toInt ≠ 0 := gj_neq hc215668 (show Int32.toInt 0 = 0 by decide)
          have bo215666' : gB o215666 1 1 := ⟨by omega, by omega⟩
          refine G_aload_n 1 dr_cX17_back_68 rfl ?_
          refine Gp_get 2 hm215577 he215578 dr_cX17_back_69 (gk_X17 D I) (Nat.le_of_ble_eq_true rfl) wr_7_76 rfl ?_
          refine G_aload_n 2 dr_cX17_back_72 rfl ?_
          refine Gp_get 3 hm215627 he215628 dr_cX17_back_73 (gk_X15 D I) (Nat.le_of_ble_eq_true rfl) wr_9_190 rfl ?_
          refine Gw_callS (As := [.ref (γ 9 2), .int p215632]) (gV_ok D I) (cp_215447_SpillForgeModel_set l hl0 D I P215571 F215572 (γ 9 2) p215632 f215626 hm215624 he215625 ⟨by omega, by omega⟩ wf215626) dr_cX17_back_76 ⟨wr_10_189, wr_1_14, wr_10_191, by decide, rfl, (Nat.le_of_ble_eq_true rfl), (Nat.le_of_ble_eq_true rfl)⟩ wr_10_190 (show 0 + 0 ≤ 0 by first | omega | decide) (show 0 + 0 ≤ 0 by first | omega | decide) (Nat.le_of_ble_eq_true rfl) (fun r215674 w215675 dc215671 ds215672 hp215673 => ?_) (fun _ _ _ _ _ z => z.elim)
          obtain ⟨F215679, f215676, rfl, rfl, hfr215681, he215682, hdc, hds, x215677, x215678⟩ := hp215673
          have he215683 : F215679 q215573 = .inr (22, [.ref (γ 9 0), .ref (γ 9 1), .ref (γ 9 2), .ref (γ 9 3), .ref (γ 9 4), .ref (γ 9 5), .ref (γ 9 6), .ref (γ 9 7), .ref (γ 9 8), .int p215581, .int p215582, .int p215583, .int p215584, .int p215585, .int p215586, .ref (γ 9 15), .ref (γ 9 16), .ref (γ 9 17), .ref (γ 9 18), .ref (γ 9 19), .ref (γ 9 20), .ref (γ 9 21), .ref (γ 9 22), .int p215587, .int p215588, .int p215589, .int p215590, .int p215591, .ref q215579, .ref (γ 9 29), .int p215592, .ref (γ 9 31), .int p215593, .int p215594, .int p215595, .ref q215580]) := (hfr215681 q215573 hm215577 (nm_c (rn_oa he215578 he215625) nm_n)).trans he215578
          have he215684 : F215679 q215574 = .inr (20, [.int p215629, .int p215630, .int p215631, .int p215632, .int p215633, .int p215634, .int p215635]) := (hfr215681 q215574 hm215627 (nm_c (rn_oa he215628 he215625) nm_n)).trans he215628
          have hfr215685 : rFr [(γ 9 2)] P215571 F215572 F215679 := rFr_call (rSub_rf (P := P215571)) (rFr_rf (W := []) (P := P215571) (F := F215572)) hfr215681 (fun b hb hn => ⟨nm_n, (nm_c (fun e => hn (e ▸ List.mem_cons_self)) nm_n)⟩)
          change G _ _ _ _ _ _ _ _ _ _ _
          refine G_widen (cs' := 0) (sl' := 0) (by omega) (by omega) ?_
          have hT215686 : RS D I P215571 F215679 γ el := RS_fr hT hfr215685 ht215600 (by decide) ⟨f215676, he215682, x215677⟩
          have hs215687 : rStr γ [] F215572 F215679 := rStr_fr hT (rStr_rf (γ := γ) (W := []) (F := F215572)) hfr215685 ht215600 (by decide)
          have lv215688 : rLv γ F215572 F215679 := rLv_fr hT ht215598 (rLv_rf (γ := γ) (F := F215572)) hfr215685 ht215600 (by decide)
          have kp215689 : F215679 q215573 = F215572 q215573 := hfr215685 q215573 (RS_m hT htq215573 (by decide)) (nm_c (rn_ty htq215573 ht215600 (by decide)) nm_n)
          exact G_vretA dr_cX17_back_79 rfl (Nat.le_of_ble_eq_true rfl) (Nat.le_of_ble_eq_true rfl) ⟨F215679, rfl, rfl, hT215686, hs215687, (Nat.le_of_ble_eq_true rfl), (Nat.le_of_ble_eq_true rfl), (fun k => by rw [cL_of he215682, cL_of he215625, bkS_of he215628, (decide_eq_false (show ¬ (p215575.toInt = 1) by omega))]; exact bk_n false false true (decide_eq_false (show ¬ (p215629.toInt ≤ 21) by omega)) (decide_eq_false (show ¬ (p215629.toInt ≠ 20 ∧ p215629.toInt ≠ 21 ∧ p215629.toInt ≠ 30 ∧ p215634.toInt = 1) by omega)) (decide_eq_true (show (0 < p215629.toInt ∧ p215629.toInt < 20 ∧ p215635.toInt = 1) by omega)) (by rw [x215678 k]; simp)), lv215688, kp215689⟩
      · have r215690 : o215657.toInt ≠ 0 := gj_neq hc215659 (show Int32.toInt 0 = 0 by decide)
        have bo215657' : gB o215657 1 1 := ⟨by omega, by omega⟩
        refine G_aload_n 1 dr_cX17_back_50 rfl ?_
        refine Gp_get 2 hm215577 he215578 dr_cX17_back_51 (gk_X17 D I) (Nat.le_of_ble_eq_true rfl) wr_7_76 rfl ?_
        refine G_aload_n 2 dr_cX17_back_54 rfl ?_
        refine Gp_get 2 hm215627 he215628 dr_cX17_back_55 (gk_X15 D I) (Nat.le_of_ble_eq_true rfl) wr_9_186 rfl ?_
        refine Gw_callS (As := [.ref (γ 9 2), .int p215631]) (gV_ok D I) (cp_215447_SpillForgeModel_set l hl0 D I P215571 F215572 (γ 9 2) p215631 f215626 hm215624 he215625 ⟨by omega, by omega⟩ wf215626) dr_cX17_back_58 ⟨wr_10_189, wr_1_14, wr_10_191, by decide, rfl, (Nat.le_of_ble_eq_true rfl), (Nat.le_of_ble_eq_true rfl)⟩ wr_10_190 (show 0 + 0 ≤ 0 by first | omega | decide) (show 0 + 0 ≤ 0 by first | omega | decide) (Nat.le_of_ble_eq_true rfl) (fun r215694 w215695 dc215691 ds215692 hp215693 => ?_) (fun _ _ _ _ _ z => z.elim)
        obtain ⟨F215699, f215696, rfl, rfl, hfr215701, he215702, hdc, hds, x215697, x215698⟩ := hp215693
        have he215703 : F215699 q215573 = .inr (22, [.ref (γ 9 0), .ref (γ 9 1), .ref (γ 9 2), .ref (γ 9 3), .ref (γ 9 4), .ref (γ 9 5), .ref (γ 9 6), .ref (γ 9 7), .ref (γ 9 8), .int p215581, .int p215582, .int p215583, .int p215584, .int p215585, .int p215586, .ref (γ 9 15), .ref (γ 9 16), .ref (γ 9 17), .ref (γ 9 18), .ref (γ 9 19), .ref (γ 9 20), .ref (γ 9 21), .ref (γ 9 22), .int p215587, .int p215588, .int p215589, .int p215590, .int p215591, .ref q215579, .ref (γ 9 29), .int p215592, .ref (γ 9 31), .int p215593, .int p215594, .int p215595, .ref q215580]) := (hfr215701 q215573 hm215577 (nm_c (rn_oa he215578 he215625) nm_n)).trans he215578
        have he215704 : F215699 q215574 = .inr (20, [.int p215629, .int p215630, .int p215631, .int p215632, .int p215633, .int p215634, .int p215635]) := (hfr215701 q215574 hm215627 (nm_c (rn_oa he215628 he215625) nm_n)).trans he215628
        have hfr215705 : rFr [(γ 9 2)] P215571 F215572 F215699 := rFr_call (rSub_rf (P := P215571)) (rFr_rf (W := []) (P := P215571) (F := F215572)) hfr215701 (fun b hb hn => ⟨nm_n, (nm_c (fun e => hn (e ▸ List.mem_cons_self)) nm_n)⟩)
        change G _ _ _ _ _ _ _ _ _ _ _
        refine G_widen (cs' := 0) (sl' := 0) (by omega) (by omega) ?_
        have hT215706 : RS D I P215571 F215699 γ el := RS_fr hT hfr215705 ht215600 (by decide) ⟨f215696, he215702, x215697⟩
        have hs215707 : rStr γ [] F215572 F215699 := rStr_fr hT (rStr_rf (γ := γ) (W := []) (F := F215572)) hfr215705 ht215600 (by decide)
        have lv215708 : rLv γ F215572 F215699 := rLv_fr hT ht215598 (rLv_rf (γ := γ) (F := F215572)) hfr215705 ht215600 (by decide)
        have kp215709 : F215699 q215573 = F215572 q215573 := hfr215705 q215573 (RS_m hT htq215573 (by decide)) (nm_c (rn_ty htq215573 ht215600 (by decide)) nm_n)
        refine G_aload_n 2 dr_cX17_back_61 rfl ?_
        refine Gw_callV (As := []) (gV_ok D I) (cp_215516_Row_usesB l hl0 D I P215571 F215699 q215574 p215629 p215630 p215631 p215632 p215633 p215634 p215635 hm215627 he215704 bp215629 bp215630 bp215633 bp215634 bp215635) dr_cX17_back_62 ⟨wr_10_196, wr_1_39, wr_10_199, by decide, rfl, (Nat.le_of_ble_eq_true rfl), (Nat.le_of_ble_eq_true rfl)⟩ wr_10_197 wr_10_198 hm215627 he215704 rfl (show 0 + 0 ≤ 0 by first | omega | decide) (show 0 + 0 ≤ 0 by first | omega | decide) (Nat.le_of_ble_eq_true rfl) (fun r215713 w215714 dc215710 ds215711 hp215712 => ?_) (fun _ _ _ _ _ z => z.elim)
        obtain ⟨o215715, rfl, rfl, hdc, hds, bo215715, x215716⟩ := hp215712
        change G _ _ _ _ _ _ _ (.int o215715 :: _) _ _ _
        refine G_widen (cs' := 0) (sl' := 0) (by omega) (by omega) ?_
        refine G_if_eq 79 dr_cX17_back_65 (by decide +kernel) (fun hc215717 => ?_) (fun hc215717 => ?_)
        · have r215718 : o215715.toInt = 0 := gj_eq hc215717 (show Int32.toInt 0 = 0 by decide)
          have bo215715' : gB o215715 0 0 := ⟨by omega, by omega⟩
          exact G_vretA dr_cX17_back_79 rfl (Nat.le_of_ble_eq_true rfl) (Nat.le_of_ble_eq_true rfl) ⟨F215699, rfl, rfl, hT215706, hs215707, (Nat.le_of_ble_eq_true rfl), (Nat.le_of_ble_eq_true rfl), (fun k => by rw [cL_of he215702, cL_of he215625, bkS_of he215628, (decide_eq_false (show ¬ (p215575.toInt = 1) by omega))]; exact bk_n false true false (decide_eq_false (show ¬ (p215629.toInt ≤ 21) by omega)) (decide_eq_true (show (p215629.toInt ≠ 20 ∧ p215629.toInt ≠ 21 ∧ p215629.toInt ≠ 30 ∧ p215634.toInt = 1) by omega)) (decide_eq_false (show ¬ (0 < p215629.toInt ∧ p215629.toInt < 20 ∧ p215635.toInt = 1) by omega)) (by rw [x215698 k]; simp)), lv215708, kp215709⟩
        · have r215719 : o215715.toInt ≠ 0 := gj_neq hc215717 (show Int32.toInt 0 = 0 by decide)
          have bo215715' : gB o215715 1 1 := ⟨by omega, by omega⟩
          refine G_aload_n 1 dr_cX17_back_68 rfl ?_
          refine Gp_get 2 hm215577 he215703 dr_cX17_back_69 (gk_X17 D I) (Nat.le_of_ble_eq_true rfl) wr_7_76 rfl ?_
          refine G_aload_n 2 dr_cX17_back_72 rfl ?_
          refine Gp_get 3 hm215627 he215704 dr_cX17_back_73 (gk_X15 D I) (Nat.le_of_ble_eq_true rfl) wr_9_190 rfl ?_
          refine Gw_callS (As := [.ref (γ 9 2), .int p215632]) (gV_ok D I) (cp_215447_SpillForgeModel_set l hl0 D I P215571 F215699 (γ 9 2) p215632 f215696 hm215624 he215702 ⟨by omega, by omega⟩ x215697) dr_cX17_back_76 ⟨wr_10_189, wr_1_14, wr_10_191, by decide, rfl, (Nat.le_of_ble_eq_true rfl), (Nat.le_of_ble_eq_true rfl)⟩ wr_10_190 (show 0 + 0 ≤ 0 by first | omega | decide) (show 0 + 0 ≤ 0 by first | omega | decide) (Nat.le_of_ble_eq_true rfl) (fun r215723 w215724 dc215720 ds215721 hp215722 => ?_) (fun _ _ _ _ _ z => z.elim)
          obtain ⟨F215728, f215725, rfl, rfl, hfr215730, he215731, hdc, hds, x215726, x215727⟩ := hp215722
          have he215732 : F215728 q215573 = .inr (22, [.ref (γ 9 0), .ref (γ 9 1), .ref (γ 9 2), .ref (γ 9 3), .ref (γ 9 4), .ref (γ 9 5), .ref (γ 9 6), .ref (γ 9 7), .ref (γ 9 8), .int p215581, .int p215582, .int p215583, .int p215584, .int p215585, .int p215586, .ref (γ 9 15), .ref (γ 9 16), .ref (γ 9 17), .ref (γ 9 18), .ref (γ 9 19), .ref (γ 9 20), .ref (γ 9 21), .ref (γ 9 22), .int p215587, .int p215588, .int p215589, .int p215590, .int p215591, .ref q215579, .ref (γ 9 29), .int p215592, .ref (γ 9 31), .int p215593, .int p215594, .int p215595, .ref q215580]) := (hfr215730 q215573 hm215577 (nm_c (rn_oa he215703 he215702) nm_n)).trans he215703
          have he215733 : F215728 q215574 = .inr (20, [.int p215629, .int p215630, .int p215631, .int p215632, .int p215633, .int p215634, .int p215635]) := (hfr215730 q215574 hm215627 (nm_c (rn_oa he215704 he215702) nm_n)).trans he215704
          have hfr215734 : rFr [(γ 9 2)] P215571 F215699 F215728 := rFr_call (rSub_rf (P := P215571)) (rFr_rf (W := []) (P := P215571) (F := F215699)) hfr215730 (fun b hb hn => ⟨nm_n, (nm_c (fun e => hn (e ▸ List.mem_cons_self)) nm_n)⟩)
          change G _ _ _ _ _ _ _ _ _ _ _
          refine G_widen (cs' := 0) (sl' := 0) (by omega) (by omega) ?_
          have hT215735 : RS D I P215571 F215728 γ el := RS_fr hT215706 hfr215734 ht215600 (by decide) ⟨f215725, he215731, x215726⟩
          have hs215736 : rStr γ [] F215572 F215728 := rStr_fr hT215706 hs215707 hfr215734 ht215600 (by decide)
          have lv215737 : rLv γ F215572 F215728 := rLv_fr hT215706 ht215598 lv215708 hfr215734 ht215600 (by decide)
          have kp215738 : F215728 q215573 = F215572 q215573 := (hfr215734 q215573 (RS_m hT215706 htq215573 (by decide)) (nm_c (rn_ty htq215573 ht215600 (by decide)) nm_n)).trans kp215709
          exact G_vretA dr_cX17_back_79 rfl (Nat.le_of_ble_eq_true rfl) (Nat.le_of_ble_eq_true rfl) ⟨F215728, rfl, rfl, hT215735, hs215736, (Nat.le_of_ble_eq_true rfl), (Nat.le_of_ble_eq_true rfl), (fun k => by rw [cL_of he215731, cL_of he215625, bkS_of he215628, (decide_eq_false (show ¬ (p215575.toInt = 1) by omega))]; exact bk_n false true true (decide_eq_false (show ¬ (p215629.toInt ≤ 21) by omega)) (decide_eq_true (show (p215629.toInt ≠ 20 ∧ p215629.toInt ≠ 21 ∧ p215629.toInt ≠ 30 ∧ p215634.toInt = 1) by omega)) (decide_eq_true (show (0 < p215629.toInt ∧ p215629.toInt < 20 ∧ p215635.toInt = 1) by omega)) (by rw [x215727 k, x215698 k]; simp)), lv215737, kp215738⟩
    · have r215739 : p215575.toInt ≠ 0 := gj_neq hc215650 (show Int32.toInt 0 = 0 by decide)
      have bp215575' : gB p215575 1 1 := ⟨by omega, by omega⟩
      refine G_aload_n 2 dr_cX17_back_22 rfl ?_
      refine Gp_get 0 hm215627 he215628 dr_cX17_back_23 (gk_X15 D I) (Nat.le_of_ble_eq_true rfl) wr_9_177 rfl ?_
      refine G_bipush 21 dr_cX17_back_26 (by decide +kernel) ?_
      refine G_icmp_ne 42 dr_cX17_back_28 (by decide +kernel) (fun hc215740 => ?_) (fun hc215740 => ?_)
      · have r215741 : p215629.toInt ≠ 21 := gj_neq hc215740 (show Int32.toInt 21 = 21 by decide)
        exact G_vretA dr_cX17_back_42 rfl (Nat.le_of_ble_eq_true rfl) (Nat.le_of_ble_eq_true rfl) ⟨F215572, rfl, rfl, hT, (rStr_rf (γ := γ) (W := []) (F := F215572)), (Nat.le_of_ble_eq_true rfl), (Nat.le_of_ble_eq_true rfl), (fun k => by rw [cL_of he215625, bkS_of he215628, (decide_eq_true (show (p215575.toInt = 1) by omega))]; exact bk_s false false (decide_eq_false (show ¬ (p215629.toInt = 23) by omega)) (decide_eq_false (show ¬ (p215629.toInt = 21) by omega)) (by simp)), (rLv_rf (γ := γ) (F := F215572)), rfl⟩
      · have r215742 : p215629.toInt = 21 := gj_eq hc215740 (show Int32.toInt 21 = 21 by decide)
        have bp215629' : gB p215629 21 21 := ⟨by omega, by omega⟩
        refine G_aload_n 1 dr_cX17_back_31 rfl ?_
        refine Gp_get 2 hm215577 he215578 dr_cX17_back_32 (gk_X17 D I) (Nat.le_of_ble_eq_true rfl) wr_7_76 rfl ?_
        refine G_aload_n 2 dr_cX17_back_35 rfl ?_
        refine Gp_get 4 hm215627 he215628 dr_cX17_back_36 (gk_X15 D I) (Nat.le_of_ble_eq_true rfl) wr_9_193 rfl ?_
        refine Gw_callS (As := [.ref (γ 9 2), .int p215633]) (gV_ok D I) (cp_215447_SpillForgeModel_set l hl0 D I P215571 F215572 (γ 9 2) p215633 f215626 hm215624 he215625 bp215633 wf215626) dr_cX17_back_39 ⟨wr_10_189, wr_1_14, wr_10_191, by decide, rfl, (Nat.le_of_ble_eq_true rfl), (Nat.le_of_ble_eq_true rfl)⟩ wr_10_190 (show 0 + 0 ≤ 0 by first | omega | decide) (show 0 + 0 ≤ 0 by first | omega | decide) (Nat.le_of_ble_eq_true rfl) (fun r215746 w215747 dc215743 ds215744 hp215745 => ?_) (fun _ _ _ _ _ z => z.elim)
        obtain ⟨F215751, f215748, rfl, rfl, hfr215753, he215754, hdc, hds, x215749, x215750⟩ := hp215745
        have he215755 : F215751 q215573 = .inr (22, [.ref (γ 9 0), .ref (γ 9 1), .ref (γ 9 2), .ref (γ 9 3), .ref (γ 9 4), .ref (γ 9 5), .ref (γ 9 6), .ref (γ 9 7), .ref (γ 9 8), .int p215581, .int p215582, .int p215583, .int p215584, .int p215585, .int p215586, .ref (γ 9 15), .ref (γ 9 16), .ref (γ 9 17), .ref (γ 9 18), .ref (γ 9 19), .ref (γ 9 20), .ref (γ 9 21), .ref (γ 9 22), .int p215587, .int p215588, .int p215589, .int p215590, .int p215591, .ref q215579, .ref (γ 9 29), .int p215592, .ref (γ 9 31), .int p215593, .int p215594, .int p215595, .ref q215580]) := (hfr215753 q215573 hm215577 (nm_c (rn_oa he215578 he215625) nm_n)).trans he215578
        have he215756 : F215751 q215574 = .inr (20, [.int p215629, .int p215630, .int p215631, .int p215632, .int p215633, .int p215634, .int p215635]) := (hfr215753 q215574 hm215627 (nm_c (rn_oa he215628 he215625) nm_n)).trans he215628
        have hfr215757 : rFr [(γ 9 2)] P215571 F215572 F215751 := rFr_call (rSub_rf (P := P215571)) (rFr_rf (W := []) (P := P215571) (F := F215572)) hfr215753 (fun b hb hn => ⟨nm_n, (nm_c (fun e => hn (e ▸ List.mem_cons_self)) nm_n)⟩)
        change G _ _ _ _ _ _ _ _ _ _ _
        refine G_widen (cs' := 0) (sl' := 0) (by omega) (by omega) ?_
        have hT215758 : RS D I P215571 F215751 γ el := RS_fr hT hfr215757 ht215600 (by decide) ⟨f215748, he215754, x215749⟩
        have hs215759 : rStr γ [] F215572 F215751 := rStr_fr hT (rStr_rf (γ := γ) (W := []) (F := F215572)) hfr215757 ht215600 (by decide)
        have lv215760 : rLv γ F215572 F215751 := rLv_fr hT ht215598 (rLv_rf (γ := γ) (F := F215572)) hfr215757 ht215600 (by decide)
        have kp215761 : F215751 q215573 = F215572 q215573 := hfr215757 q215573 (RS_m hT htq215573 (by decide)) (nm_c (rn_ty htq215573 ht215600 (by decide)) nm_n)
        exact G_vretA dr_cX17_back_42 rfl (Nat.le_of_ble_eq_true rfl) (Nat.le_of_ble_eq_true rfl) ⟨F215751, rfl, rfl, hT215758, hs215759, (Nat.le_of_ble_eq_true rfl), (Nat.le_of_ble_eq_true rfl), (fun k => by rw [cL_of he215754, cL_of he215625, bkS_of he215628, (decide_eq_true (show (p215575.toInt = 1) by omega))]; exact bk_s false true (decide_eq_false (show ¬ (p215629.toInt = 23) by omega)) (decide_eq_true (show (p215629.toInt = 21) by omega)) (by rw [x215750 k]; simp)), lv215760, kp215761⟩
  · have r215762 : 0 ≤ o215646.toInt := gj_nlt hc215648 (show Int32.toInt 0 = 0 by decide)
    have bo215646' : gB o215646 0 1999 := ⟨by omega, by omega⟩
    refine G_aload_n 1 dr_cX17_back_10 rfl ?_
    refine Gp_get 2 hm215577 he215578 dr_cX17_back_11 (gk_X17 D I) (Nat.le_of_ble_eq_true rfl) wr_7_76 rfl ?_
    refine G_iload_n 0 dr_cX17_back_14 rfl ?_
    refine Gw_callS (As := [.ref (γ 9 2), .int o215646]) (gV_ok D I) (cp_215467_SpillForgeModel_clear l hl0 D I P215571 F215572 (γ 9 2) o215646 f215626 hm215624 he215625 bo215646' wf215626) dr_cX17_back_15 ⟨wr_10_185, wr_1_14, wr_10_187, by decide, rfl, (Nat.le_of_ble_eq_true rfl), (Nat.le_of_ble_eq_true rfl)⟩ wr_10_186 (show 0 + 0 ≤ 0 by first | omega | decide) (show 0 + 0 ≤ 0 by first | omega | decide) (Nat.le_of_ble_eq_true rfl) (fun r215766 w215767 dc215763 ds215764 hp215765 => ?_) (fun _ _ _ _ _ z => z.elim)
    obtain ⟨F215771, f215768, rfl, rfl, hfr215773, he215774, hdc, hds, x215769, x215770⟩ := hp215765
    have he215775 : F215771 q215573 = .inr (22, [.ref (γ 9 0), .ref (γ 9 1), .ref (γ 9 2), .ref (γ 9 3), .ref (γ 9 4), .ref (γ 9 5), .ref (γ 9 6), .ref (γ 9 7), .ref (γ 9 8), .int p215581, .int p215582, .int p215583, .int p215584, .int p215585, .int p215586, .ref (γ 9 15), .ref (γ 9 16), .ref (γ 9 17), .ref (γ 9 18), .ref (γ 9 19), .ref (γ 9 20), .ref (γ 9 21), .ref (γ 9 22), .int p215587, .int p215588, .int p215589, .int p215590, .int p215591, .ref q215579, .ref (γ 9 29), .int p215592, .ref (γ 9 31), .int p215593, .int p215594, .int p215595, .ref q215580]) := (hfr215773 q215573 hm215577 (nm_c (rn_oa he215578 he215625) nm_n)).trans he215578
    have he215776 : F215771 q215574 = .inr (20, [.int p215629, .int p215630, .int p215631, .int p215632, .int p215633, .int p215634, .int p215635]) := (hfr215773 q215574 hm215627 (nm_c (rn_oa he215628 he215625) nm_n)).trans he215628
    have hfr215777 : rFr [(γ 9 2)] P215571 F215572 F215771 := rFr_call (rSub_rf (P := P215571)) (rFr_rf (W := []) (P := P215571) (F := F215572)) hfr215773 (fun b hb hn => ⟨nm_n, (nm_c (fun e => hn (e ▸ List.mem_cons_self)) nm_n)⟩)
    change G _ _ _ _ _ _ _ _ _ _ _
    refine G_widen (cs' := 0) (sl' := 0) (by omega) (by omega) ?_
    have hT215778 : RS D I P215571 F215771 γ el := RS_fr hT hfr215777 ht215600 (by decide) ⟨f215768, he215774, x215769⟩
    have hs215779 : rStr γ [] F215572 F215771 := rStr_fr hT (rStr_rf (γ := γ) (W := []) (F := F215572)) hfr215777 ht215600 (by decide)
    have lv215780 : rLv γ F215572 F215771 := rLv_fr hT ht215598 (rLv_rf (γ := γ) (F := F215572)) hfr215777 ht215600 (by decide)
    have kp215781 : F215771 q215573 = F215572 q215573 := hfr215777 q215573 (RS_m hT htq215573 (by decide)) (nm_c (rn_ty htq215573 ht215600 (by decide)) nm_n)
    refine G_iload_n 3 dr_cX17_back_18 rfl ?_
    refine G_if_eq 43 dr_cX17_back_19 (by decide +kernel) (fun hc215782 => ?_) (fun hc215782 => ?_)
    · have r215783 : p215575.toInt = 0 := gj_eq hc215782 (show Int32.toInt 0 = 0 by decide)
      have bp215575' : gB p215575 0 0 := ⟨by omega, by omega⟩
      refine G_aload_n 2 dr_cX17_back_43 rfl ?_
      refine Gw_callV (As := []) (gV_ok D I) (cp_215492_Row_usesA l hl0 D I P215571 F215771 q215574 p215629 p215630 p215631 p215632 p215633 p215634 p215635 hm215627 he215776 bp215629 bp215630 bp215633 bp215634 bp215635) dr_cX17_back_44 ⟨wr_10_192, wr_1_39, wr_10_195, by decide, rfl, (Nat.le_of_ble_eq_true rfl), (Nat.le_of_ble_eq_true rfl)⟩ wr_10_193 wr_10_194 hm215627 he215776 rfl (show 0 + 0 ≤ 0 by first | omega | decide) (show 0 + 0 ≤ 0 by first | omega | decide) (Nat.le_of_ble_eq_true rfl) (fun r215787 w215788 dc215784 ds215785 hp215786 => ?_) (fun _ _ _ _ _ z => z.elim)
      obtain ⟨o215789, rfl, rfl, hdc, hds, bo215789, x215790⟩ := hp215786
      change G _ _ _ _ _ _ _ (.int o215789 :: _) _ _ _
      refine G_widen (cs' := 0) (sl' := 0) (by omega) (by omega) ?_
      refine G_if_eq 61 dr_cX17_back_47 (by decide +kernel) (fun hc215791 => ?_) (fun hc215791 => ?_)
      · have r215792 : o215789.toInt = 0 := gj_eq hc215791 (show Int32.toInt 0 = 0 by decide)
        have bo215789' : gB o215789 0 0 := ⟨by omega, by omega⟩
        refine G_aload_n 2 dr_cX17_back_61 rfl ?_
        refine Gw_callV (As := []) (gV_ok D I) (cp_215516_Row_usesB l hl0 D I P215571 F215771 q215574 p215629 p215630 p215631 p215632 p215633 p215634 p215635 hm215627 he215776 bp215629 bp215630 bp215633 bp215634 bp215635) dr_cX17_back_62 ⟨wr_10_196, wr_1_39, wr_10_199, by decide, rfl, (Nat.le_of_ble_eq_true rfl), (Nat.le_of_ble_eq_true rfl)⟩ wr_10_197 wr_10_198 hm215627 he215776 rfl (show 0 + 0 ≤ 0 by first | omega | decide) (show 0 + 0 ≤ 0 by first | omega | decide) (Nat.le_of_ble_eq_true rfl) (fun r215796 w215797 dc215793 ds215794 hp215795 => ?_) (fun _ _ _ _ _ z => z.elim)
        obtain ⟨o215798, rfl, rfl, hdc, hds, bo215798, x215799⟩ := hp215795
        change G _ _ _ _ _ _ _ (.int o215798 :: _) _ _ _
        refine G_widen (cs' := 0) (sl' := 0) (by omega) (by omega) ?_
        refine G_if_eq 79 dr_cX17_back_65 (by decide +kernel) (fun hc215800 => ?_) (fun hc215800 => ?_)
        · have r215801 : o215798.toInt = 0 := gj_eq hc215800 (show Int32.toInt 0 = 0 by decide)
          have bo215798' : gB o215798 0 0 := ⟨by omega, by omega⟩
          exact G_vretA dr_cX17_back_79 rfl (Nat.le_of_ble_eq_true rfl) (Nat.le_of_ble_eq_true rfl) ⟨F215771, rfl, rfl, hT215778, hs215779, (Nat.le_of_ble_eq_true rfl), (Nat.le_of_ble_eq_true rfl), (fun k => by rw [cL_of he215774, cL_of he215625, bkS_of he215628, (decide_eq_false (show ¬ (p215575.toInt = 1) by omega))]; exact bk_n true false false (decide_eq_true (show (p215629.toInt ≤ 21) by omega)) (decide_eq_false (show ¬ (p215629.toInt ≠ 20 ∧ p215629.toInt ≠ 21 ∧ p215629.toInt ≠ 30 ∧ p215634.toInt = 1) by omega)) (decide_eq_false (show ¬ (0 < p215629.toInt ∧ p215629.toInt < 20 ∧ p215635.toInt = 1) by omega)) (by rw [x215770 k, show o215646.toInt = p215630.toInt by omega]; simp)), lv215780, kp215781⟩
        · have r215802 : o215798.toInt ≠ 0 := gj_neq hc215800 (show Int32.toInt 0 = 0 by decide)
          have bo215798' : gB o215798 1 1 := ⟨by omega, by omega⟩
          refine G_aload_n 1 dr_cX17_back_68 rfl ?_
          refine Gp_get 2 hm215577 he215775 dr_cX17_back_69 (gk_X17 D I) (Nat.le_of_ble_eq_true rfl) wr_7_76 rfl ?_
          refine G_aload_n 2 dr_cX17_back_72 rfl ?_
          refine Gp_get 3 hm215627 he215776 dr_cX17_back_73 (gk_X15 D I) (Nat.le_of_ble_eq_true rfl) wr_9_190 rfl ?_
          refine Gw_callS (As := [.ref (γ 9 2), .int p215632]) (gV_ok D I) (cp_215447_SpillForgeModel_set l hl0 D I P215571 F215771 (γ 9 2) p215632 f215768 hm215624 he215774 ⟨by omega, by omega⟩ x215769) dr_cX17_back_76 ⟨wr_10_189, wr_1_14, wr_10_191, by decide, rfl, (Nat.le_of_ble_eq_true rfl), (Nat.le_of_ble_eq_true rfl)⟩ wr_10_190 (show 0 + 0 ≤ 0 by first | omega | decide) (show 0 + 0 ≤ 0 by first | omega | decide) (Nat.le_of_ble_eq_true rfl) (fun r215806 w215807 dc215803 ds215804 hp215805 => ?_) (fun _ _ _ _ _ z => z.elim)
          obtain ⟨F215811, f215808, rfl, rfl, hfr215813, he215814, hdc, hds, x215809, x215810⟩ := hp215805
          have he215815 : F215811 q215573 = .inr (22, [.ref (γ 9 0), .ref (γ 9 1), .ref (γ 9 2), .ref (γ 9 3), .ref (γ 9 4), .ref (γ 9 5), .ref (γ 9 6), .ref (γ 9 7), .ref (γ 9 8), .int p215581, .int p215582, .int p215583, .int p215584, .int p215585, .int p215586, .ref (γ 9 15), .ref (γ 9 16), .ref (γ 9 17), .ref (γ 9 18), .ref (γ 9 19), .ref (γ 9 20), .ref (γ 9 21), .ref (γ 9 22), .int p215587, .int p215588, .int p215589, .int p215590, .int p215591, .ref q215579, .ref (γ 9 29), .int p215592, .ref (γ 9 31), .int p215593, .int p215594, .int p215595, .ref q215580]) := (hfr215813 q215573 hm215577 (nm_c (rn_oa he215775 he215774) nm_n)).trans he215775
          have he215816 : F215811 q215574 = .inr (20, [.int p215629, .int p215630, .int p215631, .int p215632, .int p215633, .int p215634, .int p215635]) := (hfr215813 q215574 hm215627 (nm_c (rn_oa he215776 he215774) nm_n)).trans he215776
          have hfr215817 : rFr [(γ 9 2)] P215571 F215771 F215811 := rFr_call (rSub_rf (P := P215571)) (rFr_rf (W := []) (P := P215571) (F := F215771)) hfr215813 (fun b hb hn => ⟨nm_n, (nm_c (fun e => hn (e ▸ List.mem_cons_self)) nm_n)⟩)
          change G _ _ _ _ _ _ _ _ _ _ _
          refine G_widen (cs' := 0) (sl' := 0) (by omega) (by omega) ?_
          have hT215818 : RS D I P215571 F215811 γ el := RS_fr hT215778 hfr215817 ht215600 (by decide) ⟨f215808, he215814, x215809⟩
          have hs215819 : rStr γ [] F215572 F215811 := rStr_fr hT215778 hs215779 hfr215817 ht215600 (by decide)
          have lv215820 : rLv γ F215572 F215811 := rLv_fr hT215778 ht215598 lv215780 hfr215817 ht215600 (by decide)
          have kp215821 : F215811 q215573 = F215572 q215573 := (hfr215817 q215573 (RS_m hT215778 htq215573 (by decide)) (nm_c (rn_ty htq215573 ht215600 (by decide)) nm_n)).trans kp215781
          exact G_vretA dr_cX17_back_79 rfl (Nat.le_of_ble_eq_true rfl) (Nat.le_of_ble_eq_true rfl) ⟨F215811, rfl, rfl, hT215818, hs215819, (Nat.le_of_ble_eq_true rfl), (Nat.le_of_ble_eq_true rfl), (fun k => by rw [cL_of he215814, cL_of he215625, bkS_of he215628, (decide_eq_false (show ¬ (p215575.toInt = 1) by omega))]; exact bk_n true false true (decide_eq_true (show (p215629.toInt ≤ 21) by omega)) (decide_eq_false (show ¬ (p215629.toInt ≠ 20 ∧ p215629.toInt ≠ 21 ∧ p215629.toInt ≠ 30 ∧ p215634.toInt = 1) by omega)) (decide_eq_true (show (0 < p215629.toInt ∧ p215629.toInt < 20 ∧ p215635.toInt = 1) by omega)) (by rw [x215810 k, x215770 k, show o215646.toInt = p215630.toInt by omega]; simp)), lv215820, kp215821⟩
      · have r215822 : o215789.toInt ≠ 0 := gj_neq hc215791 (show Int32.toInt 0 = 0 by decide)
        have bo215789' : gB o215789 1 1 := ⟨by omega, by omega⟩
        refine G_aload_n 1 dr_cX17_back_50 rfl ?_
        refine Gp_get 2 hm215577 he215775 dr_cX17_back_51 (gk_X17 D I) (Nat.le_of_ble_eq_true rfl) wr_7_76 rfl ?_
        refine G_aload_n 2 dr_cX17_back_54 rfl ?_
        refine Gp_get 2 hm215627 he215776 dr_cX17_back_55 (gk_X15 D I) (Nat.le_of_ble_eq_true rfl) wr_9_186 rfl ?_
        refine Gw_callS (As := [.ref (γ 9 2), .int p215631]) (gV_ok D I) (cp_215447_SpillForgeModel_set l hl0 D I P215571 F215771 (γ 9 2) p215631 f215768 hm215624 he215774 ⟨by omega, by omega⟩ x215769) dr_cX17_back_58 ⟨wr_10_189, wr_1_14, wr_10_191, by decide, rfl, (Nat.le_of_ble_eq_true rfl), (Nat.le_of_ble_eq_true rfl)⟩ wr_10_190 (show 0 + 0 ≤ 0 by first | omega | decide) (show 0 + 0 ≤ 0 by first | omega | decide) (Nat.le_of_ble_eq_true rfl) (fun r215826 w215827 dc215823 ds215824 hp215825 => ?_) (fun _ _ _ _ _ z => z.elim)
        obtain ⟨F215831, f215828, rfl, rfl, hfr215833, he215834, hdc, hds, x215829, x215830⟩ := hp215825
        have he215835 : F215831 q215573 = .inr (22, [.ref (γ 9 0), .ref (γ 9 1), .ref (γ 9 2), .ref (γ 9 3), .ref (γ 9 4), .ref (γ 9 5), .ref (γ 9 6), .ref (γ 9 7), .ref (γ 9 8), .int p215581, .int p215582, .int p215583, .int p215584, .int p215585, .int p215586, .ref (γ 9 15), .ref (γ 9 16), .ref (γ 9 17), .ref (γ 9 18), .ref (γ 9 19), .ref (γ 9 20), .ref (γ 9 21), .ref (γ 9 22), .int p215587, .int p215588, .int p215589, .int p215590, .int p215591, .ref q215579, .ref (γ 9 29), .int p215592, .ref (γ 9 31), .int p215593, .int p215594, .int p215595, .ref q215580]) := (hfr215833 q215573 hm215577 (nm_c (rn_oa he215775 he215774) nm_n)).trans he215775
        have he215836 : F215831 q215574 = .inr (20, [.int p215629, .int p215630, .int p215631, .int p215632, .int p215633, .int p215634, .int p215635]) := (hfr215833 q215574 hm215627 (nm_c (rn_oa he215776 he215774) nm_n)).trans he215776
        have hfr215837 : rFr [(γ 9 2)] P215571 F215771 F215831 := rFr_call (rSub_rf (P := P215571)) (rFr_rf (W := []) (P := P215571) (F := F215771)) hfr215833 (fun b hb hn => ⟨nm_n, (nm_c (fun e => hn (e ▸ List.mem_cons_self)) nm_n)⟩)
        change G _ _ _ _ _ _ _ _ _ _ _
        refine G_widen (cs' := 0) (sl' := 0) (by omega) (by omega) ?_
        have hT215838 : RS D I P215571 F215831 γ el := RS_fr hT215778 hfr215837 ht215600 (by decide) ⟨f215828, he215834, x215829⟩
        have hs215839 : rStr γ [] F215572 F215831 := rStr_fr hT215778 hs215779 hfr215837 ht215600 (by decide)
        have lv215840 : rLv γ F215572 F215831 := rLv_fr hT215778 ht215598 lv215780 hfr215837 ht215600 (by decide)
        have kp215841 : F215831 q215573 = F215572 q215573 := (hfr215837 q215573 (RS_m hT215778 htq215573 (by decide)) (nm_c (rn_ty htq215573 ht215600 (by decide)) nm_n)).trans kp215781
        refine G_aload_n 2 dr_cX17_back_61 rfl ?_
        refine Gw_callV (As := []) (gV_ok D I) (cp_215516_Row_usesB l hl0 D I P215571 F215831 q215574 p215629 p215630 p215631 p215632 p215633 p215634 p215635 hm215627 he215836 bp215629 bp215630 bp215633 bp215634 bp215635) dr_cX17_back_62 ⟨wr_10_196, wr_1_39, wr_10_199, by decide, rfl, (Nat.le_of_ble_eq_true rfl), (Nat.le_of_ble_eq_true rfl)⟩ wr_10_197 wr_10_198 hm215627 he215836 rfl (show 0 + 0 ≤ 0 by first | omega | decide) (show 0 + 0 ≤ 0 by first | omega | decide) (Nat.le_of_ble_eq_true rfl) (fun r215845 w215846 dc215842 ds215843 hp215844 => ?_) (fun _ _ _ _ _ z => z.elim)
        obtain ⟨o215847, rfl, rfl, hdc, hds, bo215847, x215848⟩ := hp215844
        change G _ _ _ _ _ _ _ (.int o215847 :: _) _ _ _
        refine G_widen (cs' := 0) (sl' := 0) (by omega) (by omega) ?_
        refine G_if_eq 79 dr_cX17_back_65 (by decide +kernel) (fun hc215849 => ?_) (fun hc215849 => ?_)
        · have r215850 : o215847.toInt = 0 := gj_eq hc215849 (show Int32.toInt 0 = 0 by decide)
          have bo215847' : gB o215847 0 0 := ⟨by omega, by omega⟩
          exact G_vretA dr_cX17_back_79 rfl (Nat.le_of_ble_eq_true rfl) (Nat.le_of_ble_eq_true rfl) ⟨F215831, rfl, rfl, hT215838, hs215839, (Nat.le_of_ble_eq_true rfl), (Nat.le_of_ble_eq_true rfl), (fun k => by rw [cL_of he215834, cL_of he215625, bkS_of he215628, (decide_eq_false (show ¬ (p215575.toInt = 1) by omega))]; exact bk_n true true false (decide_eq_true (show (p215629.toInt ≤ 21) by omega)) (decide_eq_true (show (p215629.toInt ≠ 20 ∧ p215629.toInt ≠ 21 ∧ p215629.toInt ≠ 30 ∧ p215634.toInt = 1) by omega)) (decide_eq_false (show ¬ (0 < p215629.toInt ∧ p215629.toInt < 20 ∧ p215635.toInt = 1) by omega)) (by rw [x215830 k, x215770 k, show o215646.toInt = p215630.toInt by omega]; simp)), lv215840, kp215841⟩
        · have r215851 : o215847.toInt ≠ 0 := gj_neq hc215849 (show Int32.toInt 0 = 0 by decide)
          have bo215847' : gB o215847 1 1 := ⟨by omega, by omega⟩
          refine G_aload_n 1 dr_cX17_back_68 rfl ?_
          refine Gp_get 2 hm215577 he215835 dr_cX17_back_69 (gk_X17 D I) (Nat.le_of_ble_eq_true rfl) wr_7_76 rfl ?_
          refine G_aload_n 2 dr_cX17_back_72 rfl ?_
          refine Gp_get 3 hm215627 he215836 dr_cX17_back_73 (gk_X15 D I) (Nat.le_of_ble_eq_true rfl) wr_9_190 rfl ?_
          refine Gw_callS (As := [.ref (γ 9 2), .int p215632]) (gV_ok D I) (cp_215447_SpillForgeModel_set l hl0 D I P215571 F215831 (γ 9 2) p215632 f215828 hm215624 he215834 ⟨by omega, by omega⟩ x215829) dr_cX17_back_76 ⟨wr_10_189, wr_1_14, wr_10_191, by decide, rfl, (Nat.le_of_ble_eq_true rfl), (Nat.le_of_ble_eq_true rfl)⟩ wr_10_190 (show 0 + 0 ≤ 0 by first | omega | decide) (show 0 + 0 ≤ 0 by first | omega | decide) (Nat.le_of_ble_eq_true rfl) (fun r215855 w215856 dc215852 ds215853 hp215854 => ?_) (fun _ _ _ _ _ z => z.elim)
          obtain ⟨F215860, f215857, rfl, rfl, hfr215862, he215863, hdc, hds, x215858, x215859⟩ := hp215854
          have he215864 : F215860 q215573 = .inr (22, [.ref (γ 9 0), .ref (γ 9 1), .ref (γ 9 2), .ref (γ 9 3), .ref (γ 9 4), .ref (γ 9 5), .ref (γ 9 6), .ref (γ 9 7), .ref (γ 9 8), .int p215581, .int p215582, .int p215583, .int p215584, .int p215585, .int p215586, .ref (γ 9 15), .ref (γ 9 16), .ref (γ 9 17), .ref (γ 9 18), .ref (γ 9 19), .ref (γ 9 20), .ref (γ 9 21), .ref (γ 9 22), .int p215587, .int p215588, .int p215589, .int p215590, .int p215591, .ref q215579, .ref (γ 9 29), .int p215592, .ref (γ 9 31), .int p215593, .int p215594, .int p215595, .ref q215580]) := (hfr215862 q215573 hm215577 (nm_c (rn_oa he215835 he215834) nm_n)).trans he215835
          have he215865 : F215860 q215574 = .inr (20, [.int p215629, .int p215630, .int p215631, .int p215632, .int p215633, .int p215634, .int p215635]) := (hfr215862 q215574 hm215627 (nm_c (rn_oa he215836 he215834) nm_n)).trans he215836
          have hfr215866 : rFr [(γ 9 2)] P215571 F215831 F215860 := rFr_call (rSub_rf (P := P215571)) (rFr_rf (W := []) (P := P215571) (F := F215831)) hfr215862 (fun b hb hn => ⟨nm_n, (nm_c (fun e => hn (e ▸ List.mem_cons_self)) nm_n)⟩)
          change G _ _ _ _ _ _ _ _ _ _ _
          refine G_widen (cs' := 0) (sl' := 0) (by omega) (by omega) ?_
          have hT215867 : RS D I P215571 F215860 γ el := RS_fr hT215838 hfr215866 ht215600 (by decide) ⟨f215857, he215863, x215858⟩
          have hs215868 : rStr γ [] F215572 F215860 := rStr_fr hT215838 hs215839 hfr215866 ht215600 (by decide)
          have lv215869 : rLv γ F215572 F215860 := rLv_fr hT215838 ht215598 lv215840 hfr215866 ht215600 (by decide)
          have kp215870 : F215860 q215573 = F215572 q215573 := (hfr215866 q215573 (RS_m hT215838 htq215573 (by decide)) (nm_c (rn_ty htq215573 ht215600 (by decide)) nm_n)).trans kp215841
          exact G_vretA dr_cX17_back_79 rfl (Nat.le_of_ble_eq_true rfl) (Nat.le_of_ble_eq_true rfl) ⟨F215860, rfl, rfl, hT215867, hs215868, (Nat.le_of_ble_eq_true rfl), (Nat.le_of_ble_eq_true rfl), (fun k => by rw [cL_of he215863, cL_of he215625, bkS_of he215628, (decide_eq_false (show ¬ (p215575.toInt = 1) by omega))]; exact bk_n true true true (decide_eq_true (show (p215629.toInt ≤ 21) by omega)) (decide_eq_true (show (p215629.toInt ≠ 20 ∧ p215629.toInt ≠ 21 ∧ p215629.toInt ≠ 30 ∧ p215634.toInt = 1) by omega)) (decide_eq_true (show (0 < p215629.toInt ∧ p215629.toInt < 20 ∧ p215635.toInt = 1) by omega)) (by rw [x215859 k, x215830 k, x215770 k, show o215646.toInt = p215630.toInt by omega]; simp)), lv215869, kp215870⟩
    · have r215871 : p215575.toInt ≠ 0 := gj_neq hc215782 (show Int32.toInt 0 = 0 by decide)
      have bp215575' : gB p215575 1 1 := ⟨by omega, by omega⟩
      refine G_aload_n 2 dr_cX17_back_22 rfl ?_
      refine Gp_get 0 hm215627 he215776 dr_cX17_back_23 (gk_X15 D I) (Nat.le_of_ble_eq_true rfl) wr_9_177 rfl ?_
      refine G_bipush 21 dr_cX17_back_26 (by decide +kernel) ?_
      refine G_icmp_ne 42 dr_cX17_back_28 (by decide +kernel) (fun hc215872 => ?_) (fun hc215872 => ?_)
      · have r215873 : p215629.toInt ≠ 21 := gj_neq hc215872 (show Int32.toInt 21 = 21 by decide)
        exact G_vretA dr_cX17_back_42 rfl (Nat.le_of_ble_eq_true rfl) (Nat.le_of_ble_eq_true rfl) ⟨F215771, rfl, rfl, hT215778, hs215779, (Nat.le_of_ble_eq_true rfl), (Nat.le_of_ble_eq_true rfl), (fun k => by rw [cL_of he215774, cL_of he215625, bkS_of he215628, (decide_eq_true (show (p215575.toInt = 1) by omega))]; exact bk_s true false (decide_eq_true (show (p215629.toInt = 23) by omega)) (decide_eq_false (show ¬ (p215629.toInt = 21) by omega)) (by rw [x215770 k, show o215646.toInt = p215633.toInt by omega]; simp)), lv215780, kp215781⟩
      · have r215874 : p215629.toInt = 21 := gj_eq hc215872 (show Int32.toInt 21 = 21 by decide)
        have bp215629' : gB p215629 21 21 := ⟨by omega, by omega⟩
        refine G_aload_n 1 dr_cX17_back_31 rfl ?_
        refine Gp_get 2 hm215577 he215775 dr_cX17_back_32 (gk_X17 D I) (Nat.le_of_ble_eq_true rfl) wr_7_76 rfl ?_
        refine G_aload_n 2 dr_cX17_back_35 rfl ?_
        refine Gp_get 4 hm215627 he215776 dr_cX17_back_36 (gk_X15 D I) (Nat.le_of_ble_eq_true rfl) wr_9_193 rfl ?_
        refine Gw_callS (As := [.ref (γ 9 2), .int p215633]) (gV_ok D I) (cp_215447_SpillForgeModel_set l hl0 D I P215571 F215771 (γ 9 2) p215633 f215768 hm215624 he215774 bp215633 x215769) dr_cX17_back_39 ⟨wr_10_189, wr_1_14, wr_10_191, by decide, rfl, (Nat.le_of_ble_eq_true rfl), (Nat.le_of_ble_eq_true rfl)⟩ wr_10_190 (show 0 + 0 ≤ 0 by first | omega | decide) (show 0 + 0 ≤ 0 by first | omega | decide) (Nat.le_of_ble_eq_true rfl) (fun r215878 w215879 dc215875 ds215876 hp215877 => ?_) (fun _ _ _ _ _ z => z.elim)
        obtain ⟨F215883, f215880, rfl, rfl, hfr215885, he215886, hdc, hds, x215881, x215882⟩ := hp215877
        have he215887 : F215883 q215573 = .inr (22, [.ref (γ 9 0), .ref (γ 9 1), .ref (γ 9 2), .ref (γ 9 3), .ref (γ 9 4), .ref (γ 9 5), .ref (γ 9 6), .ref (γ 9 7), .ref (γ 9 8), .int p215581, .int p215582, .int p215583, .int p215584, .int p215585, .int p215586, .ref (γ 9 15), .ref (γ 9 16), .ref (γ 9 17), .ref (γ 9 18), .ref (γ 9 19), .ref (γ 9 20), .ref (γ 9 21), .ref (γ 9 22), .int p215587, .int p215588, .int p215589, .int p215590, .int p215591, .ref q215579, .ref (γ 9 29), .int p215592, .ref (γ 9 31), .int p215593, .int p215594, .int p215595, .ref q215580]) := (hfr215885 q215573 hm215577 (nm_c (rn_oa he215775 he215774) nm_n)).trans he215775
        have he215888 : F215883 q215574 = .inr (20, [.int p215629, .int p215630, .int p215631, .int p215632, .int p215633, .int p215634, .int p215635]) := (hfr215885 q215574 hm215627 (nm_c (rn_oa he215776 he215774) nm_n)).trans he215776
        have hfr215889 : rFr [(γ 9 2)] P215571 F215771 F215883 := rFr_call (rSub_rf (P := P215571)) (rFr_rf (W := []) (P := P215571) (F := F215771)) hfr215885 (fun b hb hn => ⟨nm_n, (nm_c (fun e => hn (e ▸ List.mem_cons_self)) nm_n)⟩)
        change G _ _ _ _ _ _ _ _ _ _ _
        refine G_widen (cs' := 0) (sl' := 0) (by omega) (by omega) ?_
        have hT215890 : RS D I P215571 F215883 γ el := RS_fr hT215778 hfr215889 ht215600 (by decide) ⟨f215880, he215886, x215881⟩
        have hs215891 : rStr γ [] F215572 F215883 := rStr_fr hT215778 hs215779 hfr215889 ht215600 (by decide)
        have lv215892 : rLv γ F215572 F215883 := rLv_fr hT215778 ht215598 lv215780 hfr215889 ht215600 (by decide)
        have kp215893 : F215883 q215573 = F215572 q215573 := (hfr215889 q215573 (RS_m hT215778 htq215573 (by decide)) (nm_c (rn_ty htq215573 ht215600 (by decide)) nm_n)).trans kp215781
        exact G_vretA dr_cX17_back_42 rfl (Nat.le_of_ble_eq_true rfl) (Nat.le_of_ble_eq_true rfl) ⟨F215883, rfl, rfl, hT215890, hs215891, (Nat.le_of_ble_eq_true rfl), (Nat.le_of_ble_eq_true rfl), (fun k => by rw [cL_of he215886, cL_of he215625, bkS_of he215628, (decide_eq_true (show (p215575.toInt = 1) by omega))]; exact bk_s true true (decide_eq_true (show (p215629.toInt = 23) by omega)) (decide_eq_true (show (p215629.toInt = 21) by omega)) (by rw [x215882 k, x215770 k, show o215646.toInt = p215633.toInt by omega]; simp)), lv215892, kp215893⟩
