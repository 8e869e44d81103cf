abbrev ky_215394_SpillForgeModel_set : gKey := (cX17_set, 2, "SpillForgeModel", none, [], "set", fun _ _ => True)
def pp_215394_SpillForgeModel_set (D : va_G) (I : FieldType → ClassId) (P215388 : List Nat) (F215389 : Nat → va_E) (q215390 : Nat) (p215391 : Int32) (f215392 : Nat → Int64) : Option Value → va_W → Nat → Nat → Prop := fun r w dc ds => ∃ (F215407 : Nat → va_E) (f215405 : Nat → Int64), r = none ∧ w = va_pl P215388 F215407 ∧ rFr [q215390] P215388 F215389 F215407 ∧ F215407 q215390 = .inl (I .long, 32, .inr (.inl f215405)) ∧ dc ≤ 0 ∧ ds ≤ 0 ∧ lb_W f215405 (32) (32) (2000) ∧ (∀ k : Nat, rbt f215405 k = (rbt f215392 k || decide ((k : Int) = p215391.toInt)))
set_option maxRecDepth 100000 in
set_option maxHeartbeats 4000000 in
theorem cp_215394_SpillForgeModel_set (l : Launch) (hl0 : l.stackTraces = false) (D : va_G) (I : FieldType → ClassId) (P215388 : List Nat) (F215389 : Nat → va_E) (q215390 : Nat) (p215391 : Int32) (f215392 : Nat → Int64) (hmq215390 : q215390 ∈ P215388) (heq215390 : F215389 q215390 = .inl (I .long, 32, .inr (.inl f215392))) (bp215391 : gB p215391 0 1999) (x215393 : lb_W f215392 (32) (32) (2000)) : CtA (gV D I) l yX17_set cX17_set 2 none 0 0 0 0 [.ref q215390, .int p215391] (va_pl P215388 F215389) (pp_215394_SpillForgeModel_set D I P215388 F215389 q215390 p215391 f215392) gNA := by
  refine CtA_of hl0 (by decide) (Nat.le_of_ble_eq_true rfl) ?_
  refine G_aload_n 0 dr_cX17_set_0 rfl ?_
  refine G_iload_n 1 dr_cX17_set_1 rfl ?_
  refine G_bipush 6 dr_cX17_set_2 (by decide +kernel) ?_
  refine G_ishr dr_cX17_set_4 (G_nam fun z215395 hz215395 => ?_)
  have ez215395 : z215395.toInt = p215391.toInt / 64 := gI_shr (k := 6) hz215395 (by decide)
  have bz215395 : gB z215395 0 31 := ⟨by omega, by omega⟩
  refine G_dup2_11 dr_cX17_set_5 rfl rfl ?_
  refine Gp_lald 2 hmq215390 heq215390 dr_cX17_set_6 rfl (gB_in bz215395 (by decide) (by decide)) (G_namL fun u215396 hu215396 => ?_)
  have qu215396 : lb_Q u215396 (2000 - 64 * z215395.toInt) := lb_Wld hu215396 x215393 (by omega) (by omega) (lb_Mod0 (by omega) (by omega))
  refine G_lconst 1 dr_cX17_set_7 rfl ?_
  refine G_iload_n 1 dr_cX17_set_8 rfl ?_
  refine G_lshl dr_cX17_set_9 (G_namL fun u215397 hu215397 => ?_)
  have qu215397 : lb_Q u215397 (p215391.toInt % 64 + 1) := lb_Qshl hu215397 (by omega)
  refine G_lor dr_cX17_set_10 (G_namL fun u215398 hu215398 => ?_)
  have qu215398 : lb_Q u215398 (2000 - 64 * z215395.toInt) := lb_Qor hu215398 qu215396 (lb_Qw qu215397 (by omega))
  refine Gp_last 2 hmq215390 heq215390 dr_cX17_set_11 rfl (gB_in bz215395 (by decide) (by decide)) (fun F215399 e215400 n215401 => ?_)
  obtain ⟨f215402, hf215402⟩ : ∃ z, z = vp_updL f215392 z215395.toNatClampNeg u215398 := ⟨_, rfl⟩
  rw [← hf215402] at e215400
  have he215403 : F215399 q215390 = .inl (I .long, 32, .inr (.inl f215402)) := e215400
  have hfr215404 : rFr [q215390] P215388 F215389 F215399 := rFr_put (rFr_rf (W := []) (P := P215388) (F := F215389)) n215401
  have wf215402 : lb_W f215402 (32) (32) (2000) := lb_Wst hf215402 x215393 (by omega) (lb_Mod0 (by omega) (by omega)) qu215398
  exact G_vretA dr_cX17_set_12 rfl (Nat.le_of_ble_eq_true rfl) (Nat.le_of_ble_eq_true rfl) ⟨F215399, f215402, rfl, rfl, hfr215404, he215403, (Nat.le_of_ble_eq_true rfl), (Nat.le_of_ble_eq_true rfl), wf215402, (rbt_set (by assumption) (by assumption) (by assumption) (by assumption) hf215402 (by omega))⟩
abbrev ky_215414_SpillForgeModel_clear : gKey := (cX17_clear, 2, "SpillForgeModel", none, [], "clear", fun _ _ => True)
def pp_215414_SpillForgeModel_clear (D : va_G) (I : FieldType → ClassId) (P215408 : List Nat) (F215409 : Nat → va_E) (q215410 : Nat) (p215411 : Int32) (f215412 : Nat → Int64) : Option Value → va_W → Nat → Nat → Prop := fun r w dc ds => ∃ (F215428 : Nat → va_E) (f215426 : Nat → Int64), r = none ∧ w = va_pl P215408 F215428 ∧ rFr [q215410] P215408 F215409 F215428 ∧ F215428 q215410 = .inl (I .long, 32, .inr (.inl f215426)) ∧ dc ≤ 0 ∧ ds ≤ 0 ∧ lb_W f215426 (32) (32) (2000) ∧ (∀ k : Nat, rbt f215426 k = (rbt f215412 k && ! decide ((k : Int) = p215411.toInt)))
set_option maxRecDepth 100000 in
set_option maxHeartbeats 4000000 in
theorem cp_215414_SpillForgeModel_clear (l : Launch) (hl0 : l.stackTraces = false) (D : va_G) (I : FieldType → ClassId) (P215408 : List Nat) (F215409 : Nat → va_E) (q215410 : Nat) (p215411 : Int32) (f215412 : Nat → Int64) (hmq215410 : q215410 ∈ P215408) (heq215410 : F215409 q215410 = .inl (I .long, 32, .inr (.inl f215412))) (bp215411 : gB p215411 0 1999) (x215413 : lb_W f215412 (32) (32) (2000)) : CtA (gV D I) l yX17_clear cX17_clear 2 none 0 0 0 0 [.ref q215410, .int p215411] (va_pl P215408 F215409) (pp_215414_SpillForgeModel_clear D I P215408 F215409 q215410 p215411 f215412) gNA := by
  refine CtA_of hl0 (by decide) (Nat.le_of_ble_eq_true rfl) ?_
  refine G_aload_n 0 dr_cX17_clear_0 rfl ?_
  refine G_iload_n 1 dr_cX17_clear_1 rfl ?_
  refine G_bipush 6 dr_cX17_clear_2 (by decide +kernel) ?_
  refine G_ishr dr_cX17_clear_4 (G_nam fun z215415 hz215415 => ?_)
  have ez215415 : z215415.toInt = p215411.toInt / 64 := gI_shr (k := 6) hz215415 (by decide)
  have bz215415 : gB z215415 0 31 := ⟨by omega, by omega⟩
  refine G_dup2_11 dr_cX17_clear_5 rfl rfl ?_
  refine Gp_lald 2 hmq215410 heq215410 dr_cX17_clear_6 rfl (gB_in bz215415 (by decide) (by decide)) (G_namL fun u215416 hu215416 => ?_)
  have qu215416 : lb_Q u215416 (2000 - 64 * z215415.toInt) := lb_Wld hu215416 x215413 (by omega) (by omega) (lb_Mod0 (by omega) (by omega))
  refine G_lconst 1 dr_cX17_clear_7 rfl ?_
  refine G_iload_n 1 dr_cX17_clear_8 rfl ?_
  refine G_lshl dr_cX17_clear_9 (G_namL fun u215417 hu215417 => ?_)
  have qu215417 : lb_Q u215417 (p215411.toInt % 64 + 1) := lb_Qshl hu215417 (by omega)
  refine G_ldc2 (-1) dr_cX17_clear_10 wr_10_184 ?_
  refine G_lxor dr_cX17_clear_13 (G_namL fun u215418 hu215418 => ?_)
  refine G_land dr_cX17_clear_14 (G_namL fun u215419 hu215419 => ?_)
  have qu215419 : lb_Q u215419 (2000 - 64 * z215415.toInt) := lb_QandL hu215419 qu215416
  refine Gp_last 2 hmq215410 heq215410 dr_cX17_clear_15 rfl (gB_in bz215415 (by decide) (by decide)) (fun F215420 e215421 n215422 => ?_)
  obtain ⟨f215423, hf215423⟩ : ∃ z, z = vp_updL f215412 z215415.toNatClampNeg u215419 := ⟨_, rfl⟩
  rw [← hf215423] at e215421
  have he215424 : F215420 q215410 = .inl (I .long, 32, .inr (.inl f215423)) := e215421
  have hfr215425 : rFr [q215410] P215408 F215409 F215420 := rFr_put (rFr_rf (W := []) (P := P215408) (F := F215409)) n215422
  have wf215423 : lb_W f215423 (32) (32) (2000) := lb_Wst hf215423 x215413 (by omega) (lb_Mod0 (by omega) (by omega)) qu215419
  exact G_vretA dr_cX17_clear_16 rfl (Nat.le_of_ble_eq_true rfl) (Nat.le_of_ble_eq_true rfl) ⟨F215420, f215423, rfl, rfl, hfr215425, he215424, (Nat.le_of_ble_eq_true rfl), (Nat.le_of_ble_eq_true rfl), wf215423, (rbt_clr (by assumption) (by assumption) (by assumption) (by assumption) (by assumption) hf215423 (by omega))⟩
abbrev ky_215439_Row_usesA : gKey := (cX15_usesA, 1, "SpillForgeModel$Row", (some FieldType.boolean), [], "usesA", fun _ _ => True)
def pp_215439_Row_usesA (D : va_G) (I : FieldType → ClassId) (P215429 : List Nat) (F215430 : Nat → va_E) (q215431 : Nat) (p215432 : Int32) (p215433 : Int32) (p215434 : Int32) (p215435 : Int32) (p215436 : Int32) (p215437 : Int32) (p215438 : Int32) : Option Value → va_W → Nat → Nat → Prop := fun r w dc ds => ∃ (o215452 : Int32), r = some (.int o215452) ∧ w = va_pl P215429 F215430 ∧ dc ≤ 0 ∧ ds ≤ 0 ∧ gB o215452 0 1 ∧ ((o215452.toInt = 1 ∧ p215432.toInt ≠ 20 ∧ p215432.toInt ≠ 21 ∧ p215432.toInt ≠ 30 ∧ p215437.toInt = 1) ∨ (o215452.toInt = 0 ∧ (p215432.toInt = 20 ∨ p215432.toInt = 21 ∨ p215432.toInt = 30 ∨ p215437.toInt = 0)))
set_option maxRecDepth 100000 in
set_option maxHeartbeats 4000000 in
theorem cp_215439_Row_usesA (l : Launch) (hl0 : l.stackTraces = false) (D : va_G) (I : FieldType → ClassId) (P215429 : List Nat) (F215430 : Nat → va_E) (q215431 : Nat) (p215432 : Int32) (p215433 : Int32) (p215434 : Int32) (p215435 : Int32) (p215436 : Int32) (p215437 : Int32) (p215438 : Int32) (hmq215431 : q215431 ∈ P215429) (heq215431 : F215430 q215431 = .inr (20, [.int p215432, .int p215433, .int p215434, .int p215435, .int p215436, .int p215437, .int p215438])) (bp215432 : gB p215432 0 32) (bp215433 : gB p215433 0 1999) (bp215436 : gB p215436 0 1999) (bp215437 : gB p215437 0 1) (bp215438 : gB p215438 0 1) : CtA (gV D I) l yX15_usesA cX15_usesA 1 (some FieldType.boolean) 0 0 0 0 [.ref q215431] (va_pl P215429 F215430) (pp_215439_Row_usesA D I P215429 F215430 q215431 p215432 p215433 p215434 p215435 p215436 p215437 p215438) gNA := by
  refine CtA_of hl0 (by decide) (Nat.le_of_ble_eq_true rfl) ?_
  have bp215434 := gB_any p215434
  have bp215435 := gB_any p215435
  refine G_aload_n 0 dr_cX15_usesA_0 rfl ?_
  refine Gp_get 0 hmq215431 heq215431 dr_cX15_usesA_1 (gk_X15 D I) (Nat.le_of_ble_eq_true rfl) wr_9_171 rfl ?_
  refine G_bipush 20 dr_cX15_usesA_4 (by decide +kernel) ?_
  refine G_icmp_eq 38 dr_cX15_usesA_6 (by decide +kernel) (fun hc215440 => ?_) (fun hc215440 => ?_)
  · have r215441 : p215432.toInt = 20 := gj_eq hc215440 (show Int32.toInt 20 = 20 by decide)
    have bp215432' : gB p215432 20 20 := ⟨by omega, by omega⟩
    refine G_iconst 0 dr_cX15_usesA_38 (by decide +kernel) ?_
    exact G_zretA FieldType.boolean dr_cX15_usesA_39 rfl rfl (Nat.le_of_ble_eq_true rfl) (Nat.le_of_ble_eq_true rfl) ⟨0, rfl, rfl, (Nat.le_of_ble_eq_true rfl), (Nat.le_of_ble_eq_true rfl), (gB_w (gBl (show Int32.toInt 0 = 0 by decide)) (by decide) (by decide)), (by have qa0 : Int32.toInt 0 = 0 := (by decide); omega)⟩
  · have r215442 : p215432.toInt ≠ 20 := gj_neq hc215440 (show Int32.toInt 20 = 20 by decide)
    refine G_aload_n 0 dr_cX15_usesA_9 rfl ?_
    refine Gp_get 0 hmq215431 heq215431 dr_cX15_usesA_10 (gk_X15 D I) (Nat.le_of_ble_eq_true rfl) wr_9_171 rfl ?_
    refine G_bipush 21 dr_cX15_usesA_13 (by decide +kernel) ?_
    refine G_icmp_eq 38 dr_cX15_usesA_15 (by decide +kernel) (fun hc215443 => ?_) (fun hc215443 => ?_)
    · have r215444 : p215432.toInt = 21 := gj_eq hc215443 (show Int32.toInt 21 = 21 by decide)
      have bp215432' : gB p215432 21 21 := ⟨by omega, by omega⟩
      refine G_iconst 0 dr_cX15_usesA_38 (by decide +kernel) ?_
      exact G_zretA FieldType.boolean dr_cX15_usesA_39 rfl rfl (Nat.le_of_ble_eq_true rfl) (Nat.le_of_ble_eq_true rfl) ⟨0, rfl, rfl, (Nat.le_of_ble_eq_true rfl), (Nat.le_of_ble_eq_true rfl), (gB_w (gBl (show Int32.toInt 0 = 0 by decide)) (by decide) (by decide)), (by have qa0 : Int32.toInt 0 = 0 := (by decide); omega)⟩
    · have r215445 : p215432.toInt ≠ 21 := gj_neq hc215443 (show Int32.toInt 21 = 21 by decide)
      refine G_aload_n 0 dr_cX15_usesA_18 rfl ?_
      refine Gp_get 0 hmq215431 heq215431 dr_cX15_usesA_19 (gk_X15 D I) (Nat.le_of_ble_eq_true rfl) wr_9_171 rfl ?_
      refine G_bipush 30 dr_cX15_usesA_22 (by decide +kernel) ?_
      refine G_icmp_eq 38 dr_cX15_usesA_24 (by decide +kernel) (fun hc215446 => ?_) (fun hc215446 => ?_)
      · have r215447 : p215432.toInt = 30 := gj_eq hc215446 (show Int32.toInt 30 = 30 by decide)
        have bp215432' : gB p215432 30 30 := ⟨by omega, by omega⟩
        refine G_iconst 0 dr_cX15_usesA_38 (by decide +kernel) ?_
        exact G_zretA FieldType.boolean dr_cX15_usesA_39 rfl rfl (Nat.le_of_ble_eq_true rfl) (Nat.le_of_ble_eq_true rfl) ⟨0, rfl, rfl, (Nat.le_of_ble_eq_true rfl), (Nat.le_of_ble_eq_true rfl), (gB_w (gBl (show Int32.toInt 0 = 0 by decide)) (by decide) (by decide)), (by have qa0 : Int32.toInt 0 = 0 := (by decide); omega)⟩
      · have r215448 : p215432.toInt ≠ 30 := gj_neq hc215446 (show Int32.toInt 30 = 30 by decide)
        refine G_aload_n 0 dr_cX15_usesA_27 rfl ?_
        refine Gp_get 5 hmq215431 heq215431 dr_cX15_usesA_28 (gk_X15 D I) (Nat.le_of_ble_eq_true rfl) wr_9_191 rfl ?_
        refine G_if_eq 38 dr_cX15_usesA_31 (by decide +kernel) (fun hc215449 => ?_) (fun hc215449 => ?_)
        · have r215450 : p215437.toInt = 0 := gj_eq hc215449 (show Int32.toInt 0 = 0 by decide)
          have bp215437' : gB p215437 0 0 := ⟨by omega, by omega⟩
          refine G_iconst 0 dr_cX15_usesA_38 (by decide +kernel) ?_
          exact G_zretA FieldType.boolean dr_cX15_usesA_39 rfl rfl (Nat.le_of_ble_eq_true rfl) (Nat.le_of_ble_eq_true rfl) ⟨0, rfl, rfl, (Nat.le_of_ble_eq_true rfl), (Nat.le_of_ble_eq_true rfl), (gB_w (gBl (show Int32.toInt 0 = 0 by decide)) (by decide) (by decide)), (by have qa0 : Int32.toInt 0 = 0 := (by decide); omega)⟩
        · have r215451 : p215437.toInt ≠ 0 := gj_neq hc215449 (show Int32.toInt 0 = 0 by decide)
          have bp215437' : gB p215437 1 1 := ⟨by omega, by omega⟩
          refine G_iconst 1 dr_cX15_usesA_34 (by decide +kernel) ?_
          refine G_goto 39 dr_cX15_usesA_35 (by decide +kernel) ?_
          exact G_zretA FieldType.boolean dr_cX15_usesA_39 rfl rfl (Nat.le_of_ble_eq_true rfl) (Nat.le_of_ble_eq_true rfl) ⟨1, rfl, rfl, (Nat.le_of_ble_eq_true rfl), (Nat.le_of_ble_eq_true rfl), (gB_w (gBl (show Int32.toInt 1 = 1 by decide)) (by decide) (by decide)), (by have qa0 : Int32.toInt 1 = 1 := (by decide); omega)⟩
abbrev ky_215463_Row_usesB : gKey := (cX15_usesB, 1, "SpillForgeModel$Row", (some FieldType.boolean), [], "usesB", fun _ _ => True)
def pp_215463_Row_usesB (D : va_G) (I : FieldType → ClassId) (P215453 : List Nat) (F215454 : Nat → va_E) (q215455 : Nat) (p215456 : Int32) (p215457 : Int32) (p215458 : Int32) (p215459 : Int32) (p215460 : Int32) (p215461 : Int32) (p215462 : Int32) : Option Value → va_W → Nat → Nat → Prop := fun r w dc ds => ∃ (o215473 : Int32), r = some (.int o215473) ∧ w = va_pl P215453 F215454 ∧ dc ≤ 0 ∧ ds ≤ 0 ∧ gB o215473 0 1 ∧ ((o215473.toInt = 1 ∧ 0 < p215456.toInt ∧ p215456.toInt < 20 ∧ p215462.toInt = 1) ∨ (o215473.toInt = 0 ∧ (p215456.toInt ≤ 0 ∨ 20 ≤ p215456.toInt ∨ p215462.toInt = 0)))
set_option maxRecDepth 100000 in
set_option maxHeartbeats 4000000 in
theorem cp_215463_Row_usesB (l : Launch) (hl0 : l.stackTraces = false) (D : va_G) (I : FieldType → ClassId) (P215453 : List Nat) (F215454 : Nat → va_E) (q215455 : Nat) (p215456 : Int32) (p215457 : Int32) (p215458 : Int32) (p215459 : Int32) (p215460 : Int32) (p215461 : Int32) (p215462 : Int32) (hmq215455 : q215455 ∈ P215453) (heq215455 : F215454 q215455 = .inr (20, [.int p215456, .int p215457, .int p215458, .int p215459, .int p215460, .int p215461, .int p215462])) (bp215456 : gB p215456 0 32) (bp215457 : gB p215457 0 1999) (bp215460 : gB p215460 0 1999) (bp215461 : gB p215461 0 1) (bp215462 : gB p215462 0 1) : CtA (gV D I) l yX15_usesB cX15_usesB 1 (some FieldType.boolean) 0 0 0 0 [.ref q215455] (va_pl P215453 F215454) (pp_215463_Row_usesB D I P215453 F215454 q215455 p215456 p215457 p215458 p215459 p215460 p215461 p215462) gNA := by
  refine CtA_of hl0 (by decide) (Nat.le_of_ble_eq_true rfl) ?_
  have bp215458 := gB_any p215458
  have bp215459 := gB_any p215459
  refine G_aload_n 0 dr_cX15_usesB_0 rfl ?_
  refine Gp_get 0 hmq215455 heq215455 dr_cX15_usesB_1 (gk_X15 D I) (Nat.le_of_ble_eq_true rfl) wr_9_171 rfl ?_
  refine G_if_le 27 dr_cX15_usesB_4 (by decide +kernel) (fun hc215464 => ?_) (fun hc215464 => ?_)
  · have r215465 : p215456.toInt ≤ 0 := gj_le hc215464 (show Int32.toInt 0 = 0 by decide)
    have bp215456' : gB p215456 0 0 := ⟨by omega, by omega⟩
    refine G_iconst 0 dr_cX15_usesB_27 (by decide +kernel) ?_
    exact G_zretA FieldType.boolean dr_cX15_usesB_28 rfl rfl (Nat.le_of_ble_eq_true rfl) (Nat.le_of_ble_eq_true rfl) ⟨0, rfl, rfl, (Nat.le_of_ble_eq_true rfl), (Nat.le_of_ble_eq_true rfl), (gB_w (gBl (show Int32.toInt 0 = 0 by decide)) (by decide) (by decide)), (by have qa0 : Int32.toInt 0 = 0 := (by decide); omega)⟩
  · have r215466 : 0 < p215456.toInt := gj_nle hc215464 (show Int32.toInt 0 = 0 by decide)
    have bp215456' : gB p215456 1 32 := ⟨by omega, by omega⟩
    refine G_aload_n 0 dr_cX15_usesB_7 rfl ?_
    refine Gp_get 0 hmq215455 heq215455 dr_cX15_usesB_8 (gk_X15 D I) (Nat.le_of_ble_eq_true rfl) wr_9_171 rfl ?_
    refine G_bipush 20 dr_cX15_usesB_11 (by decide +kernel) ?_
    refine G_icmp_ge 27 dr_cX15_usesB_13 (by decide +kernel) (fun hc215467 => ?_) (fun hc215467 => ?_)
    · have r215468 : 20 ≤ p215456.toInt := gj_leL hc215467 (show Int32.toInt 20 = 20 by decide)
      have bp215456'' : gB p215456 20 32 := ⟨by omega, by omega⟩
      refine G_iconst 0 dr_cX15_usesB_27 (by decide +kernel) ?_
      exact G_zretA FieldType.boolean dr_cX15_usesB_28 rfl rfl (Nat.le_of_ble_eq_true rfl) (Nat.le_of_ble_eq_true rfl) ⟨0, rfl, rfl, (Nat.le_of_ble_eq_true rfl), (Nat.le_of_ble_eq_true rfl), (gB_w (gBl (show Int32.toInt 0 = 0 by decide)) (by decide) (by decide)), (by have qa0 : Int32.toInt 0 = 0 := (by decide); omega)⟩
    · have r215469 : p215456.toInt < 20 := gj_nleL hc215467 (show Int32.toInt 20 = 20 by decide)
      have bp215456'' : gB p215456 1 19 := ⟨by omega, by omega⟩
      refine G_aload_n 0 dr_cX15_usesB_16 rfl ?_
      refine Gp_get 6 hmq215455 heq215455 dr_cX15_usesB_17 (gk_X15 D I) (Nat.le_of_ble_eq_true rfl) wr_9_195 rfl ?_
      refine G_if_eq 27 dr_cX15_usesB_20 (by decide +kernel) (fun hc215470 => ?_) (fun hc215470 => ?_)
      · have r215471 : p215462.toInt = 0 := gj_eq hc215470 (show Int32.toInt 0 = 0 by decide)
        have bp215462' : gB p215462 0 0 := ⟨by omega, by omega⟩
        refine G_iconst 0 dr_cX15_usesB_27 (by decide +kernel) ?_
        exact G_zretA FieldType.boolean dr_cX15_usesB_28 rfl rfl (Nat.le_of_ble_eq_true rfl) (Nat.le_of_ble_eq_true rfl) ⟨0, rfl, rfl, (Nat.le_of_ble_eq_true rfl), (Nat.le_of_ble_eq_true rfl), (gB_w (gBl (show Int32.toInt 0 = 0 by decide)) (by decide) (by decide)), (by have qa0 : Int32.toInt 0 = 0 := (by decide); omega)⟩
      · have r215472 : p215462.toInt ≠ 0 := gj_neq hc215470 (show Int32.toInt 0 = 0 by decide)
        have bp215462' : gB p215462 1 1 := ⟨by omega, by omega⟩
        refine G_iconst 1 dr_cX15_usesB_23 (by decide +kernel) ?_
        refine G_goto 28 dr_cX15_usesB_24 (by decide +kernel) ?_
        exact G_zretA FieldType.boolean dr_cX15_usesB_28 rfl rfl (Nat.le_of_ble_eq_true rfl) (Nat.le_of_ble_eq_true rfl) ⟨1, rfl, rfl, (Nat.le_of_ble_eq_true rfl), (Nat.le_of_ble_eq_true rfl), (gB_w (gBl (show Int32.toInt 1 = 1 by decide)) (by decide) (by decide)), (by have qa0 : Int32.toInt 1 = 1 := (by decide); omega)⟩
abbrev ky_215484_Row_sets : gKey := (cX15_sets, 1, "SpillForgeModel$Row", (some FieldType.boolean), [], "sets", fun _ _ => True)
def pp_215484_Row_sets (D : va_G) (I : FieldType → ClassId) (P215474 : List Nat) (F215475 : Nat → va_E) (q215476 : Nat) (p215477 : Int32) (p215478 : Int32) (p215479 : Int32) (p215480 : Int32) (p215481 : Int32) (p215482 : Int32) (p215483 : Int32) : Option Value → va_W → Nat → Nat → Prop := fun r w dc ds => ∃ (o215488 : Int32), r = some (.int o215488) ∧ w = va_pl P215474 F215475 ∧ dc ≤ 0 ∧ ds ≤ 0 ∧ gB o215488 0 1 ∧ ((o215488.toInt = 1 ∧ p215477.toInt ≤ 21) ∨ (o215488.toInt = 0 ∧ 21 < p215477.toInt))
set_option maxRecDepth 100000 in
set_option maxHeartbeats 4000000 in
theorem cp_215484_Row_sets (l : Launch) (hl0 : l.stackTraces = false) (D : va_G) (I : FieldType → ClassId) (P215474 : List Nat) (F215475 : Nat → va_E) (q215476 : Nat) (p215477 : Int32) (p215478 : Int32) (p215479 : Int32) (p215480 : Int32) (p215481 : Int32) (p215482 : Int32) (p215483 : Int32) (hmq215476 : q215476 ∈ P215474) (heq215476 : F215475 q215476 = .inr (20, [.int p215477, .int p215478, .int p215479, .int p215480, .int p215481, .int p215482, .int p215483])) (bp215477 : gB p215477 0 32) (bp215478 : gB p215478 0 1999) (bp215481 : gB p215481 0 1999) (bp215482 : gB p215482 0 1) (bp215483 : gB p215483 0 1) : CtA (gV D I) l yX15_sets cX15_sets 1 (some FieldType.boolean) 0 0 0 0 [.ref q215476] (va_pl P215474 F215475) (pp_215484_Row_sets D I P215474 F215475 q215476 p215477 p215478 p215479 p215480 p215481 p215482 p215483) gNA := by
  refine CtA_of hl0 (by decide) (Nat.le_of_ble_eq_true rfl) ?_
  have bp215479 := gB_any p215479
  have bp215480 := gB_any p215480
  refine G_aload_n 0 dr_cX15_sets_0 rfl ?_
  refine Gp_get 0 hmq215476 heq215476 dr_cX15_sets_1 (gk_X15 D I) (Nat.le_of_ble_eq_true rfl) wr_9_171 rfl ?_
  refine G_bipush 21 dr_cX15_sets_4 (by decide +kernel) ?_
  refine G_icmp_gt 13 dr_cX15_sets_6 (by decide +kernel) (fun hc215485 => ?_) (fun hc215485 => ?_)
  · have r215486 : 21 < p215477.toInt := gj_ltL hc215485 (show Int32.toInt 21 = 21 by decide)
    have bp215477' : gB p215477 22 32 := ⟨by omega, by omega⟩
    refine G_iconst 0 dr_cX15_sets_13 (by decide +kernel) ?_
    exact G_zretA FieldType.boolean dr_cX15_sets_14 rfl rfl (Nat.le_of_ble_eq_true rfl) (Nat.le_of_ble_eq_true rfl) ⟨0, rfl, rfl, (Nat.le_of_ble_eq_true rfl), (Nat.le_of_ble_eq_true rfl), (gB_w (gBl (show Int32.toInt 0 = 0 by decide)) (by decide) (by decide)), (by have qa0 : Int32.toInt 0 = 0 := (by decide); omega)⟩
  · have r215487 : p215477.toInt ≤ 21 := gj_nltL hc215485 (show Int32.toInt 21 = 21 by decide)
    have bp215477' : gB p215477 0 21 := ⟨by omega, by omega⟩
    refine G_iconst 1 dr_cX15_sets_9 (by decide +kernel) ?_
    refine G_goto 14 dr_cX15_sets_10 (by decide +kernel) ?_
    exact G_zretA FieldType.boolean dr_cX15_sets_14 rfl rfl (Nat.le_of_ble_eq_true rfl) (Nat.le_of_ble_eq_true rfl) ⟨1, rfl, rfl, (Nat.le_of_ble_eq_true rfl), (Nat.le_of_ble_eq_true rfl), (gB_w (gBl (show Int32.toInt 1 = 1 by decide)) (by decide) (by decide)), (by have qa0 : Int32.toInt 1 = 1 := (by decide); omega)⟩
abbrev ky_215500_SpillForgeModel_setOf : gKey := (cX17_setOf, 2, "SpillForgeModel", (some FieldType.int), [], "setOf", fun _ _ => True)
def pp_215500_SpillForgeModel_setOf (D : va_G) (I : FieldType → ClassId) (P215489 : List Nat) (F215490 : Nat → va_E) (q215491 : Nat) (p215492 : Int32) (p215493 : Int32) (p215494 : Int32) (p215495 : Int32) (p215496 : Int32) (p215497 : Int32) (p215498 : Int32) (p215499 : Int32) : Option Value → va_W → Nat → Nat → Prop := fun r w dc ds => ∃ (o215517 : Int32), r = some (.int o215517) ∧ w = va_pl P215489 F215490 ∧ dc ≤ 0 ∧ ds ≤ 0 ∧ gB o215517 (-1) 1999 ∧ ((p215492.toInt = 0 ∧ p215493.toInt ≤ 21 ∧ o215517.toInt = p215494.toInt) ∨ (p215492.toInt = 0 ∧ 21 < p215493.toInt ∧ o215517.toInt = -1) ∨ (p215492.toInt = 1 ∧ p215493.toInt = 23 ∧ o215517.toInt = p215497.toInt) ∨ (p215492.toInt = 1 ∧ p215493.toInt ≠ 23 ∧ o215517.toInt = -1))
set_option maxRecDepth 100000 in
set_option maxHeartbeats 4000000 in
theorem cp_215500_SpillForgeModel_setOf (l : Launch) (hl0 : l.stackTraces = false) (D : va_G) (I : FieldType → ClassId) (P215489 : List Nat) (F215490 : Nat → va_E) (q215491 : Nat) (p215492 : Int32) (p215493 : Int32) (p215494 : Int32) (p215495 : Int32) (p215496 : Int32) (p215497 : Int32) (p215498 : Int32) (p215499 : Int32) (hmq215491 : q215491 ∈ P215489) (heq215491 : F215490 q215491 = .inr (20, [.int p215493, .int p215494, .int p215495, .int p215496, .int p215497, .int p215498, .int p215499])) (bp215492 : gB p215492 0 1) (bp215493 : gB p215493 0 32) (bp215494 : gB p215494 0 1999) (bp215497 : gB p215497 0 1999) (bp215498 : gB p215498 0 1) (bp215499 : gB p215499 0 1) : CtA (gV D I) l yX17_setOf cX17_setOf 2 (some FieldType.int) 1 20 0 0 [.ref q215491, .int p215492] (va_pl P215489 F215490) (pp_215500_SpillForgeModel_setOf D I P215489 F215490 q215491 p215492 p215493 p215494 p215495 p215496 p215497 p215498 p215499) gNA := by
  refine CtA_of hl0 (by decide) (Nat.le_of_ble_eq_true rfl) ?_
  have bp215495 := gB_any p215495
  have bp215496 := gB_any p215496
  refine G_iload_n 1 dr_cX17_setOf_0 rfl ?_
  refine G_if_eq 24 dr_cX17_setOf_1 (by decide +kernel) (fun hc215501 => ?_) (fun hc215501 => ?_)
  · have r215502 : p215492.toInt = 0 := gj_eq hc215501 (show Int32.toInt 0 = 0 by decide)
    have bp215492' : gB p215492 0 0 := ⟨by omega, by omega⟩
    refine G_aload_n 0 dr_cX17_setOf_24 rfl ?_
    refine Gw_callV (As := []) (gV_ok D I) (cp_215484_Row_sets l hl0 D I P215489 F215490 q215491 p215493 p215494 p215495 p215496 p215497 p215498 p215499 hmq215491 heq215491 bp215493 bp215494 bp215497 bp215498 bp215499) dr_cX17_setOf_25 ⟨wr_10_177, wr_1_39, wr_10_180, by decide, rfl, (Nat.le_of_ble_eq_true rfl), (Nat.le_of_ble_eq_true rfl)⟩ wr_10_178 wr_10_179 hmq215491 heq215491 rfl (show 0 + 0 ≤ 0 by first | omega | decide) (show 0 + 0 ≤ 0 by first | omega | decide) (Nat.le_of_ble_eq_true rfl) (fun r215506 w215507 dc215503 ds215504 hp215505 => ?_) (fun _ _ _ _ _ z => z.elim)
    obtain ⟨o215508, rfl, rfl, hdc, hds, bo215508, x215509⟩ := hp215505
    change G _ _ _ _ _ _ _ (.int o215508 :: _) _ _ _
    refine G_widen (cs' := 0) (sl' := 0) (by omega) (by omega) ?_
    refine G_if_eq 38 dr_cX17_setOf_28 (by decide +kernel) (fun hc215510 => ?_) (fun hc215510 => ?_)
    · have r215511 : o215508.toInt = 0 := gj_eq hc215510 (show Int32.toInt 0 = 0 by decide)
      have bo215508' : gB o215508 0 0 := ⟨by omega, by omega⟩
      refine G_iconst (-1) dr_cX17_setOf_38 (by decide +kernel) ?_
      exact G_iretA dr_cX17_setOf_39 rfl (Nat.le_of_ble_eq_true rfl) (Nat.le_of_ble_eq_true rfl) ⟨(-1), rfl, rfl, (Nat.le_of_ble_eq_true rfl), (Nat.le_of_ble_eq_true rfl), (gB_w (gBl (show Int32.toInt (-1) = (-1) by decide)) (by decide) (by decide)), (by have qa0 : Int32.toInt (-1) = (-1) := (by decide); omega)⟩
    · have r215512 : o215508.toInt ≠ 0 := gj_neq hc215510 (show Int32.toInt 0 = 0 by decide)
      have bo215508' : gB o215508 1 1 := ⟨by omega, by omega⟩
      refine G_aload_n 0 dr_cX17_setOf_31 rfl ?_
      refine Gp_get 1 hmq215491 heq215491 dr_cX17_setOf_32 (gk_X15 D I) (Nat.le_of_ble_eq_true rfl) wr_9_178 rfl ?_
      refine G_goto 39 dr_cX17_setOf_35 (by decide +kernel) ?_
      exact G_iretA dr_cX17_setOf_39 rfl (Nat.le_of_ble_eq_true rfl) (Nat.le_of_ble_eq_true rfl) ⟨p215494, rfl, rfl, (Nat.le_of_ble_eq_true rfl), (Nat.le_of_ble_eq_true rfl), (gB_w bp215494 (by decide) (by decide)), (by omega)⟩
  · have r215513 : p215492.toInt ≠ 0 := gj_neq hc215501 (show Int32.toInt 0 = 0 by decide)
    have bp215492' : gB p215492 1 1 := ⟨by omega, by omega⟩
    refine G_aload_n 0 dr_cX17_setOf_4 rfl ?_
    refine Gp_get 0 hmq215491 heq215491 dr_cX17_setOf_5 (gk_X15 D I) (Nat.le_of_ble_eq_true rfl) wr_9_173 rfl ?_
    refine G_bipush 23 dr_cX17_setOf_8 (by decide +kernel) ?_
    refine G_icmp_ne 20 dr_cX17_setOf_10 (by decide +kernel) (fun hc215514 => ?_) (fun hc215514 => ?_)
    · have r215515 : p215493.toInt ≠ 23 := gj_neq hc215514 (show Int32.toInt 23 = 23 by decide)
      refine G_iconst (-1) dr_cX17_setOf_20 (by decide +kernel) ?_
      refine G_goto 39 dr_cX17_setOf_21 (by decide +kernel) ?_
      exact G_iretA dr_cX17_setOf_39 rfl (Nat.le_of_ble_eq_true rfl) (Nat.le_of_ble_eq_true rfl) ⟨(-1), rfl, rfl, (Nat.le_of_ble_eq_true rfl), (Nat.le_of_ble_eq_true rfl), (gB_w (gBl (show Int32.toInt (-1) = (-1) by decide)) (by decide) (by decide)), (by have qa0 : Int32.toInt (-1) = (-1) := (by decide); omega)⟩
    · have r215516 : p215493.toInt = 23 := gj_eq hc215514 (show Int32.toInt 23 = 23 by decide)
      have bp215493' : gB p215493 23 23 := ⟨by omega, by omega⟩
      refine G_aload_n 0 dr_cX17_setOf_13 rfl ?_
      refine Gp_get 4 hmq215491 heq215491 dr_cX17_setOf_14 (gk_X15 D I) (Nat.le_of_ble_eq_true rfl) wr_9_189 rfl ?_
      refine G_goto 39 dr_cX17_setOf_17 (by decide +kernel) ?_
      exact G_iretA dr_cX17_setOf_39 rfl (Nat.le_of_ble_eq_true rfl) (Nat.le_of_ble_eq_true rfl) ⟨p215497, rfl, rfl, (Nat.le_of_ble_eq_true rfl), (Nat.le_of_ble_eq_true rfl), (gB_w bp215497 (by decide) (by decide)), (by omega)⟩
abbrev ky_215523_SpillForgeModel_back : gKey := (cX17_back, 4, "SpillForgeModel", none, [], "back", fun _ _ => True)
def pt_215523_SpillForgeModel_back (D : va_G) (I : FieldType → ClassId) (γ el : Nat → Nat → Nat) (P215518 : List Nat) (F215519 : Nat → va_E) (q215520 : Nat) (q215521 : Nat) (p215522 : Int32) : Option Value → va_W → Nat → Nat → Prop := fun r w dc ds => ∃ (F215841 : Nat → va_E), r = none ∧ w = va_pl P215518 F215841 ∧ RS D I P215518 F215841 γ el ∧ rStr γ [] F215519 F215841 ∧ dc ≤ 0 ∧ ds ≤ 0 ∧ (∀ k : Nat, rbt (cL (F215841 (γ 9 2))) k = bkS (F215519 q215521) (decide (p215522.toInt = 1)) (rbt (cL (F215519 (γ 9 2)))) k) ∧ rLv γ F215519 F215841 ∧ (F215841 q215520 = F215519 q215520)
set_option maxRecDepth 100000 in
set_option maxHeartbeats 4000000 in
theorem ct_215523_SpillForgeModel_back (l : Launch) (hl0 : l.stackTraces = false) (D : va_G) (I : FieldType → ClassId) (γ el : Nat → Nat → Nat) (P215518 : List Nat) (F215519 : Nat → va_E) (q215520 : Nat) (q215521 : Nat) (p215522 : Int32) (hT : RS D I P215518 F215519 γ el) (htq215520 : rKd γ q215520 10) (htq215521 : rKd γ q215521 1) (bp215522 : gB p215522 0 1) : CtA (gV D I) l yX17_back cX17_back 4 none 2 41 0 0 [.ref q215520, .ref q215521, .int p215522] (va_pl P215518 F215519) (pt_215523_SpillForgeModel_back D I γ el P215518 F215519 q215520 q215521 p215522) gNA := by
  refine CtA_of hl0 (by decide) (Nat.le_of_ble_eq_true rfl) ?_
  have hm215524 : q215520 ∈ P215518 := RS_m hT htq215520 (by decide)
  obtain ⟨q215526, q215527, p215528, p215529, p215530, p215531, p215532, p215533, p215534, p215535, p215536, p215537, p215538, p215539, p215540, p215541, p215542, he215525, hB215569, ht215543, ht215544, ht215545, ht215546, ht215547, ht215548, ht215549, ht215550, ht215551, ht215552, ht215553, ht215554, ht215555, ht215556, ht215557, ht215558, ht215559, ht215560, ht215561, ht215562, ht215563, ht215564, ht215565, ht215566, hB215570⟩ := show rk_10 γ (F215519 q215520) from RS_o hT htq215520
  have hm215571 : (γ 9 2) ∈ P215518 := RS_m hT ht215547 (by decide)
  obtain ⟨f215573, he215572, wf215573⟩ := show rk_35 I (F215519 (γ 9 2)) from RS_o hT ht215547
  have hm215574 : q215521 ∈ P215518 := RS_m hT htq215521 (by decide)
  obtain ⟨p215576, p215577, p215578, p215579, p215580, p215581, p215582, he215575, bp215576, bp215577, bp215580, bp215581, bp215582, r215583, r215584, r215585, r215586, r215587⟩ := show rk_1 γ q215521 (F215519 q215521) from RS_o hT htq215521
  have bp215578 := gB_any p215578
  have bp215579 := gB_any p215579
  refine G_aload_n 1 dr_cX17_back_0 rfl ?_
  refine G_iload_n 2 dr_cX17_back_1 rfl ?_
  refine Gw_callS (As := [.ref q215521, .int p215522]) (gV_ok D I) (cp_215500_SpillForgeModel_setOf l hl0 D I P215518 F215519 q215521 p215522 p215576 p215577 p215578 p215579 p215580 p215581 p215582 hm215574 he215575 bp215522 bp215576 bp215577 bp215580 bp215581 bp215582) dr_cX17_back_2 ⟨wr_10_174, wr_1_14, wr_10_176, by decide, rfl, (Nat.le_of_ble_eq_true rfl), (Nat.le_of_ble_eq_true rfl)⟩ wr_10_175 (show 0 + 0 ≤ 0 by first | omega | decide) (show 0 + 0 ≤ 0 by first | omega | decide) (Nat.le_of_ble_eq_true rfl) (fun r215591 w215592 dc215588 ds215589 hp215590 => ?_) (fun _ _ _ _ _ z => z.elim)
  obtain ⟨o215593, rfl, rfl, hdc, hds, bo215593, x215594⟩ := hp215590
  change G _ _ _ _ _ _ _ (.int o215593 :: _) _ _ _
  refine G_widen (cs' := 0) (sl' := 0) (by omega) (by omega) ?_
  refine G_istore_n (L' := [(3, .int o215593), (0, .ref q215520), (1, .ref q215521), (2, .int p215522)]) dr_cX17_back_5 (Nat.le_of_ble_eq_true rfl) rfl ?_
  refine G_iload_n 0 dr_cX17_back_6 rfl ?_
  refine G_if_lt 18 dr_cX17_back_7 (by decide +kernel) (fun hc215595 => ?_) (fun hc215595 => ?_)
  · have r215596 : o215593.toInt < 0 := gj_lt hc215595 (show Int32.toInt 0 = 0 by decide)
    have bo215593' : gB o215593 (-1) (-1) := ⟨by omega, by omega⟩
    refine G_iload_n 3 dr_cX17_back_18 rfl ?_
    refine G_if_eq 43 dr_cX17_back_19 (by decide +kernel) (fun hc215597 => ?_) (fun hc215597 => ?_)
    · have r215598 : p215522.toInt = 0 := gj_eq hc215597 (show Int32.toInt 0 = 0 by decide)
      have bp215522' : gB p215522 0 0 := ⟨by omega, by omega⟩
      refine G_aload_n 2 dr_cX17_back_43 rfl ?_
      refine Gw_callV (As := []) (gV_ok D I) (cp_215439_Row_usesA l hl0 D I P215518 F215519 q215521 p215576 p215577 p215578 p215579 p215580 p215581 p215582 hm215574 he215575 bp215576 bp215577 bp215580 bp215581 bp215582) dr_cX17_back_44 ⟨wr_10_188, wr_1_39, wr_10_191, by decide, rfl, (Nat.le_of_ble_eq_true rfl), (Nat.le_of_ble_eq_true rfl)⟩ wr_10_189 wr_10_190 hm215574 he215575 rfl (show 0 + 0 ≤ 0 by first | omega | decide) (show 0 + 0 ≤ 0 by first | omega | decide) (Nat.le_of_ble_eq_true rfl) (fun r215602 w215603 dc215599 ds215600 hp215601 => ?_) (fun _ _ _ _ _ z => z.elim)
      obtain ⟨o215604, rfl, rfl, hdc, hds, bo215604, x215605⟩ := hp215601
      change G _ _ _ _ _ _ _ (.int o215604 :: _) _ _ _
      refine G_widen (cs' := 0) (sl' := 0) (by omega) (by omega) ?_
      refine G_if_eq 61 dr_cX17_back_47 (by decide +kernel) (fun hc215606 => ?_) (fun hc215606 => ?_)
      · have r215607 : o215604.toInt = 0 := gj_eq hc215606 (show Int32.toInt 0 = 0 by decide)
        have bo215604' : gB o215604 0 0 := ⟨by omega, by omega⟩
        refine G_aload_n 2 dr_cX17_back_61 rfl ?_
        refine Gw_callV (As := []) (gV_ok D I) (cp_215463_Row_usesB l hl0 D I P215518 F215519 q215521 p215576 p215577 p215578 p215579 p215580 p215581 p215582 hm215574 he215575 bp215576 bp215577 bp215580 bp215581 bp215582) dr_cX17_back_62 ⟨wr_10_192, wr_1_39, wr_10_195, by decide, rfl, (Nat.le_of_ble_eq_true rfl), (Nat.le_of_ble_eq_true rfl)⟩ wr_10_193 wr_10_194 hm215574 he215575 rfl (show 0 + 0 ≤ 0 by first | omega | decide) (show 0 + 0 ≤ 0 by first | omega | decide) (Nat.le_of_ble_eq_true rfl) (fun r215611 w215612 dc215608 ds215609 hp215610 => ?_) (fun _ _ _ _ _ z => z.elim)
        obtain ⟨o215613, rfl, rfl, hdc, hds, bo215613, x215614⟩ := hp215610
        change G _ _ _ _ _ _ _ (.int o215613 :: _) _ _ _
        refine G_widen (cs' := 0) (sl' := 0) (by omega) (by omega) ?_
        refine G_if_eq 79 dr_cX17_back_65 (by decide +kernel) (fun hc215615 => ?_) (fun hc215615 => ?_)
        · have r215616 : o215613.toInt = 0 := gj_eq hc215615 (show Int32.toInt 0 = 0 by decide)
          have bo215613' : gB o215613 0 0 := ⟨by omega, by omega⟩
          exact G_vretA dr_cX17_back_79 rfl (Nat.le_of_ble_eq_true rfl) (Nat.le_of_ble_eq_true rfl) ⟨F215519, rfl, rfl, hT, (rStr_rf (γ := γ) (W := []) (F := F215519)), (Nat.le_of_ble_eq_true rfl), (Nat.le_of_ble_eq_true rfl), (fun k => by rw [cL_of he215572, bkS_of he215575, (decide_eq_false (show ¬ (p215522.toInt = 1) by omega))]; exact bk_n false false false (decide_eq_false (show ¬ (p215576.toInt ≤ 21) by omega)) (decide_eq_false (show ¬ (p215576.toInt ≠ 20 ∧ p215576.toInt ≠ 21 ∧ p215576.toInt ≠ 30 ∧ p215581.toInt = 1) by omega)) (decide_eq_false (show ¬ (0 < p215576.toInt ∧ p215576.toInt < 20 ∧ p215582.toInt = 1) by omega)) (by simp)), (rLv_rf (γ := γ) (F := F215519)), rfl⟩
        · have r215617 : o215613.toInt ≠ 0 := gj_neq hc215615 (show Int32.toInt 0 = 0 by decide)
          have bo215613' : gB o215613 1 1 := ⟨by omega, by omega⟩
          refine G_aload_n 1 dr_cX17_back_68 rfl ?_
          refine Gp_get 2 hm215524 he215525 dr_cX17_back_69 (gk_X17 D I) (Nat.le_of_ble_eq_true rfl) wr_7_76 rfl ?_
          refine G_aload_n 2 dr_cX17_back_72 rfl ?_
          refine Gp_get 3 hm215574 he215575 dr_cX17_back_73 (gk_X15 D I) (Nat.le_of_ble_eq_true rfl) wr_9_186 rfl ?_
          refine Gw_callS (As := [.ref (γ 9 2), .int p215579]) (gV_ok D I) (cp_215394_SpillForgeModel_set l hl0 D I P215518 F215519 (γ 9 2) p215579 f215573 hm215571 he215572 ⟨by omega, by omega⟩ wf215573) dr_cX17_back_76 ⟨wr_10_185, wr_1_14, wr_10_187, by decide, rfl, (Nat.le_of_ble_eq_true rfl), (Nat.le_of_ble_eq_true rfl)⟩ wr_10_186 (show 0 + 0 ≤ 0 by first | omega | decide) (show 0 + 0 ≤ 0 by first | omega | decide) (Nat.le_of_ble_eq_true rfl) (fun r215621 w215622 dc215618 ds215619 hp215620 => ?_) (fun _ _ _ _ _ z => z.elim)
          obtain ⟨F215626, f215623, rfl, rfl, hfr215628, he215629, hdc, hds, x215624, x215625⟩ := hp215620
          have he215630 : F215626 q215520 = .inr (22, [.ref (γ 9 0), .ref (γ 9 1), .ref (γ 9 2), .ref (γ 9 3), .ref (γ 9 4), .ref (γ 9 5), .ref (γ 9 6), .ref (γ 9 7), .ref (γ 9 8), .int p215528, .int p215529, .int p215530, .int p215531, .int p215532, .int p215533, .ref (γ 9 15), .ref (γ 9 16), .ref (γ 9 17), .ref (γ 9 18), .ref (γ 9 19), .ref (γ 9 20), .ref (γ 9 21), .ref (γ 9 22), .int p215534, .int p215535, .int p215536, .int p215537, .int p215538, .ref q215526, .ref (γ 9 29), .int p215539, .ref (γ 9 31), .int p215540, .int p215541, .int p215542, .ref q215527]) := (hfr215628 q215520 hm215524 (nm_c (rn_oa he215525 he215572) nm_n)).trans he215525
          have he215631 : F215626 q215521 = .inr (20, [.int p215576, .int p215577, .int p215578, .int p215579, .int p215580, .int p215581, .int p215582]) := (hfr215628 q215521 hm215574 (nm_c (rn_oa he215575 he215572) nm_n)).trans he215575
          have hfr215632 : rFr [(γ 9 2)] P215518 F215519 F215626 := rFr_call (rSub_rf (P := P215518)) (rFr_rf (W := []) (P := P215518) (F := F215519)) hfr215628 (fun b hb hn => ⟨nm_n, (nm_c (fun e => hn (e ▸ List.mem_cons_self)) nm_n)⟩)
          change G _ _ _ _ _ _ _ _ _ _ _
          refine G_widen (cs' := 0) (sl' := 0) (by omega) (by omega) ?_
          have hT215633 : RS D I P215518 F215626 γ el := RS_fr hT hfr215632 ht215547 (by decide) ⟨f215623, he215629, x215624⟩
          have hs215634 : rStr γ [] F215519 F215626 := rStr_fr hT (rStr_rf (γ := γ) (W := []) (F := F215519)) hfr215632 ht215547 (by decide)
          have lv215635 : rLv γ F215519 F215626 := rLv_fr hT ht215545 (rLv_rf (γ := γ) (F := F215519)) hfr215632 ht215547 (by decide)
          have kp215636 : F215626 q215520 = F215519 q215520 := hfr215632 q215520 (RS_m hT htq215520 (by decide)) (nm_c (rn_ty htq215520 ht215547 (by decide)) nm_n)
          exact G_vretA dr_cX17_back_79 rfl (Nat.le_of_ble_eq_true rfl) (Nat.le_of_ble_eq_true rfl) ⟨F215626, rfl, rfl, hT215633, hs215634, (Nat.le_of_ble_eq_true rfl), (Nat.le_of_ble_eq_true rfl), (fun k => by rw [cL_of he215629, cL_of he215572, bkS_of he215575, (decide_eq_false (show ¬ (p215522.toInt = 1) by omega))]; exact bk_n false false true (decide_eq_false (show ¬ (p215576.toInt ≤ 21) by omega)) (decide_eq_false (show ¬ (p215576.toInt ≠ 20 ∧ p215576.toInt ≠ 21 ∧ p215576.toInt ≠ 30 ∧ p215581.toInt = 1) by omega)) (decide_eq_true (show (0 < p215576.toInt ∧ p215576.toInt < 20 ∧ p215582.toInt = 1) by omega)) (by rw [x215625 k]; simp)), lv215635, kp215636⟩
      · have r215637 : o215604.toInt ≠ 0 := gj_neq hc215606 (show Int32.toInt 0 = 0 by decide)
        have bo215604' : gB o215604 1 1 := ⟨by omega, by omega⟩
        refine G_aload_n 1 dr_cX17_back_50 rfl ?_
        refine Gp_get 2 hm215524 he215525 dr_cX17_back_51 (gk_X17 D I) (Nat.le_of_ble_eq_true rfl) wr_7_76 rfl ?_
        refine G_aload_n 2 dr_cX17_back_54 rfl ?_
        refine Gp_get 2 hm215574 he215575 dr_cX17_back_55 (gk_X15 D I) (Nat.le_of_ble_eq_true rfl) wr_9_182 rfl ?_
        refine Gw_callS (As := [.ref (γ 9 2), .int p215578]) (gV_ok D I) (cp_215394_SpillForgeModel_set l hl0 D I P215518 F215519 (γ 9 2) p215578 f215573 hm215571 he215572 ⟨by omega, by omega⟩ wf215573) dr_cX17_back_58 ⟨wr_10_185, wr_1_14, wr_10_187, by decide, rfl, (Nat.le_of_ble_eq_true rfl), (Nat.le_of_ble_eq_true rfl)⟩ wr_10_186 (show 0 + 0 ≤ 0 by first | omega | decide) (show 0 + 0 ≤ 0 by first | omega | decide) (Nat.le_of_ble_eq_true rfl) (fun r215641 w215642 dc215638 ds215639 hp215640 => ?_) (fun _ _ _ _ _ z => z.elim)
        obtain ⟨F215646, f215643, rfl, rfl, hfr215648, he215649, hdc, hds, x215644, x215645⟩ := hp215640
        have he215650 : F215646 q215520 = .inr (22, [.ref (γ 9 0), .ref (γ 9 1), .ref (γ 9 2), .ref (γ 9 3), .ref (γ 9 4), .ref (γ 9 5), .ref (γ 9 6), .ref (γ 9 7), .ref (γ 9 8), .int p215528, .int p215529, .int p215530, .int p215531, .int p215532, .int p215533, .ref (γ 9 15), .ref (γ 9 16), .ref (γ 9 17), .ref (γ 9 18), .ref (γ 9 19), .ref (γ 9 20), .ref (γ 9 21), .ref (γ 9 22), .int p215534, .int p215535, .int p215536, .int p215537, .int p215538, .ref q215526, .ref (γ 9 29), .int p215539, .ref (γ 9 31), .int p215540, .int p215541, .int p215542, .ref q215527]) := (hfr215648 q215520 hm215524 (nm_c (rn_oa he215525 he215572) nm_n)).trans he215525
        have he215651 : F215646 q215521 = .inr (20, [.int p215576, .int p215577, .int p215578, .int p215579, .int p215580, .int p215581, .int p215582]) := (hfr215648 q215521 hm215574 (nm_c (rn_oa he215575 he215572) nm_n)).trans he215575
        have hfr215652 : rFr [(γ 9 2)] P215518 F215519 F215646 := rFr_call (rSub_rf (P := P215518)) (rFr_rf (W := []) (P := P215518) (F := F215519)) hfr215648 (fun b hb hn => ⟨nm_n, (nm_c (fun e => hn (e ▸ List.mem_cons_self)) nm_n)⟩)
        change G _ _ _ _ _ _ _ _ _ _ _
        refine G_widen (cs' := 0) (sl' := 0) (by omega) (by omega) ?_
        have hT215653 : RS D I P215518 F215646 γ el := RS_fr hT hfr215652 ht215547 (by decide) ⟨f215643, he215649, x215644⟩
        have hs215654 : rStr γ [] F215519 F215646 := rStr_fr hT (rStr_rf (γ := γ) (W := []) (F := F215519)) hfr215652 ht215547 (by decide)
        have lv215655 : rLv γ F215519 F215646 := rLv_fr hT ht215545 (rLv_rf (γ := γ) (F := F215519)) hfr215652 ht215547 (by decide)
        have kp215656 : F215646 q215520 = F215519 q215520 := hfr215652 q215520 (RS_m hT htq215520 (by decide)) (nm_c (rn_ty htq215520 ht215547 (by decide)) nm_n)
        refine G_aload_n 2 dr_cX17_back_61 rfl ?_
        refine Gw_callV (As := []) (gV_ok D I) (cp_215463_Row_usesB l hl0 D I P215518 F215646 q215521 p215576 p215577 p215578 p215579 p215580 p215581 p215582 hm215574 he215651 bp215576 bp215577 bp215580 bp215581 bp215582) dr_cX17_back_62 ⟨wr_10_192, wr_1_39, wr_10_195, by decide, rfl, (Nat.le_of_ble_eq_true rfl), (Nat.le_of_ble_eq_true rfl)⟩ wr_10_193 wr_10_194 hm215574 he215651 rfl (show 0 + 0 ≤ 0 by first | omega | decide) (show 0 + 0 ≤ 0 by first | omega | decide) (Nat.le_of_ble_eq_true rfl) (fun r215660 w215661 dc215657 ds215658 hp215659 => ?_) (fun _ _ _ _ _ z => z.elim)
        obtain ⟨o215662, rfl, rfl, hdc, hds, bo215662, x215663⟩ := hp215659
        change G _ _ _ _ _ _ _ (.int o215662 :: _) _ _ _
        refine G_widen (cs' := 0) (sl' := 0) (by omega) (by omega) ?_
        refine G_if_eq 79 dr_cX17_back_65 (by decide +kernel) (fun hc215664 => ?_) (fun hc215664 => ?_)
        · have r215665 : o215662.toInt = 0 := gj_eq hc215664 (show Int32.toInt 0 = 0 by decide)
          have bo215662' : gB o215662 0 0 := ⟨by omega, by omega⟩
          exact G_vretA dr_cX17_back_79 rfl (Nat.le_of_ble_eq_true rfl) (Nat.le_of_ble_eq_true rfl) ⟨F215646, rfl, rfl, hT215653, hs215654, (Nat.le_of_ble_eq_true rfl), (Nat.le_of_ble_eq_true rfl), (fun k => by rw [cL_of he215649, cL_of he215572, bkS_of he215575, (decide_eq_false (show ¬ (p215522.toInt = 1) by omega))]; exact bk_n false true false (decide_eq_false (show ¬ (p215576.toInt ≤ 21) by omega)) (decide_eq_true (show (p215576.toInt ≠ 20 ∧ p215576.toInt ≠ 21 ∧ p215576.toInt ≠ 30 ∧ p215581.toInt = 1) by omega)) (decide_eq_false (show ¬ (0 < p215576.toInt ∧ p215576.toInt < 20 ∧ p215582.toInt = 1) by omega)) (by rw [x215645 k]; simp)), lv215655, kp215656⟩
        · have r215666 : o215662.toInt ≠ 0 := gj_neq hc215664 (show Int32.toInt 0 = 0 by decide)
          have bo215662' : gB o215662 1 1 := ⟨by omega, by omega⟩
          refine G_aload_n 1 dr_cX17_back_68 rfl ?_
          refine Gp_get 2 hm215524 he215650 dr_cX17_back_69 (gk_X17 D I) (Nat.le_of_ble_eq_true rfl) wr_7_76 rfl ?_
          refine G_aload_n 2 dr_cX17_back_72 rfl ?_
          refine Gp_get 3 hm215574 he215651 dr_cX17_back_73 (gk_X15 D I) (Nat.le_of_ble_eq_true rfl) wr_9_186 rfl ?_
          refine Gw_callS (As := [.ref (γ 9 2), .int p215579]) (gV_ok D I) (cp_215394_SpillForgeModel_set l hl0 D I P215518 F215646 (γ 9 2) p215579 f215643 hm215571 he215649 ⟨by omega, by omega⟩ x215644) dr_cX17_back_76 ⟨wr_10_185, wr_1_14, wr_10_187, by decide, rfl, (Nat.le_of_ble_eq_true rfl), (Nat.le_of_ble_eq_true rfl)⟩ wr_10_186 (show 0 + 0 ≤ 0 by first | omega | decide) (show 0 + 0 ≤ 0 by first | omega | decide) (Nat.le_of_ble_eq_true rfl) (fun r215670 w215671 dc215667 ds215668 hp215669 => ?_) (fun _ _ _ _ _ z => z.elim)
          obtain ⟨F215675, f215672, rfl, rfl, hfr215677, he215678, hdc, hds, x215673, x215674⟩ := hp215669
          have he215679 : F215675 q215520 = .inr (22, [.ref (γ 9 0), .ref (γ 9 1), .ref (γ 9 2), .ref (γ 9 3), .ref (γ 9 4), .ref (γ 9 5), .ref (γ 9 6), .ref (γ 9 7), .ref (γ 9 8), .int p215528, .int p215529, .int p215530, .int p215531, .int p215532, .int p215533, .ref (γ 9 15), .ref (γ 9 16), .ref (γ 9 17), .ref (γ 9 18), .ref (γ 9 19), .ref (γ 9 20), .ref (γ 9 21), .ref (γ 9 22), .int p215534, .int p215535, .int p215536, .int p215537, .int p215538, .ref q215526, .ref (γ 9 29), .int p215539, .ref (γ 9 31), .int p215540, .int p215541, .int p215542, .ref q215527]) := (hfr215677 q215520 hm215524 (nm_c (rn_oa he215650 he215649) nm_n)).trans he215650
          have he215680 : F215675 q215521 = .inr (20, [.int p215576, .int p215577, .int p215578, .int p215579, .int p215580, .int p215581, .int p215582]) := (hfr215677 q215521 hm215574 (nm_c (rn_oa he215651 he215649) nm_n)).trans he215651
          have hfr215681 : rFr [(γ 9 2)] P215518 F215646 F215675 := rFr_call (rSub_rf (P := P215518)) (rFr_rf (W := []) (P := P215518) (F := F215646)) hfr215677 (fun b hb hn => ⟨nm_n, (nm_c (fun e => hn (e ▸ List.mem_cons_self)) nm_n)⟩)
          change G _ _ _ _ _ _ _ _ _ _ _
          refine G_widen (cs' := 0) (sl' := 0) (by omega) (by omega) ?_
          have hT215682 : RS D I P215518 F215675 γ el := RS_fr hT215653 hfr215681 ht215547 (by decide) ⟨f215672, he215678, x215673⟩
          have hs215683 : rStr γ [] F215519 F215675 := rStr_fr hT215653 hs215654 hfr215681 ht215547 (by decide)
          have lv215684 : rLv γ F215519 F215675 := rLv_fr hT215653 ht215545 lv215655 hfr215681 ht215547 (by decide)
          have kp215685 : F215675 q215520 = F215519 q215520 := (hfr215681 q215520 (RS_m hT215653 htq215520 (by decide)) (nm_c (rn_ty htq215520 ht215547 (by decide)) nm_n)).trans kp215656
          exact G_vretA dr_cX17_back_79 rfl (Nat.le_of_ble_eq_true rfl) (Nat.le_of_ble_eq_true rfl) ⟨F215675, rfl, rfl, hT215682, hs215683, (Nat.le_of_ble_eq_true rfl), (Nat.le_of_ble_eq_true rfl), (fun k => by rw [cL_of he215678, cL_of he215572, bkS_of he215575, (decide_eq_false (show ¬ (p215522.toInt = 1) by omega))]; exact bk_n false true true (decide_eq_false (show ¬ (p215576.toInt ≤ 21) by omega)) (decide_eq_true (show (p215576.toInt ≠ 20 ∧ p215576.toInt ≠ 21 ∧ p215576.toInt ≠ 30 ∧ p215581.toInt = 1) by omega)) (decide_eq_true (show (0 < p215576.toInt ∧ p215576.toInt < 20 ∧ p215582.toInt = 1) by omega)) (by rw [x215674 k, x215645 k]; simp)), lv215684, kp215685⟩
    · have r215686 : p215522.toInt ≠ 0 := gj_neq hc215597 (show Int32.toInt 0 = 0 by decide)
      have bp215522' : gB p215522 1 1 := ⟨by omega, by omega⟩
      refine G_aload_n 2 dr_cX17_back_22 rfl ?_
      refine Gp_get 0 hm215574 he215575 dr_cX17_back_23 (gk_X15 D I) (Nat.le_of_ble_eq_true rfl) wr_9_173 rfl ?_
      refine G_bipush 21 dr_cX17_back_26 (by decide +kernel) ?_
      refine G_icmp_ne 42 dr_cX17_back_28 (by decide +kernel) (fun hc215687 => ?_) (fun hc215687 => ?_)
      · have r215688 : p215576.toInt ≠ 21 := gj_neq hc215687 (show Int32.toInt 21 = 21 by decide)
        exact G_vretA dr_cX17_back_42 rfl (Nat.le_of_ble_eq_true rfl) (Nat.le_of_ble_eq_true rfl) ⟨F215519, rfl, rfl, hT, (rStr_rf (γ := γ) (W := []) (F := F215519)), (Nat.le_of_ble_eq_true rfl), (Nat.le_of_ble_eq_true rfl), (fun k => by rw [cL_of he215572, bkS_of he215575, (decide_eq_true (show (p215522.toInt = 1) by omega))]; exact bk_s false false (decide_eq_false (show ¬ (p215576.toInt = 23) by omega)) (decide_eq_false (show ¬ (p215576.toInt = 21) by omega)) (by simp)), (rLv_rf (γ := γ) (F := F215519)), rfl⟩
      · have r215689 : p215576.toInt = 21 := gj_eq hc215687 (show Int32.toInt 21 = 21 by decide)
        have bp215576' : gB p215576 21 21 := ⟨by omega, by omega⟩
        refine G_aload_n 1 dr_cX17_back_31 rfl ?_
        refine Gp_get 2 hm215524 he215525 dr_cX17_back_32 (gk_X17 D I) (Nat.le_of_ble_eq_true rfl) wr_7_76 rfl ?_
        refine G_aload_n 2 dr_cX17_back_35 rfl ?_
        refine Gp_get 4 hm215574 he215575 dr_cX17_back_36 (gk_X15 D I) (Nat.le_of_ble_eq_true rfl) wr_9_189 rfl ?_
        refine Gw_callS (As := [.ref (γ 9 2), .int p215580]) (gV_ok D I) (cp_215394_SpillForgeModel_set l hl0 D I P215518 F215519 (γ 9 2) p215580 f215573 hm215571 he215572 bp215580 wf215573) dr_cX17_back_39 ⟨wr_10_185, wr_1_14, wr_10_187, by decide, rfl, (Nat.le_of_ble_eq_true rfl), (Nat.le_of_ble_eq_true rfl)⟩ wr_10_186 (show 0 + 0 ≤ 0 by first | omega | decide) (show 0 + 0 ≤ 0 by first | omega | decide) (Nat.le_of_ble_eq_true rfl) (fun r215693 w215694 dc215690 ds215691 hp215692 => ?_) (fun _ _ _ _ _ z => z.elim)
        obtain ⟨F215698, f215695, rfl, rfl, hfr215700, he215701, hdc, hds, x215696, x215697⟩ := hp215692
        have he215702 : F215698 q215520 = .inr (22, [.ref (γ 9 0), .ref (γ 9 1), .ref (γ 9 2), .ref (γ 9 3), .ref (γ 9 4), .ref (γ 9 5), .ref (γ 9 6), .ref (γ 9 7), .ref (γ 9 8), .int p215528, .int p215529, .int p215530, .int p215531, .int p215532, .int p215533, .ref (γ 9 15), .ref (γ 9 16), .ref (γ 9 17), .ref (γ 9 18), .ref (γ 9 19), .ref (γ 9 20), .ref (γ 9 21), .ref (γ 9 22), .int p215534, .int p215535, .int p215536, .int p215537, .int p215538, .ref q215526, .ref (γ 9 29), .int p215539, .ref (γ 9 31), .int p215540, .int p215541, .int p215542, .ref q215527]) := (hfr215700 q215520 hm215524 (nm_c (rn_oa he215525 he215572) nm_n)).trans he215525
        have he215703 : F215698 q215521 = .inr (20, [.int p215576, .int p215577, .int p215578, .int p215579, .int p215580, .int p215581, .int p215582]) := (hfr215700 q215521 hm215574 (nm_c (rn_oa he215575 he215572) nm_n)).trans he215575
        have hfr215704 : rFr [(γ 9 2)] P215518 F215519 F215698 := rFr_call (rSub_rf (P := P215518)) (rFr_rf (W := []) (P := P215518) (F := F215519)) hfr215700 (fun b hb hn => ⟨nm_n, (nm_c (fun e => hn (e ▸ List.mem_cons_self)) nm_n)⟩)
        change G _ _ _ _ _ _ _ _ _ _ _
        refine G_widen (cs' := 0) (sl' := 0) (by omega) (by omega) ?_
        have hT215705 : RS D I P215518 F215698 γ el := RS_fr hT hfr215704 ht215547 (by decide) ⟨f215695, he215701, x215696⟩
        have hs215706 : rStr γ [] F215519 F215698 := rStr_fr hT (rStr_rf (γ := γ) (W := []) (F := F215519)) hfr215704 ht215547 (by decide)
        have lv215707 : rLv γ F215519 F215698 := rLv_fr hT ht215545 (rLv_rf (γ := γ) (F := F215519)) hfr215704 ht215547 (by decide)
        have kp215708 : F215698 q215520 = F215519 q215520 := hfr215704 q215520 (RS_m hT htq215520 (by decide)) (nm_c (rn_ty htq215520 ht215547 (by decide)) nm_n)
        exact G_vretA dr_cX17_back_42 rfl (Nat.le_of_ble_eq_true rfl) (Nat.le_of_ble_eq_true rfl) ⟨F215698, rfl, rfl, hT215705, hs215706, (Nat.le_of_ble_eq_true rfl), (Nat.le_of_ble_eq_true rfl), (fun k => by rw [cL_of he215701, cL_of he215572, bkS_of he215575, (decide_eq_true (show (p215522.toInt = 1) by omega))]; exact bk_s false true (decide_eq_false (show ¬ (p215576.toInt = 23) by omega)) (decide_eq_true (show (p215576.toInt = 21) by omega)) (by rw [x215697 k]; simp)), lv215707, kp215708⟩
  · have r215709 : 0 ≤ o215593.toInt := gj_nlt hc215595 (show Int32.toInt 0 = 0 by decide)
    have bo215593' : gB o215593 0 1999 := ⟨by omega, by omega⟩
    refine G_aload_n 1 dr_cX17_back_10 rfl ?_
    refine Gp_get 2 hm215524 he215525 dr_cX17_back_11 (gk_X17 D I) (Nat.le_of_ble_eq_true rfl) wr_7_76 rfl ?_
    refine G_iload_n 0 dr_cX17_back_14 rfl ?_
    refine Gw_callS (As := [.ref (γ 9 2), .int o215593]) (gV_ok D I) (cp_215414_SpillForgeModel_clear l hl0 D I P215518 F215519 (γ 9 2) o215593 f215573 hm215571 he215572 bo215593' wf215573) dr_cX17_back_15 ⟨wr_10_181, wr_1_14, wr_10_183, by decide, rfl, (Nat.le_of_ble_eq_true rfl), (Nat.le_of_ble_eq_true rfl)⟩ wr_10_182 (show 0 + 0 ≤ 0 by first | omega | decide) (show 0 + 0 ≤ 0 by first | omega | decide) (Nat.le_of_ble_eq_true rfl) (fun r215713 w215714 dc215710 ds215711 hp215712 => ?_) (fun _ _ _ _ _ z => z.elim)
    obtain ⟨F215718, f215715, rfl, rfl, hfr215720, he215721, hdc, hds, x215716, x215717⟩ := hp215712
    have he215722 : F215718 q215520 = .inr (22, [.ref (γ 9 0), .ref (γ 9 1), .ref (γ 9 2), .ref (γ 9 3), .ref (γ 9 4), .ref (γ 9 5), .ref (γ 9 6), .ref (γ 9 7), .ref (γ 9 8), .int p215528, .int p215529, .int p215530, .int p215531, .int p215532, .int p215533, .ref (γ 9 15), .ref (γ 9 16), .ref (γ 9 17), .ref (γ 9 18), .ref (γ 9 19), .ref (γ 9 20), .ref (γ 9 21), .ref (γ 9 22), .int p215534, .int p215535, .int p215536, .int p215537, .int p215538, .ref q215526, .ref (γ 9 29), .int p215539, .ref (γ 9 31), .int p215540, .int p215541, .int p215542, .ref q215527]) := (hfr215720 q215520 hm215524 (nm_c (rn_oa he215525 he215572) nm_n)).trans he215525
    have he215723 : F215718 q215521 = .inr (20, [.int p215576, .int p215577, .int p215578, .int p215579, .int p215580, .int p215581, .int p215582]) := (hfr215720 q215521 hm215574 (nm_c (rn_oa he215575 he215572) nm_n)).trans he215575
    have hfr215724 : rFr [(γ 9 2)] P215518 F215519 F215718 := rFr_call (rSub_rf (P := P215518)) (rFr_rf (W := []) (P := P215518) (F := F215519)) hfr215720 (fun b hb hn => ⟨nm_n, (nm_c (fun e => hn (e ▸ List.mem_cons_self)) nm_n)⟩)
    change G _ _ _ _ _ _ _ _ _ _ _
    refine G_widen (cs' := 0) (sl' := 0) (by omega) (by omega) ?_
    have hT215725 : RS D I P215518 F215718 γ el := RS_fr hT hfr215724 ht215547 (by decide) ⟨f215715, he215721, x215716⟩
    have hs215726 : rStr γ [] F215519 F215718 := rStr_fr hT (rStr_rf (γ := γ) (W := []) (F := F215519)) hfr215724 ht215547 (by decide)
    have lv215727 : rLv γ F215519 F215718 := rLv_fr hT ht215545 (rLv_rf (γ := γ) (F := F215519)) hfr215724 ht215547 (by decide)
    have kp215728 : F215718 q215520 = F215519 q215520 := hfr215724 q215520 (RS_m hT htq215520 (by decide)) (nm_c (rn_ty htq215520 ht215547 (by decide)) nm_n)
    refine G_iload_n 3 dr_cX17_back_18 rfl ?_
    refine G_if_eq 43 dr_cX17_back_19 (by decide +kernel) (fun hc215729 => ?_) (fun hc215729 => ?_)
    · have r215730 : p215522.toInt = 0 := gj_eq hc215729 (show Int32.toInt 0 = 0 by decide)
      have bp215522' : gB p215522 0 0 := ⟨by omega, by omega⟩
      refine G_aload_n 2 dr_cX17_back_43 rfl ?_
      refine Gw_callV (As := []) (gV_ok D I) (cp_215439_Row_usesA l hl0 D I P215518 F215718 q215521 p215576 p215577 p215578 p215579 p215580 p215581 p215582 hm215574 he215723 bp215576 bp215577 bp215580 bp215581 bp215582) dr_cX17_back_44 ⟨wr_10_188, wr_1_39, wr_10_191, by decide, rfl, (Nat.le_of_ble_eq_true rfl), (Nat.le_of_ble_eq_true rfl)⟩ wr_10_189 wr_10_190 hm215574 he215723 rfl (show 0 + 0 ≤ 0 by first | omega | decide) (show 0 + 0 ≤ 0 by first | omega | decide) (Nat.le_of_ble_eq_true rfl) (fun r215734 w215735 dc215731 ds215732 hp215733 => ?_) (fun _ _ _ _ _ z => z.elim)
      obtain ⟨o215736, rfl, rfl, hdc, hds, bo215736, x215737⟩ := hp215733
      change G _ _ _ _ _ _ _ (.int o215736 :: _) _ _ _
      refine G_widen (cs' := 0) (sl' := 0) (by omega) (by omega) ?_
      refine G_if_eq 61 dr_cX17_back_47 (by decide +kernel) (fun hc215738 => ?_) (fun hc215738 => ?_)
      · have r215739 : o215736.toInt = 0 := gj_eq hc215738 (show Int32.toInt 0 = 0 by decide)
        have bo215736' : gB o215736 0 0 := ⟨by omega, by omega⟩
        refine G_aload_n 2 dr_cX17_back_61 rfl ?_
        refine Gw_callV (As := []) (gV_ok D I) (cp_215463_Row_usesB l hl0 D I P215518 F215718 q215521 p215576 p215577 p215578 p215579 p215580 p215581 p215582 hm215574 he215723 bp215576 bp215577 bp215580 bp215581 bp215582) dr_cX17_back_62 ⟨wr_10_192, wr_1_39, wr_10_195, by decide, rfl, (Nat.le_of_ble_eq_true rfl), (Nat.le_of_ble_eq_true rfl)⟩ wr_10_193 wr_10_194 hm215574 he215723 rfl (show 0 + 0 ≤ 0 by first | omega | decide) (show 0 + 0 ≤ 0 by first | omega | decide) (Nat.le_of_ble_eq_true rfl) (fun r215743 w215744 dc215740 ds215741 hp215742 => ?_) (fun _ _ _ _ _ z => z.elim)
        obtain ⟨o215745, rfl, rfl, hdc, hds, bo215745, x215746⟩ := hp215742
        change G _ _ _ _ _ _ _ (.int o215745 :: _) _ _ _
        refine G_widen (cs' := 0) (sl' := 0) (by omega) (by omega) ?_
        refine G_if_eq 79 dr_cX17_back_65 (by decide +kernel) (fun hc215747 => ?_) (fun hc215747 => ?_)
        · have r215748 : o215745.toInt = 0 := gj_eq hc215747 (show Int32.toInt 0 = 0 by decide)
          have bo215745' : gB o215745 0 0 := ⟨by omega, by omega⟩
          exact G_vretA dr_cX17_back_79 rfl (Nat.le_of_ble_eq_true rfl) (Nat.le_of_ble_eq_true rfl) ⟨F215718, rfl, rfl, hT215725, hs215726, (Nat.le_of_ble_eq_true rfl), (Nat.le_of_ble_eq_true rfl), (fun k => by rw [cL_of he215721, cL_of he215572, bkS_of he215575, (decide_eq_false (show ¬ (p215522.toInt = 1) by omega))]; exact bk_n true false false (decide_eq_true (show (p215576.toInt ≤ 21) by omega)) (decide_eq_false (show ¬ (p215576.toInt ≠ 20 ∧ p215576.toInt ≠ 21 ∧ p215576.toInt ≠ 30 ∧ p215581.toInt = 1) by omega)) (decide_eq_false (show ¬ (0 < p215576.toInt ∧ p215576.toInt < 20 ∧ p215582.toInt = 1) by omega)) (by rw [x215717 k, show o215593.toInt = p215577.toInt by omega]; simp)), lv215727, kp215728⟩
        · have r215749 : o215745.toInt ≠ 0 := gj_neq hc215747 (show Int32.toInt 0 = 0 by decide)
          have bo215745' : gB o215745 1 1 := ⟨by omega, by omega⟩
          refine G_aload_n 1 dr_cX17_back_68 rfl ?_
          refine Gp_get 2 hm215524 he215722 dr_cX17_back_69 (gk_X17 D I) (Nat.le_of_ble_eq_true rfl) wr_7_76 rfl ?_
          refine G_aload_n 2 dr_cX17_back_72 rfl ?_
          refine Gp_get 3 hm215574 he215723 dr_cX17_back_73 (gk_X15 D I) (Nat.le_of_ble_eq_true rfl) wr_9_186 rfl ?_
          refine Gw_callS (As := [.ref (γ 9 2), .int p215579]) (gV_ok D I) (cp_215394_SpillForgeModel_set l hl0 D I P215518 F215718 (γ 9 2) p215579 f215715 hm215571 he215721 ⟨by omega, by omega⟩ x215716) dr_cX17_back_76 ⟨wr_10_185, wr_1_14, wr_10_187, by decide, rfl, (Nat.le_of_ble_eq_true rfl), (Nat.le_of_ble_eq_true rfl)⟩ wr_10_186 (show 0 + 0 ≤ 0 by first | omega | decide) (show 0 + 0 ≤ 0 by first | omega | decide) (Nat.le_of_ble_eq_true rfl) (fun r215753 w215754 dc215750 ds215751 hp215752 => ?_) (fun _ _ _ _ _ z => z.elim)
          obtain ⟨F215758, f215755, rfl, rfl, hfr215760, he215761, hdc, hds, x215756, x215757⟩ := hp215752
          have he215762 : F215758 q215520 = .inr (22, [.ref (γ 9 0), .ref (γ 9 1), .ref (γ 9 2), .ref (γ 9 3), .ref (γ 9 4), .ref (γ 9 5), .ref (γ 9 6), .ref (γ 9 7), .ref (γ 9 8), .int p215528, .int p215529, .int p215530, .int p215531, .int p215532, .int p215533, .ref (γ 9 15), .ref (γ 9 16), .ref (γ 9 17), .ref (γ 9 18), .ref (γ 9 19), .ref (γ 9 20), .ref (γ 9 21), .ref (γ 9 22), .int p215534, .int p215535, .int p215536, .int p215537, .int p215538, .ref q215526, .ref (γ 9 29), .int p215539, .ref (γ 9 31), .int p215540, .int p215541, .int p215542, .ref q215527]) := (hfr215760 q215520 hm215524 (nm_c (rn_oa he215722 he215721) nm_n)).trans he215722
          have he215763 : F215758 q215521 = .inr (20, [.int p215576, .int p215577, .int p215578, .int p215579, .int p215580, .int p215581, .int p215582]) := (hfr215760 q215521 hm215574 (nm_c (rn_oa he215723 he215721) nm_n)).trans he215723
          have hfr215764 : rFr [(γ 9 2)] P215518 F215718 F215758 := rFr_call (rSub_rf (P := P215518)) (rFr_rf (W := []) (P := P215518) (F := F215718)) hfr215760 (fun b hb hn => ⟨nm_n, (nm_c (fun e => hn (e ▸ List.mem_cons_self)) nm_n)⟩)
          change G _ _ _ _ _ _ _ _ _ _ _
          refine G_widen (cs' := 0) (sl' := 0) (by omega) (by omega) ?_
          have hT215765 : RS D I P215518 F215758 γ el := RS_fr hT215725 hfr215764 ht215547 (by decide) ⟨f215755, he215761, x215756⟩
          have hs215766 : rStr γ [] F215519 F215758 := rStr_fr hT215725 hs215726 hfr215764 ht215547 (by decide)
          have lv215767 : rLv γ F215519 F215758 := rLv_fr hT215725 ht215545 lv215727 hfr215764 ht215547 (by decide)
          have kp215768 : F215758 q215520 = F215519 q215520 := (hfr215764 q215520 (RS_m hT215725 htq215520 (by decide)) (nm_c (rn_ty htq215520 ht215547 (by decide)) nm_n)).trans kp215728
          exact G_vretA dr_cX17_back_79 rfl (Nat.le_of_ble_eq_true rfl) (Nat.le_of_ble_eq_true rfl) ⟨F215758, rfl, rfl, hT215765, hs215766, (Nat.le_of_ble_eq_true rfl), (Nat.le_of_ble_eq_true rfl), (fun k => by rw [cL_of he215761, cL_of he215572, bkS_of he215575, (decide_eq_false (show ¬ (p215522.toInt = 1) by omega))]; exact bk_n true false true (decide_eq_true (show (p215576.toInt ≤ 21) by omega)) (decide_eq_false (show ¬ (p215576.toInt ≠ 20 ∧ p215576.toInt ≠ 21 ∧ p215576.toInt ≠ 30 ∧ p215581.toInt = 1) by omega)) (decide_eq_true (show (0 < p215576.toInt ∧ p215576.toInt < 20 ∧ p215582.toInt = 1) by omega)) (by rw [x215757 k, x215717 k, show o215593.toInt = p215577.toInt by omega]; simp)), lv215767, kp215768⟩
      · have r215769 : o215736.toInt ≠ 0 := gj_neq hc215738 (show Int32.toInt 0 = 0 by decide)
        have bo215736' : gB o215736 1 1 := ⟨by omega, by omega⟩
        refine G_aload_n 1 dr_cX17_back_50 rfl ?_
        refine Gp_get 2 hm215524 he215722 dr_cX17_back_51 (gk_X17 D I) (Nat.le_of_ble_eq_true rfl) wr_7_76 rfl ?_
        refine G_aload_n 2 dr_cX17_back_54 rfl ?_
        refine Gp_get 2 hm215574 he215723 dr_cX17_back_55 (gk_X15 D I) (Nat.le_of_ble_eq_true rfl) wr_9_182 rfl ?_
        refine Gw_callS (As := [.ref (γ 9 2), .int p215578]) (gV_ok D I) (cp_215394_SpillForgeModel_set l hl0 D I P215518 F215718 (γ 9 2) p215578 f215715 hm215571 he215721 ⟨by omega, by omega⟩ x215716) dr_cX17_back_58 ⟨wr_10_185, wr_1_14, wr_10_187, by decide, rfl, (Nat.le_of_ble_eq_true rfl), (Nat.le_of_ble_eq_true rfl)⟩ wr_10_186 (show 0 + 0 ≤ 0 by first | omega | decide) (show 0 + 0 ≤ 0 by first | omega | decide) (Nat.le_of_ble_eq_true rfl) (fun r215773 w215774 dc215770 ds215771 hp215772 => ?_) (fun _ _ _ _ _ z => z.elim)
        obtain ⟨F215778, f215775, rfl, rfl, hfr215780, he215781, hdc, hds, x215776, x215777⟩ := hp215772
        have he215782 : F215778 q215520 = .inr (22, [.ref (γ 9 0), .ref (γ 9 1), .ref (γ 9 2), .ref (γ 9 3), .ref (γ 9 4), .ref (γ 9 5), .ref (γ 9 6), .ref (γ 9 7), .ref (γ 9 8), .int p215528, .int p215529, .int p215530, .int p215531, .int p215532, .int p215533, .ref (γ 9 15), .ref (γ 9 16), .ref (γ 9 17), .ref (γ 9 18), .ref (γ 9 19), .ref (γ 9 20), .ref (γ 9 21), .ref (γ 9 22), .int p215534, .int p215535, .int p215536, .int p215537, .int p215538, .ref q215526, .ref (γ 9 29), .int p215539, .ref (γ 9 31), .int p215540, .int p215541, .int p215542, .ref q215527]) := (hfr215780 q215520 hm215524 (nm_c (rn_oa he215722 he215721) nm_n)).trans he215722
        have he215783 : F215778 q215521 = .inr (20, [.int p215576, .int p215577, .int p215578, .int p215579, .int p215580, .int p215581, .int p215582]) := (hfr215780 q215521 hm215574 (nm_c (rn_oa he215723 he215721) nm_n)).trans he215723
        have hfr215784 : rFr [(γ 9 2)] P215518 F215718 F215778 := rFr_call (rSub_rf (P := P215518)) (rFr_rf (W := []) (P := P215518) (F := F215718)) hfr215780 (fun b hb hn => ⟨nm_n, (nm_c (fun e => hn (e ▸ List.mem_cons_self)) nm_n)⟩)
        change G _ _ _ _ _ _ _ _ _ _ _
        refine G_widen (cs' := 0) (sl' := 0) (by omega) (by omega) ?_
        have hT215785 : RS D I P215518 F215778 γ el := RS_fr hT215725 hfr215784 ht215547 (by decide) ⟨f215775, he215781, x215776⟩
        have hs215786 : rStr γ [] F215519 F215778 := rStr_fr hT215725 hs215726 hfr215784 ht215547 (by decide)
        have lv215787 : rLv γ F215519 F215778 := rLv_fr hT215725 ht215545 lv215727 hfr215784 ht215547 (by decide)
        have kp215788 : F215778 q215520 = F215519 q215520 := (hfr215784 q215520 (RS_m hT215725 htq215520 (by decide)) (nm_c (rn_ty htq215520 ht215547 (by decide)) nm_n)).trans kp215728
        refine G_aload_n 2 dr_cX17_back_61 rfl ?_
        refine Gw_callV (As := []) (gV_ok D I) (cp_215463_Row_usesB l hl0 D I P215518 F215778 q215521 p215576 p215577 p215578 p215579 p215580 p215581 p215582 hm215574 he215783 bp215576 bp215577 bp215580 bp215581 bp215582) dr_cX17_back_62 ⟨wr_10_192, wr_1_39, wr_10_195, by decide, rfl, (Nat.le_of_ble_eq_true rfl), (Nat.le_of_ble_eq_true rfl)⟩ wr_10_193 wr_10_194 hm215574 he215783 rfl (show 0 + 0 ≤ 0 by first | omega | decide) (show 0 + 0 ≤ 0 by first | omega | decide) (Nat.le_of_ble_eq_true rfl) (fun r215792 w215793 dc215789 ds215790 hp215791 => ?_) (fun _ _ _ _ _ z => z.elim)
        obtain ⟨o215794, rfl, rfl, hdc, hds, bo215794, x215795⟩ := hp215791
        change G _ _ _ _ _ _ _ (.int o215794 :: _) _ _ _
        refine G_widen (cs' := 0) (sl' := 0) (by omega) (by omega) ?_
        refine G_if_eq 79 dr_cX17_back_65 (by decide +kernel) (fun hc215796 => ?_) (fun hc215796 => ?_)
        · have r215797 : o215794.toInt = 0 := gj_eq hc215796 (show Int32.toInt 0 = 0 by decide)
          have bo215794' : gB o215794 0 0 := ⟨by omega, by omega⟩
          exact G_vretA dr_cX17_back_79 rfl (Nat.le_of_ble_eq_true rfl) (Nat.le_of_ble_eq_true rfl) ⟨F215778, rfl, rfl, hT215785, hs215786, (Nat.le_of_ble_eq_true rfl), (Nat.le_of_ble_eq_true rfl), (fun k => by rw [cL_of he215781, cL_of he215572, bkS_of he215575, (decide_eq_false (show ¬ (p215522.toInt = 1) by omega))]; exact bk_n true true false (decide_eq_true (show (p215576.toInt ≤ 21) by omega)) (decide_eq_true (show (p215576.toInt ≠ 20 ∧ p215576.toInt ≠ 21 ∧ p215576.toInt ≠ 30 ∧ p215581.toInt = 1) by omega)) (decide_eq_false (show ¬ (0 < p215576.toInt ∧ p215576.toInt < 20 ∧ p215582.toInt = 1) by omega)) (by rw [x215777 k, x215717 k, show o215593.toInt = p215577.toInt by omega]; simp)), lv215787, kp215788⟩
        · have r215798 : o215794.toInt ≠ 0 := gj_neq hc215796 (show Int32.toInt 0 = 0 by decide)
          have bo215794' : gB o215794 1 1 := ⟨by omega, by omega⟩
          refine G_aload_n 1 dr_cX17_back_68 rfl ?_
          refine Gp_get 2 hm215524 he215782 dr_cX17_back_69 (gk_X17 D I) (Nat.le_of_ble_eq_true rfl) wr_7_76 rfl ?_
          refine G_aload_n 2 dr_cX17_back_72 rfl ?_
          refine Gp_get 3 hm215574 he215783 dr_cX17_back_73 (gk_X15 D I) (Nat.le_of_ble_eq_true rfl) wr_9_186 rfl ?_
          refine Gw_callS (As := [.ref (γ 9 2), .int p215579]) (gV_ok D I) (cp_215394_SpillForgeModel_set l hl0 D I P215518 F215778 (γ 9 2) p215579 f215775 hm215571 he215781 ⟨by omega, by omega⟩ x215776) dr_cX17_back_76 ⟨wr_10_185, wr_1_14, wr_10_187, by decide, rfl, (Nat.le_of_ble_eq_true rfl), (Nat.le_of_ble_eq_true rfl)⟩ wr_10_186 (show 0 + 0 ≤ 0 by first | omega | decide) (show 0 + 0 ≤ 0 by first | omega | decide) (Nat.le_of_ble_eq_true rfl) (fun r215802 w215803 dc215799 ds215800 hp215801 => ?_) (fun _ _ _ _ _ z => z.elim)
          obtain ⟨F215807, f215804, rfl, rfl, hfr215809, he215810, hdc, hds, x215805, x215806⟩ := hp215801
          have he215811 : F215807 q215520 = .inr (22, [.ref (γ 9 0), .ref (γ 9 1), .ref (γ 9 2), .ref (γ 9 3), .ref (γ 9 4), .ref (γ 9 5), .ref (γ 9 6), .ref (γ 9 7), .ref (γ 9 8), .int p215528, .int p215529, .int p215530, .int p215531, .int p215532, .int p215533, .ref (γ 9 15), .ref (γ 9 16), .ref (γ 9 17), .ref (γ 9 18), .ref (γ 9 19), .ref (γ 9 20), .ref (γ 9 21), .ref (γ 9 22), .int p215534, .int p215535, .int p215536, .int p215537, .int p215538, .ref q215526, .ref (γ 9 29), .int p215539, .ref (γ 9 31), .int p215540, .int p215541, .int p215542, .ref q215527]) := (hfr215809 q215520 hm215524 (nm_c (rn_oa he215782 he215781) nm_n)).trans he215782
          have he215812 : F215807 q215521 = .inr (20, [.int p215576, .int p215577, .int p215578, .int p215579, .int p215580, .int p215581, .int p215582]) := (hfr215809 q215521 hm215574 (nm_c (rn_oa he215783 he215781) nm_n)).trans he215783
          have hfr215813 : rFr [(γ 9 2)] P215518 F215778 F215807 := rFr_call (rSub_rf (P := P215518)) (rFr_rf (W := []) (P := P215518) (F := F215778)) hfr215809 (fun b hb hn => ⟨nm_n, (nm_c (fun e => hn (e ▸ List.mem_cons_self)) nm_n)⟩)
          change G _ _ _ _ _ _ _ _ _ _ _
          refine G_widen (cs' := 0) (sl' := 0) (by omega) (by omega) ?_
          have hT215814 : RS D I P215518 F215807 γ el := RS_fr hT215785 hfr215813 ht215547 (by decide) ⟨f215804, he215810, x215805⟩
          have hs215815 : rStr γ [] F215519 F215807 := rStr_fr hT215785 hs215786 hfr215813 ht215547 (by decide)
          have lv215816 : rLv γ F215519 F215807 := rLv_fr hT215785 ht215545 lv215787 hfr215813 ht215547 (by decide)
          have kp215817 : F215807 q215520 = F215519 q215520 := (hfr215813 q215520 (RS_m hT215785 htq215520 (by decide)) (nm_c (rn_ty htq215520 ht215547 (by decide)) nm_n)).trans kp215788
          exact G_vretA dr_cX17_back_79 rfl (Nat.le_of_ble_eq_true rfl) (Nat.le_of_ble_eq_true rfl) ⟨F215807, rfl, rfl, hT215814, hs215815, (Nat.le_of_ble_eq_true rfl), (Nat.le_of_ble_eq_true rfl), (fun k => by rw [cL_of he215810, cL_of he215572, bkS_of he215575, (decide_eq_false (show ¬ (p215522.toInt = 1) by omega))]; exact bk_n true true true (decide_eq_true (show (p215576.toInt ≤ 21) by omega)) (decide_eq_true (show (p215576.toInt ≠ 20 ∧ p215576.toInt ≠ 21 ∧ p215576.toInt ≠ 30 ∧ p215581.toInt = 1) by omega)) (decide_eq_true (show (0 < p215576.toInt ∧ p215576.toInt < 20 ∧ p215582.toInt = 1) by omega)) (by rw [x215806 k, x215777 k, x215717 k, show o215593.toInt = p215577.toInt by omega]; simp)), lv215816, kp215817⟩
    · have r215818 : p215522.toInt ≠ 0 := gj_neq hc215729 (show Int32.toInt 0 = 0 by decide)
      have bp215522' : gB p215522 1 1 := ⟨by omega, by omega⟩
      refine G_aload_n 2 dr_cX17_back_22 rfl ?_
      refine Gp_get 0 hm215574 he215723 dr_cX17_back_23 (gk_X15 D I) (Nat.le_of_ble_eq_true rfl) wr_9_173 rfl ?_
      refine G_bipush 21 dr_cX17_back_26 (by decide +kernel) ?_
      refine G_icmp_ne 42 dr_cX17_back_28 (by decide +kernel) (fun hc215819 => ?_) (fun hc215819 => ?_)
      · have r215820 : p215576.toInt ≠ 21 := gj_neq hc215819 (show Int32.toInt 21 = 21 by decide)
        exact G_vretA dr_cX17_back_42 rfl (Nat.le_of_ble_eq_true rfl) (Nat.le_of_ble_eq_true rfl) ⟨F215718, rfl, rfl, hT215725, hs215726, (Nat.le_of_ble_eq_true rfl), (Nat.le_of_ble_eq_true rfl), (fun k => by rw [cL_of he215721, cL_of he215572, bkS_of he215575, (decide_eq_true (show (p215522.toInt = 1) by omega))]; exact bk_s true false (decide_eq_true (show (p215576.toInt = 23) by omega)) (decide_eq_false (show ¬ (p215576.toInt = 21) by omega)) (by rw [x215717 k, show o215593.toInt = p215580.toInt by omega]; simp)), lv215727, kp215728⟩
      · have r215821 : p215576.toInt = 21 := gj_eq hc215819 (show Int32.toInt 21 = 21 by decide)
        have bp215576' : gB p215576 21 21 := ⟨by omega, by omega⟩
        refine G_aload_n 1 dr_cX17_back_31 rfl ?_
        refine Gp_get 2 hm215524 he215722 dr_cX17_back_32 (gk_X17 D I) (Nat.le_of_ble_eq_true rfl) wr_7_76 rfl ?_
        refine G_aload_n 2 dr_cX17_back_35 rfl ?_
        refine Gp_get 4 hm215574 he215723 dr_cX17_back_36 (gk_X15 D I) (Nat.le_of_ble_eq_true rfl) wr_9_189 rfl ?_
        refine Gw_callS (As := [.ref (γ 9 2), .int p215580]) (gV_ok D I) (cp_215394_SpillForgeModel_set l hl0 D I P215518 F215718 (γ 9 2) p215580 f215715 hm215571 he215721 bp215580 x215716) dr_cX17_back_39 ⟨wr_10_185, wr_1_14, wr_10_187, by decide, rfl, (Nat.le_of_ble_eq_true rfl), (Nat.le_of_ble_eq_true rfl)⟩ wr_10_186 (show 0 + 0 ≤ 0 by first | omega | decide) (show 0 + 0 ≤ 0 by first | omega | decide) (Nat.le_of_ble_eq_true rfl) (fun r215825 w215826 dc215822 ds215823 hp215824 => ?_) (fun _ _ _ _ _ z => z.elim)
        obtain ⟨F215830, f215827, rfl, rfl, hfr215832, he215833, hdc, hds, x215828, x215829⟩ := hp215824
        have he215834 : F215830 q215520 = .inr (22, [.ref (γ 9 0), .ref (γ 9 1), .ref (γ 9 2), .ref (γ 9 3), .ref (γ 9 4), .ref (γ 9 5), .ref (γ 9 6), .ref (γ 9 7), .ref (γ 9 8), .int p215528, .int p215529, .int p215530, .int p215531, .int p215532, .int p215533, .ref (γ 9 15), .ref (γ 9 16), .ref (γ 9 17), .ref (γ 9 18), .ref (γ 9 19), .ref (γ 9 20), .ref (γ 9 21), .ref (γ 9 22), .int p215534, .int p215535, .int p215536, .int p215537, .int p215538, .ref q215526, .ref (γ 9 29), .int p215539, .ref (γ 9 31), .int p215540, .int p215541, .int p215542, .ref q215527]) := (hfr215832 q215520 hm215524 (nm_c (rn_oa he215722 he215721) nm_n)).trans he215722
        have he215835 : F215830 q215521 = .inr (20, [.int p215576, .int p215577, .int p215578, .int p215579, .int p215580, .int p215581, .int p215582]) := (hfr215832 q215521 hm215574 (nm_c (rn_oa he215723 he215721) nm_n)).trans he215723
        have hfr215836 : rFr [(γ 9 2)] P215518 F215718 F215830 := rFr_call (rSub_rf (P := P215518)) (rFr_rf (W := []) (P := P215518) (F := F215718)) hfr215832 (fun b hb hn => ⟨nm_n, (nm_c (fun e => hn (e ▸ List.mem_cons_self)) nm_n)⟩)
        change G _ _ _ _ _ _ _ _ _ _ _
        refine G_widen (cs' := 0) (sl' := 0) (by omega) (by omega) ?_
        have hT215837 : RS D I P215518 F215830 γ el := RS_fr hT215725 hfr215836 ht215547 (by decide) ⟨f215827, he215833, x215828⟩
        have hs215838 : rStr γ [] F215519 F215830 := rStr_fr hT215725 hs215726 hfr215836 ht215547 (by decide)
        have lv215839 : rLv γ F215519 F215830 := rLv_fr hT215725 ht215545 lv215727 hfr215836 ht215547 (by decide)
        have kp215840 : F215830 q215520 = F215519 q215520 := (hfr215836 q215520 (RS_m hT215725 htq215520 (by decide)) (nm_c (rn_ty htq215520 ht215547 (by decide)) nm_n)).trans kp215728
        exact G_vretA dr_cX17_back_42 rfl (Nat.le_of_ble_eq_true rfl) (Nat.le_of_ble_eq_true rfl) ⟨F215830, rfl, rfl, hT215837, hs215838, (Nat.le_of_ble_eq_true rfl), (Nat.le_of_ble_eq_true rfl), (fun k => by rw [cL_of he215833, cL_of he215572, bkS_of he215575, (decide_eq_true (show (p215522.toInt = 1) by omega))]; exact bk_s true true (decide_eq_true (show (p215576.toInt = 23) by omega)) (decide_eq_true (show (p215576.toInt = 21) by omega)) (by rw [x215829 k, x215717 k, show o215593.toInt = p215580.toInt by omega]; simp)), lv215839, kp215840⟩
