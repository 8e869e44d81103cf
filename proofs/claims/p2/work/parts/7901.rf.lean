abbrev ky_214484_SpillForgeModel_set : gKey := (cX17_set, 2, "SpillForgeModel", none, [], "set", fun _ _ => True)
def pp_214484_SpillForgeModel_set (D : va_G) (I : FieldType → ClassId) (P214478 : List Nat) (F214479 : Nat → va_E) (q214480 : Nat) (p214481 : Int32) (f214482 : Nat → Int64) : Option Value → va_W → Nat → Nat → Prop := fun r w dc ds => ∃ (F214497 : Nat → va_E) (f214495 : Nat → Int64), r = none ∧ w = va_pl P214478 F214497 ∧ rFr [q214480] P214478 F214479 F214497 ∧ F214497 q214480 = .inl (I .long, 32, .inr (.inl f214495)) ∧ dc ≤ 0 ∧ ds ≤ 0 ∧ lb_W f214495 (32) (32) (2000) ∧ (∀ k : Nat, rbt f214495 k = (rbt f214482 k || decide ((k : Int) = p214481.toInt)))
set_option maxRecDepth 100000 in
set_option maxHeartbeats 4000000 in
theorem cp_214484_SpillForgeModel_set (l : Launch) (hl0 : l.stackTraces = false) (D : va_G) (I : FieldType → ClassId) (P214478 : List Nat) (F214479 : Nat → va_E) (q214480 : Nat) (p214481 : Int32) (f214482 : Nat → Int64) (hmq214480 : q214480 ∈ P214478) (heq214480 : F214479 q214480 = .inl (I .long, 32, .inr (.inl f214482))) (bp214481 : gB p214481 0 1999) (x214483 : lb_W f214482 (32) (32) (2000)) : CtA (gV D I) l yX17_set cX17_set 2 none 0 0 0 0 [.ref q214480, .int p214481] (va_pl P214478 F214479) (pp_214484_SpillForgeModel_set D I P214478 F214479 q214480 p214481 f214482) gNA := by
  refine CtA_of hl0 (by decide) (Nat.le_of_ble_eq_true rfl) ?_
  refine G_aload_n 0 dr_cX17_set_0 rfl ?_
  refine G_iload_n 1 dr_cX17_set_1 rfl ?_
  refine G_bipush 6 dr_cX17_set_2 (by decide +kernel) ?_
  refine G_ishr dr_cX17_set_4 (G_nam fun z214485 hz214485 => ?_)
  have ez214485 : z214485.toInt = p214481.toInt / 64 := gI_shr (k := 6) hz214485 (by decide)
  have bz214485 : gB z214485 0 31 := ⟨by omega, by omega⟩
  refine G_dup2_11 dr_cX17_set_5 rfl rfl ?_
  refine Gp_lald 2 hmq214480 heq214480 dr_cX17_set_6 rfl (gB_in bz214485 (by decide) (by decide)) (G_namL fun u214486 hu214486 => ?_)
  have qu214486 : lb_Q u214486 (2000 - 64 * z214485.toInt) := lb_Wld hu214486 x214483 (by omega) (by omega) (lb_Mod0 (by omega) (by omega))
  refine G_lconst 1 dr_cX17_set_7 rfl ?_
  refine G_iload_n 1 dr_cX17_set_8 rfl ?_
  refine G_lshl dr_cX17_set_9 (G_namL fun u214487 hu214487 => ?_)
  have qu214487 : lb_Q u214487 (p214481.toInt % 64 + 1) := lb_Qshl hu214487 (by omega)
  refine G_lor dr_cX17_set_10 (G_namL fun u214488 hu214488 => ?_)
  have qu214488 : lb_Q u214488 (2000 - 64 * z214485.toInt) := lb_Qor hu214488 qu214486 (lb_Qw qu214487 (by omega))
  refine Gp_last 2 hmq214480 heq214480 dr_cX17_set_11 rfl (gB_in bz214485 (by decide) (by decide)) (fun F214489 e214490 n214491 => ?_)
  obtain ⟨f214492, hf214492⟩ : ∃ z, z = vp_updL f214482 z214485.toNatClampNeg u214488 := ⟨_, rfl⟩
  rw [← hf214492] at e214490
  have he214493 : F214489 q214480 = .inl (I .long, 32, .inr (.inl f214492)) := e214490
  have hfr214494 : rFr [q214480] P214478 F214479 F214489 := rFr_put (rFr_rf (W := []) (P := P214478) (F := F214479)) n214491
  have wf214492 : lb_W f214492 (32) (32) (2000) := lb_Wst hf214492 x214483 (by omega) (lb_Mod0 (by omega) (by omega)) qu214488
  exact G_vretA dr_cX17_set_12 rfl (Nat.le_of_ble_eq_true rfl) (Nat.le_of_ble_eq_true rfl) ⟨F214489, f214492, rfl, rfl, hfr214494, he214493, (Nat.le_of_ble_eq_true rfl), (Nat.le_of_ble_eq_true rfl), wf214492, (rbt_set (by assumption) (by assumption) (by assumption) (by assumption) hf214492 (by omega))⟩
abbrev ky_214504_SpillForgeModel_clear : gKey := (cX17_clear, 2, "SpillForgeModel", none, [], "clear", fun _ _ => True)
def pp_214504_SpillForgeModel_clear (D : va_G) (I : FieldType → ClassId) (P214498 : List Nat) (F214499 : Nat → va_E) (q214500 : Nat) (p214501 : Int32) (f214502 : Nat → Int64) : Option Value → va_W → Nat → Nat → Prop := fun r w dc ds => ∃ (F214518 : Nat → va_E) (f214516 : Nat → Int64), r = none ∧ w = va_pl P214498 F214518 ∧ rFr [q214500] P214498 F214499 F214518 ∧ F214518 q214500 = .inl (I .long, 32, .inr (.inl f214516)) ∧ dc ≤ 0 ∧ ds ≤ 0 ∧ lb_W f214516 (32) (32) (2000) ∧ (∀ k : Nat, rbt f214516 k = (rbt f214502 k && ! decide ((k : Int) = p214501.toInt)))
set_option maxRecDepth 100000 in
set_option maxHeartbeats 4000000 in
theorem cp_214504_SpillForgeModel_clear (l : Launch) (hl0 : l.stackTraces = false) (D : va_G) (I : FieldType → ClassId) (P214498 : List Nat) (F214499 : Nat → va_E) (q214500 : Nat) (p214501 : Int32) (f214502 : Nat → Int64) (hmq214500 : q214500 ∈ P214498) (heq214500 : F214499 q214500 = .inl (I .long, 32, .inr (.inl f214502))) (bp214501 : gB p214501 0 1999) (x214503 : lb_W f214502 (32) (32) (2000)) : CtA (gV D I) l yX17_clear cX17_clear 2 none 0 0 0 0 [.ref q214500, .int p214501] (va_pl P214498 F214499) (pp_214504_SpillForgeModel_clear D I P214498 F214499 q214500 p214501 f214502) gNA := by
  refine CtA_of hl0 (by decide) (Nat.le_of_ble_eq_true rfl) ?_
  refine G_aload_n 0 dr_cX17_clear_0 rfl ?_
  refine G_iload_n 1 dr_cX17_clear_1 rfl ?_
  refine G_bipush 6 dr_cX17_clear_2 (by decide +kernel) ?_
  refine G_ishr dr_cX17_clear_4 (G_nam fun z214505 hz214505 => ?_)
  have ez214505 : z214505.toInt = p214501.toInt / 64 := gI_shr (k := 6) hz214505 (by decide)
  have bz214505 : gB z214505 0 31 := ⟨by omega, by omega⟩
  refine G_dup2_11 dr_cX17_clear_5 rfl rfl ?_
  refine Gp_lald 2 hmq214500 heq214500 dr_cX17_clear_6 rfl (gB_in bz214505 (by decide) (by decide)) (G_namL fun u214506 hu214506 => ?_)
  have qu214506 : lb_Q u214506 (2000 - 64 * z214505.toInt) := lb_Wld hu214506 x214503 (by omega) (by omega) (lb_Mod0 (by omega) (by omega))
  refine G_lconst 1 dr_cX17_clear_7 rfl ?_
  refine G_iload_n 1 dr_cX17_clear_8 rfl ?_
  refine G_lshl dr_cX17_clear_9 (G_namL fun u214507 hu214507 => ?_)
  have qu214507 : lb_Q u214507 (p214501.toInt % 64 + 1) := lb_Qshl hu214507 (by omega)
  refine G_ldc2 (-1) dr_cX17_clear_10 wr_10_188 ?_
  refine G_lxor dr_cX17_clear_13 (G_namL fun u214508 hu214508 => ?_)
  refine G_land dr_cX17_clear_14 (G_namL fun u214509 hu214509 => ?_)
  have qu214509 : lb_Q u214509 (2000 - 64 * z214505.toInt) := lb_QandL hu214509 qu214506
  refine Gp_last 2 hmq214500 heq214500 dr_cX17_clear_15 rfl (gB_in bz214505 (by decide) (by decide)) (fun F214510 e214511 n214512 => ?_)
  obtain ⟨f214513, hf214513⟩ : ∃ z, z = vp_updL f214502 z214505.toNatClampNeg u214509 := ⟨_, rfl⟩
  rw [← hf214513] at e214511
  have he214514 : F214510 q214500 = .inl (I .long, 32, .inr (.inl f214513)) := e214511
  have hfr214515 : rFr [q214500] P214498 F214499 F214510 := rFr_put (rFr_rf (W := []) (P := P214498) (F := F214499)) n214512
  have wf214513 : lb_W f214513 (32) (32) (2000) := lb_Wst hf214513 x214503 (by omega) (lb_Mod0 (by omega) (by omega)) qu214509
  exact G_vretA dr_cX17_clear_16 rfl (Nat.le_of_ble_eq_true rfl) (Nat.le_of_ble_eq_true rfl) ⟨F214510, f214513, rfl, rfl, hfr214515, he214514, (Nat.le_of_ble_eq_true rfl), (Nat.le_of_ble_eq_true rfl), wf214513, (rbt_clr (by assumption) (by assumption) (by assumption) (by assumption) (by assumption) hf214513 (by omega))⟩
abbrev ky_214529_Row_usesA : gKey := (cX15_usesA, 1, "SpillForgeModel$Row", (some FieldType.boolean), [], "usesA", fun _ _ => True)
def pp_214529_Row_usesA (D : va_G) (I : FieldType → ClassId) (P214519 : List Nat) (F214520 : Nat → va_E) (q214521 : Nat) (p214522 : Int32) (p214523 : Int32) (p214524 : Int32) (p214525 : Int32) (p214526 : Int32) (p214527 : Int32) (p214528 : Int32) : Option Value → va_W → Nat → Nat → Prop := fun r w dc ds => ∃ (o214542 : Int32), r = some (.int o214542) ∧ w = va_pl P214519 F214520 ∧ dc ≤ 0 ∧ ds ≤ 0 ∧ gB o214542 0 1 ∧ ((o214542.toInt = 1 ∧ p214522.toInt ≠ 20 ∧ p214522.toInt ≠ 21 ∧ p214522.toInt ≠ 30 ∧ p214527.toInt = 1) ∨ (o214542.toInt = 0 ∧ (p214522.toInt = 20 ∨ p214522.toInt = 21 ∨ p214522.toInt = 30 ∨ p214527.toInt = 0)))
set_option maxRecDepth 100000 in
set_option maxHeartbeats 4000000 in
theorem cp_214529_Row_usesA (l : Launch) (hl0 : l.stackTraces = false) (D : va_G) (I : FieldType → ClassId) (P214519 : List Nat) (F214520 : Nat → va_E) (q214521 : Nat) (p214522 : Int32) (p214523 : Int32) (p214524 : Int32) (p214525 : Int32) (p214526 : Int32) (p214527 : Int32) (p214528 : Int32) (hmq214521 : q214521 ∈ P214519) (heq214521 : F214520 q214521 = .inr (20, [.int p214522, .int p214523, .int p214524, .int p214525, .int p214526, .int p214527, .int p214528])) (bp214522 : gB p214522 0 32) (bp214523 : gB p214523 0 1999) (bp214526 : gB p214526 0 1999) (bp214527 : gB p214527 0 1) (bp214528 : gB p214528 0 1) : CtA (gV D I) l yX15_usesA cX15_usesA 1 (some FieldType.boolean) 0 0 0 0 [.ref q214521] (va_pl P214519 F214520) (pp_214529_Row_usesA D I P214519 F214520 q214521 p214522 p214523 p214524 p214525 p214526 p214527 p214528) gNA := by
  refine CtA_of hl0 (by decide) (Nat.le_of_ble_eq_true rfl) ?_
  have bp214524 := gB_any p214524
  have bp214525 := gB_any p214525
  refine G_aload_n 0 dr_cX15_usesA_0 rfl ?_
  refine Gp_get 0 hmq214521 heq214521 dr_cX15_usesA_1 (gk_X15 D I) (Nat.le_of_ble_eq_true rfl) wr_9_175 rfl ?_
  refine G_bipush 20 dr_cX15_usesA_4 (by decide +kernel) ?_
  refine G_icmp_eq 38 dr_cX15_usesA_6 (by decide +kernel) (fun hc214530 => ?_) (fun hc214530 => ?_)
  · have r214531 : p214522.toInt = 20 := gj_eq hc214530 (show Int32.toInt 20 = 20 by decide)
    have bp214522' : gB p214522 20 20 := ⟨by omega, by omega⟩
    refine G_iconst 0 dr_cX15_usesA_38 (by decide +kernel) ?_
    exact G_zretA FieldType.boolean dr_cX15_usesA_39 rfl rfl (Nat.le_of_ble_eq_true rfl) (Nat.le_of_ble_eq_true rfl) ⟨0, rfl, rfl, (Nat.le_of_ble_eq_true rfl), (Nat.le_of_ble_eq_true rfl), (gB_w (gBl (show Int32.toInt 0 = 0 by decide)) (by decide) (by decide)), (by have qa0 : Int32.toInt 0 = 0 := (by decide); omega)⟩
  · have r214532 : p214522.toInt ≠ 20 := gj_neq hc214530 (show Int32.toInt 20 = 20 by decide)
    refine G_aload_n 0 dr_cX15_usesA_9 rfl ?_
    refine Gp_get 0 hmq214521 heq214521 dr_cX15_usesA_10 (gk_X15 D I) (Nat.le_of_ble_eq_true rfl) wr_9_175 rfl ?_
    refine G_bipush 21 dr_cX15_usesA_13 (by decide +kernel) ?_
    refine G_icmp_eq 38 dr_cX15_usesA_15 (by decide +kernel) (fun hc214533 => ?_) (fun hc214533 => ?_)
    · have r214534 : p214522.toInt = 21 := gj_eq hc214533 (show Int32.toInt 21 = 21 by decide)
      have bp214522' : gB p214522 21 21 := ⟨by omega, by omega⟩
      refine G_iconst 0 dr_cX15_usesA_38 (by decide +kernel) ?_
      exact G_zretA FieldType.boolean dr_cX15_usesA_39 rfl rfl (Nat.le_of_ble_eq_true rfl) (Nat.le_of_ble_eq_true rfl) ⟨0, rfl, rfl, (Nat.le_of_ble_eq_true rfl), (Nat.le_of_ble_eq_true rfl), (gB_w (gBl (show Int32.toInt 0 = 0 by decide)) (by decide) (by decide)), (by have qa0 : Int32.toInt 0 = 0 := (by decide); omega)⟩
    · have r214535 : p214522.toInt ≠ 21 := gj_neq hc214533 (show Int32.toInt 21 = 21 by decide)
      refine G_aload_n 0 dr_cX15_usesA_18 rfl ?_
      refine Gp_get 0 hmq214521 heq214521 dr_cX15_usesA_19 (gk_X15 D I) (Nat.le_of_ble_eq_true rfl) wr_9_175 rfl ?_
      refine G_bipush 30 dr_cX15_usesA_22 (by decide +kernel) ?_
      refine G_icmp_eq 38 dr_cX15_usesA_24 (by decide +kernel) (fun hc214536 => ?_) (fun hc214536 => ?_)
      · have r214537 : p214522.toInt = 30 := gj_eq hc214536 (show Int32.toInt 30 = 30 by decide)
        have bp214522' : gB p214522 30 30 := ⟨by omega, by omega⟩
        refine G_iconst 0 dr_cX15_usesA_38 (by decide +kernel) ?_
        exact G_zretA FieldType.boolean dr_cX15_usesA_39 rfl rfl (Nat.le_of_ble_eq_true rfl) (Nat.le_of_ble_eq_true rfl) ⟨0, rfl, rfl, (Nat.le_of_ble_eq_true rfl), (Nat.le_of_ble_eq_true rfl), (gB_w (gBl (show Int32.toInt 0 = 0 by decide)) (by decide) (by decide)), (by have qa0 : Int32.toInt 0 = 0 := (by decide); omega)⟩
      · have r214538 : p214522.toInt ≠ 30 := gj_neq hc214536 (show Int32.toInt 30 = 30 by decide)
        refine G_aload_n 0 dr_cX15_usesA_27 rfl ?_
        refine Gp_get 5 hmq214521 heq214521 dr_cX15_usesA_28 (gk_X15 D I) (Nat.le_of_ble_eq_true rfl) wr_9_195 rfl ?_
        refine G_if_eq 38 dr_cX15_usesA_31 (by decide +kernel) (fun hc214539 => ?_) (fun hc214539 => ?_)
        · have r214540 : p214527.toInt = 0 := gj_eq hc214539 (show Int32.toInt 0 = 0 by decide)
          have bp214527' : gB p214527 0 0 := ⟨by omega, by omega⟩
          refine G_iconst 0 dr_cX15_usesA_38 (by decide +kernel) ?_
          exact G_zretA FieldType.boolean dr_cX15_usesA_39 rfl rfl (Nat.le_of_ble_eq_true rfl) (Nat.le_of_ble_eq_true rfl) ⟨0, rfl, rfl, (Nat.le_of_ble_eq_true rfl), (Nat.le_of_ble_eq_true rfl), (gB_w (gBl (show Int32.toInt 0 = 0 by decide)) (by decide) (by decide)), (by have qa0 : Int32.toInt 0 = 0 := (by decide); omega)⟩
        · have r214541 : p214527.toInt ≠ 0 := gj_neq hc214539 (show Int32.toInt 0 = 0 by decide)
          have bp214527' : gB p214527 1 1 := ⟨by omega, by omega⟩
          refine G_iconst 1 dr_cX15_usesA_34 (by decide +kernel) ?_
          refine G_goto 39 dr_cX15_usesA_35 (by decide +kernel) ?_
          exact G_zretA FieldType.boolean dr_cX15_usesA_39 rfl rfl (Nat.le_of_ble_eq_true rfl) (Nat.le_of_ble_eq_true rfl) ⟨1, rfl, rfl, (Nat.le_of_ble_eq_true rfl), (Nat.le_of_ble_eq_true rfl), (gB_w (gBl (show Int32.toInt 1 = 1 by decide)) (by decide) (by decide)), (by have qa0 : Int32.toInt 1 = 1 := (by decide); omega)⟩
abbrev ky_214553_Row_usesB : gKey := (cX15_usesB, 1, "SpillForgeModel$Row", (some FieldType.boolean), [], "usesB", fun _ _ => True)
def pp_214553_Row_usesB (D : va_G) (I : FieldType → ClassId) (P214543 : List Nat) (F214544 : Nat → va_E) (q214545 : Nat) (p214546 : Int32) (p214547 : Int32) (p214548 : Int32) (p214549 : Int32) (p214550 : Int32) (p214551 : Int32) (p214552 : Int32) : Option Value → va_W → Nat → Nat → Prop := fun r w dc ds => ∃ (o214563 : Int32), r = some (.int o214563) ∧ w = va_pl P214543 F214544 ∧ dc ≤ 0 ∧ ds ≤ 0 ∧ gB o214563 0 1 ∧ ((o214563.toInt = 1 ∧ 0 < p214546.toInt ∧ p214546.toInt < 20 ∧ p214552.toInt = 1) ∨ (o214563.toInt = 0 ∧ (p214546.toInt ≤ 0 ∨ 20 ≤ p214546.toInt ∨ p214552.toInt = 0)))
set_option maxRecDepth 100000 in
set_option maxHeartbeats 4000000 in
theorem cp_214553_Row_usesB (l : Launch) (hl0 : l.stackTraces = false) (D : va_G) (I : FieldType → ClassId) (P214543 : List Nat) (F214544 : Nat → va_E) (q214545 : Nat) (p214546 : Int32) (p214547 : Int32) (p214548 : Int32) (p214549 : Int32) (p214550 : Int32) (p214551 : Int32) (p214552 : Int32) (hmq214545 : q214545 ∈ P214543) (heq214545 : F214544 q214545 = .inr (20, [.int p214546, .int p214547, .int p214548, .int p214549, .int p214550, .int p214551, .int p214552])) (bp214546 : gB p214546 0 32) (bp214547 : gB p214547 0 1999) (bp214550 : gB p214550 0 1999) (bp214551 : gB p214551 0 1) (bp214552 : gB p214552 0 1) : CtA (gV D I) l yX15_usesB cX15_usesB 1 (some FieldType.boolean) 0 0 0 0 [.ref q214545] (va_pl P214543 F214544) (pp_214553_Row_usesB D I P214543 F214544 q214545 p214546 p214547 p214548 p214549 p214550 p214551 p214552) gNA := by
  refine CtA_of hl0 (by decide) (Nat.le_of_ble_eq_true rfl) ?_
  have bp214548 := gB_any p214548
  have bp214549 := gB_any p214549
  refine G_aload_n 0 dr_cX15_usesB_0 rfl ?_
  refine Gp_get 0 hmq214545 heq214545 dr_cX15_usesB_1 (gk_X15 D I) (Nat.le_of_ble_eq_true rfl) wr_9_175 rfl ?_
  refine G_if_le 27 dr_cX15_usesB_4 (by decide +kernel) (fun hc214554 => ?_) (fun hc214554 => ?_)
  · have r214555 : p214546.toInt ≤ 0 := gj_le hc214554 (show Int32.toInt 0 = 0 by decide)
    have bp214546' : gB p214546 0 0 := ⟨by omega, by omega⟩
    refine G_iconst 0 dr_cX15_usesB_27 (by decide +kernel) ?_
    exact G_zretA FieldType.boolean dr_cX15_usesB_28 rfl rfl (Nat.le_of_ble_eq_true rfl) (Nat.le_of_ble_eq_true rfl) ⟨0, rfl, rfl, (Nat.le_of_ble_eq_true rfl), (Nat.le_of_ble_eq_true rfl), (gB_w (gBl (show Int32.toInt 0 = 0 by decide)) (by decide) (by decide)), (by have qa0 : Int32.toInt 0 = 0 := (by decide); omega)⟩
  · have r214556 : 0 < p214546.toInt := gj_nle hc214554 (show Int32.toInt 0 = 0 by decide)
    have bp214546' : gB p214546 1 32 := ⟨by omega, by omega⟩
    refine G_aload_n 0 dr_cX15_usesB_7 rfl ?_
    refine Gp_get 0 hmq214545 heq214545 dr_cX15_usesB_8 (gk_X15 D I) (Nat.le_of_ble_eq_true rfl) wr_9_175 rfl ?_
    refine G_bipush 20 dr_cX15_usesB_11 (by decide +kernel) ?_
    refine G_icmp_ge 27 dr_cX15_usesB_13 (by decide +kernel) (fun hc214557 => ?_) (fun hc214557 => ?_)
    · have r214558 : 20 ≤ p214546.toInt := gj_leL hc214557 (show Int32.toInt 20 = 20 by decide)
      have bp214546'' : gB p214546 20 32 := ⟨by omega, by omega⟩
      refine G_iconst 0 dr_cX15_usesB_27 (by decide +kernel) ?_
      exact G_zretA FieldType.boolean dr_cX15_usesB_28 rfl rfl (Nat.le_of_ble_eq_true rfl) (Nat.le_of_ble_eq_true rfl) ⟨0, rfl, rfl, (Nat.le_of_ble_eq_true rfl), (Nat.le_of_ble_eq_true rfl), (gB_w (gBl (show Int32.toInt 0 = 0 by decide)) (by decide) (by decide)), (by have qa0 : Int32.toInt 0 = 0 := (by decide); omega)⟩
    · have r214559 : p214546.toInt < 20 := gj_nleL hc214557 (show Int32.toInt 20 = 20 by decide)
      have bp214546'' : gB p214546 1 19 := ⟨by omega, by omega⟩
      refine G_aload_n 0 dr_cX15_usesB_16 rfl ?_
      refine Gp_get 6 hmq214545 heq214545 dr_cX15_usesB_17 (gk_X15 D I) (Nat.le_of_ble_eq_true rfl) wr_9_199 rfl ?_
      refine G_if_eq 27 dr_cX15_usesB_20 (by decide +kernel) (fun hc214560 => ?_) (fun hc214560 => ?_)
      · have r214561 : p214552.toInt = 0 := gj_eq hc214560 (show Int32.toInt 0 = 0 by decide)
        have bp214552' : gB p214552 0 0 := ⟨by omega, by omega⟩
        refine G_iconst 0 dr_cX15_usesB_27 (by decide +kernel) ?_
        exact G_zretA FieldType.boolean dr_cX15_usesB_28 rfl rfl (Nat.le_of_ble_eq_true rfl) (Nat.le_of_ble_eq_true rfl) ⟨0, rfl, rfl, (Nat.le_of_ble_eq_true rfl), (Nat.le_of_ble_eq_true rfl), (gB_w (gBl (show Int32.toInt 0 = 0 by decide)) (by decide) (by decide)), (by have qa0 : Int32.toInt 0 = 0 := (by decide); omega)⟩
      · have r214562 : p214552.toInt ≠ 0 := gj_neq hc214560 (show Int32.toInt 0 = 0 by decide)
        have bp214552' : gB p214552 1 1 := ⟨by omega, by omega⟩
        refine G_iconst 1 dr_cX15_usesB_23 (by decide +kernel) ?_
        refine G_goto 28 dr_cX15_usesB_24 (by decide +kernel) ?_
        exact G_zretA FieldType.boolean dr_cX15_usesB_28 rfl rfl (Nat.le_of_ble_eq_true rfl) (Nat.le_of_ble_eq_true rfl) ⟨1, rfl, rfl, (Nat.le_of_ble_eq_true rfl), (Nat.le_of_ble_eq_true rfl), (gB_w (gBl (show Int32.toInt 1 = 1 by decide)) (by decide) (by decide)), (by have qa0 : Int32.toInt 1 = 1 := (by decide); omega)⟩
abbrev ky_214574_Row_sets : gKey := (cX15_sets, 1, "SpillForgeModel$Row", (some FieldType.boolean), [], "sets", fun _ _ => True)
def pp_214574_Row_sets (D : va_G) (I : FieldType → ClassId) (P214564 : List Nat) (F214565 : Nat → va_E) (q214566 : Nat) (p214567 : Int32) (p214568 : Int32) (p214569 : Int32) (p214570 : Int32) (p214571 : Int32) (p214572 : Int32) (p214573 : Int32) : Option Value → va_W → Nat → Nat → Prop := fun r w dc ds => ∃ (o214578 : Int32), r = some (.int o214578) ∧ w = va_pl P214564 F214565 ∧ dc ≤ 0 ∧ ds ≤ 0 ∧ gB o214578 0 1 ∧ ((o214578.toInt = 1 ∧ p214567.toInt ≤ 21) ∨ (o214578.toInt = 0 ∧ 21 < p214567.toInt))
set_option maxRecDepth 100000 in
set_option maxHeartbeats 4000000 in
theorem cp_214574_Row_sets (l : Launch) (hl0 : l.stackTraces = false) (D : va_G) (I : FieldType → ClassId) (P214564 : List Nat) (F214565 : Nat → va_E) (q214566 : Nat) (p214567 : Int32) (p214568 : Int32) (p214569 : Int32) (p214570 : Int32) (p214571 : Int32) (p214572 : Int32) (p214573 : Int32) (hmq214566 : q214566 ∈ P214564) (heq214566 : F214565 q214566 = .inr (20, [.int p214567, .int p214568, .int p214569, .int p214570, .int p214571, .int p214572, .int p214573])) (bp214567 : gB p214567 0 32) (bp214568 : gB p214568 0 1999) (bp214571 : gB p214571 0 1999) (bp214572 : gB p214572 0 1) (bp214573 : gB p214573 0 1) : CtA (gV D I) l yX15_sets cX15_sets 1 (some FieldType.boolean) 0 0 0 0 [.ref q214566] (va_pl P214564 F214565) (pp_214574_Row_sets D I P214564 F214565 q214566 p214567 p214568 p214569 p214570 p214571 p214572 p214573) gNA := by
  refine CtA_of hl0 (by decide) (Nat.le_of_ble_eq_true rfl) ?_
  have bp214569 := gB_any p214569
  have bp214570 := gB_any p214570
  refine G_aload_n 0 dr_cX15_sets_0 rfl ?_
  refine Gp_get 0 hmq214566 heq214566 dr_cX15_sets_1 (gk_X15 D I) (Nat.le_of_ble_eq_true rfl) wr_9_175 rfl ?_
  refine G_bipush 21 dr_cX15_sets_4 (by decide +kernel) ?_
  refine G_icmp_gt 13 dr_cX15_sets_6 (by decide +kernel) (fun hc214575 => ?_) (fun hc214575 => ?_)
  · have r214576 : 21 < p214567.toInt := gj_ltL hc214575 (show Int32.toInt 21 = 21 by decide)
    have bp214567' : gB p214567 22 32 := ⟨by omega, by omega⟩
    refine G_iconst 0 dr_cX15_sets_13 (by decide +kernel) ?_
    exact G_zretA FieldType.boolean dr_cX15_sets_14 rfl rfl (Nat.le_of_ble_eq_true rfl) (Nat.le_of_ble_eq_true rfl) ⟨0, rfl, rfl, (Nat.le_of_ble_eq_true rfl), (Nat.le_of_ble_eq_true rfl), (gB_w (gBl (show Int32.toInt 0 = 0 by decide)) (by decide) (by decide)), (by have qa0 : Int32.toInt 0 = 0 := (by decide); omega)⟩
  · have r214577 : p214567.toInt ≤ 21 := gj_nltL hc214575 (show Int32.toInt 21 = 21 by decide)
    have bp214567' : gB p214567 0 21 := ⟨by omega, by omega⟩
    refine G_iconst 1 dr_cX15_sets_9 (by decide +kernel) ?_
    refine G_goto 14 dr_cX15_sets_10 (by decide +kernel) ?_
    exact G_zretA FieldType.boolean dr_cX15_sets_14 rfl rfl (Nat.le_of_ble_eq_true rfl) (Nat.le_of_ble_eq_true rfl) ⟨1, rfl, rfl, (Nat.le_of_ble_eq_true rfl), (Nat.le_of_ble_eq_true rfl), (gB_w (gBl (show Int32.toInt 1 = 1 by decide)) (by decide) (by decide)), (by have qa0 : Int32.toInt 1 = 1 := (by decide); omega)⟩
abbrev ky_214590_SpillForgeModel_setOf : gKey := (cX17_setOf, 2, "SpillForgeModel", (some FieldType.int), [], "setOf", fun _ _ => True)
def pp_214590_SpillForgeModel_setOf (D : va_G) (I : FieldType → ClassId) (P214579 : List Nat) (F214580 : Nat → va_E) (q214581 : Nat) (p214582 : Int32) (p214583 : Int32) (p214584 : Int32) (p214585 : Int32) (p214586 : Int32) (p214587 : Int32) (p214588 : Int32) (p214589 : Int32) : Option Value → va_W → Nat → Nat → Prop := fun r w dc ds => ∃ (o214607 : Int32), r = some (.int o214607) ∧ w = va_pl P214579 F214580 ∧ dc ≤ 0 ∧ ds ≤ 0 ∧ gB o214607 (-1) 1999 ∧ ((p214582.toInt = 0 ∧ p214583.toInt ≤ 21 ∧ o214607.toInt = p214584.toInt) ∨ (p214582.toInt = 0 ∧ 21 < p214583.toInt ∧ o214607.toInt = -1) ∨ (p214582.toInt = 1 ∧ p214583.toInt = 23 ∧ o214607.toInt = p214587.toInt) ∨ (p214582.toInt = 1 ∧ p214583.toInt ≠ 23 ∧ o214607.toInt = -1))
set_option maxRecDepth 100000 in
set_option maxHeartbeats 4000000 in
theorem cp_214590_SpillForgeModel_setOf (l : Launch) (hl0 : l.stackTraces = false) (D : va_G) (I : FieldType → ClassId) (P214579 : List Nat) (F214580 : Nat → va_E) (q214581 : Nat) (p214582 : Int32) (p214583 : Int32) (p214584 : Int32) (p214585 : Int32) (p214586 : Int32) (p214587 : Int32) (p214588 : Int32) (p214589 : Int32) (hmq214581 : q214581 ∈ P214579) (heq214581 : F214580 q214581 = .inr (20, [.int p214583, .int p214584, .int p214585, .int p214586, .int p214587, .int p214588, .int p214589])) (bp214582 : gB p214582 0 1) (bp214583 : gB p214583 0 32) (bp214584 : gB p214584 0 1999) (bp214587 : gB p214587 0 1999) (bp214588 : gB p214588 0 1) (bp214589 : gB p214589 0 1) : CtA (gV D I) l yX17_setOf cX17_setOf 2 (some FieldType.int) 1 20 0 0 [.ref q214581, .int p214582] (va_pl P214579 F214580) (pp_214590_SpillForgeModel_setOf D I P214579 F214580 q214581 p214582 p214583 p214584 p214585 p214586 p214587 p214588 p214589) gNA := by
  refine CtA_of hl0 (by decide) (Nat.le_of_ble_eq_true rfl) ?_
  have bp214585 := gB_any p214585
  have bp214586 := gB_any p214586
  refine G_iload_n 1 dr_cX17_setOf_0 rfl ?_
  refine G_if_eq 24 dr_cX17_setOf_1 (by decide +kernel) (fun hc214591 => ?_) (fun hc214591 => ?_)
  · have r214592 : p214582.toInt = 0 := gj_eq hc214591 (show Int32.toInt 0 = 0 by decide)
    have bp214582' : gB p214582 0 0 := ⟨by omega, by omega⟩
    refine G_aload_n 0 dr_cX17_setOf_24 rfl ?_
    refine Gw_callV (As := []) (gV_ok D I) (cp_214574_Row_sets l hl0 D I P214579 F214580 q214581 p214583 p214584 p214585 p214586 p214587 p214588 p214589 hmq214581 heq214581 bp214583 bp214584 bp214587 bp214588 bp214589) dr_cX17_setOf_25 ⟨wr_10_181, wr_1_39, wr_10_184, by decide, rfl, (Nat.le_of_ble_eq_true rfl), (Nat.le_of_ble_eq_true rfl)⟩ wr_10_182 wr_10_183 hmq214581 heq214581 rfl (show 0 + 0 ≤ 0 by first | omega | decide) (show 0 + 0 ≤ 0 by first | omega | decide) (Nat.le_of_ble_eq_true rfl) (fun r214596 w214597 dc214593 ds214594 hp214595 => ?_) (fun _ _ _ _ _ z => z.elim)
    obtain ⟨o214598, rfl, rfl, hdc, hds, bo214598, x214599⟩ := hp214595
    change G _ _ _ _ _ _ _ (.int o214598 :: _) _ _ _
    refine G_widen (cs' := 0) (sl' := 0) (by omega) (by omega) ?_
    refine G_if_eq 38 dr_cX17_setOf_28 (by decide +kernel) (fun hc214600 => ?_) (fun hc214600 => ?_)
    · have r214601 : o214598.toInt = 0 := gj_eq hc214600 (show Int32.toInt 0 = 0 by decide)
      have bo214598' : gB o214598 0 0 := ⟨by omega, by omega⟩
      refine G_iconst (-1) dr_cX17_setOf_38 (by decide +kernel) ?_
      exact G_iretA dr_cX17_setOf_39 rfl (Nat.le_of_ble_eq_true rfl) (Nat.le_of_ble_eq_true rfl) ⟨(-1), rfl, rfl, (Nat.le_of_ble_eq_true rfl), (Nat.le_of_ble_eq_true rfl), (gB_w (gBl (show Int32.toInt (-1) = (-1) by decide)) (by decide) (by decide)), (by have qa0 : Int32.toInt (-1) = (-1) := (by decide); omega)⟩
    · have r214602 : o214598.toInt ≠ 0 := gj_neq hc214600 (show Int32.toInt 0 = 0 by decide)
      have bo214598' : gB o214598 1 1 := ⟨by omega, by omega⟩
      refine G_aload_n 0 dr_cX17_setOf_31 rfl ?_
      refine Gp_get 1 hmq214581 heq214581 dr_cX17_setOf_32 (gk_X15 D I) (Nat.le_of_ble_eq_true rfl) wr_9_182 rfl ?_
      refine G_goto 39 dr_cX17_setOf_35 (by decide +kernel) ?_
      exact G_iretA dr_cX17_setOf_39 rfl (Nat.le_of_ble_eq_true rfl) (Nat.le_of_ble_eq_true rfl) ⟨p214584, rfl, rfl, (Nat.le_of_ble_eq_true rfl), (Nat.le_of_ble_eq_true rfl), (gB_w bp214584 (by decide) (by decide)), (by omega)⟩
  · have r214603 : p214582.toInt ≠ 0 := gj_neq hc214591 (show Int32.toInt 0 = 0 by decide)
    have bp214582' : gB p214582 1 1 := ⟨by omega, by omega⟩
    refine G_aload_n 0 dr_cX17_setOf_4 rfl ?_
    refine Gp_get 0 hmq214581 heq214581 dr_cX17_setOf_5 (gk_X15 D I) (Nat.le_of_ble_eq_true rfl) wr_9_177 rfl ?_
    refine G_bipush 23 dr_cX17_setOf_8 (by decide +kernel) ?_
    refine G_icmp_ne 20 dr_cX17_setOf_10 (by decide +kernel) (fun hc214604 => ?_) (fun hc214604 => ?_)
    · have r214605 : p214583.toInt ≠ 23 := gj_neq hc214604 (show Int32.toInt 23 = 23 by decide)
      refine G_iconst (-1) dr_cX17_setOf_20 (by decide +kernel) ?_
      refine G_goto 39 dr_cX17_setOf_21 (by decide +kernel) ?_
      exact G_iretA dr_cX17_setOf_39 rfl (Nat.le_of_ble_eq_true rfl) (Nat.le_of_ble_eq_true rfl) ⟨(-1), rfl, rfl, (Nat.le_of_ble_eq_true rfl), (Nat.le_of_ble_eq_true rfl), (gB_w (gBl (show Int32.toInt (-1) = (-1) by decide)) (by decide) (by decide)), (by have qa0 : Int32.toInt (-1) = (-1) := (by decide); omega)⟩
    · have r214606 : p214583.toInt = 23 := gj_eq hc214604 (show Int32.toInt 23 = 23 by decide)
      have bp214583' : gB p214583 23 23 := ⟨by omega, by omega⟩
      refine G_aload_n 0 dr_cX17_setOf_13 rfl ?_
      refine Gp_get 4 hmq214581 heq214581 dr_cX17_setOf_14 (gk_X15 D I) (Nat.le_of_ble_eq_true rfl) wr_9_193 rfl ?_
      refine G_goto 39 dr_cX17_setOf_17 (by decide +kernel) ?_
      exact G_iretA dr_cX17_setOf_39 rfl (Nat.le_of_ble_eq_true rfl) (Nat.le_of_ble_eq_true rfl) ⟨p214587, rfl, rfl, (Nat.le_of_ble_eq_true rfl), (Nat.le_of_ble_eq_true rfl), (gB_w bp214587 (by decide) (by decide)), (by omega)⟩
