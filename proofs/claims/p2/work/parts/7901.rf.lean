abbrev ky_214484_SpillForgeModel_set : gKey := (cX17_set, 2, "SpillForgeModel", none, [], "set", fun _ _ => True)
def pp_214484_SpillForgeModel_set (D : va_G) (I : FieldType → ClassId) (P214478 : List Nat) (F214479 : Nat → va_E) (q214480 : Nat) (p214481 : Int32) (f214482 : Nat → Int64) : Option Value → va_W → Nat → Nat → Prop := fun r w dc ds => ∃ (F214497 : Nat → va_E) (f214495 : Nat → Int64), r = none ∧ w = va_pl P214478 F214497 ∧ rFr [q214480] P214478 F214479 F214497 ∧ F214497 q214480 = .inl (I .long, 32, .inr (.inl f214495)) ∧ dc ≤ 0 ∧ ds ≤ 0 ∧ lb_W f214495 (32) (32) (2000) ∧ (∀ k : Nat, rbt f214495 k = (rbt f214482 k || decide ((k : Int) = p214481.toInt)))
set_option maxRecDepth 100000 in
set_option maxHeartbeats 4000000 in
theorem cp_214484_SpillForgeModel_set (l : Launch) (hl0 : l.stackTraces = false) (D : va_G) (I : FieldType → ClassId) (P214478 : List Nat) (F214479 : Nat → va_E) (q214480 : Nat) (p214481 : Int32) (f214482 : Nat → Int64) (hmq214480 : q214480 ∈ P214478) (heq214480 : F214479 q214480 = .inl (I .long, 32, .inr (.inl f214482))) (bp214481 : gB p214481 0 1999) (x214483 : lb_W f214482 (32) (32) (2000)) : CtA (gV D I) l yX17_set cX17_set 2 none 0 0 0 0 [.ref q214480, .int p214481] (va_pl P214478 F214479) (pp_214484_SpillForgeModel_set D I P214478 F214479 q214480 p214481 f214482) gNA := by
  refine CtA_of hl0 (by decide) (Nat.le_of_ble_eq_true rfl) ?_
  refine G_aload_n 0 dr_cX17_set_0 rfl ?_
  refine G_iload_n 1 dr_cX17_set_1 rfl ?_
  refine G_bipush 6 dr_cX17_set_2 (by decide +kernel) ?_
  refine G_ishr dr_cX17_set_4 (G_nam fun z214485 hz214485 => ?_)
  have ez214485 : z214485.toInt = p214481.toInt / 64 := gI_shr (k := 6) hz214485 (by decide)
  have bz214485 : gB z214485 0 31 := ⟨by omega, by omega⟩
  refine G_dup2_11 dr_cX17_set_5 rfl rfl ?_
  refine Gp_lald 2 hmq214480 heq214480 dr_cX17_set_6 rfl (gB_in bz214485 (by decide) (by decide)) (G_namL fun u214486 hu214486 => ?_)
  have qu214486 : lb_Q u214486 (2000 - 64 * z214485.toInt) := lb_Wld hu214486 x214483 (by omega) (by omega) (lb_Mod0 (by omega) (by omega))
  refine G_lconst 1 dr_cX17_set_7 rfl ?_
  refine G_iload_n 1 dr_cX17_set_8 rfl ?_
  refine G_lshl dr_cX17_set_9 (G_namL fun u214487 hu214487 => ?_)
  have qu214487 : lb_Q u214487 (p214481.toInt % 64 + 1) := lb_Qshl hu214487 (by omega)
  refine G_lor dr_cX17_set_10 (G_namL fun u214488 hu214488 => ?_)
  have qu214488 : lb_Q u214488 (2000 - 64 * z214485.toInt) := lb_Qor hu214488 qu214486 (lb_Qw qu214487 (by omega))
  refine Gp_last 2 hmq214480 heq214480 dr_cX17_set_11 rfl (gB_in bz214485 (by decide) (by decide)) (fun F214489 e214490 n214491 => ?_)
  obtain ⟨f214492, hf214492⟩ : ∃ z, z = vp_updL f214482 z214485.toNatClampNeg u214488 := ⟨_, rfl⟩
  rw [← hf214492] at e214490
  have he214493 : F214489 q214480 = .inl (I .long, 32, .inr (.inl f214492)) := e214490
  have hfr214494 : rFr [q214480] P214478 F214479 F214489 := rFr_put (rFr_rf (W := []) (P := P214478) (F := F214479)) n214491
  have wf214492 : lb_W f214492 (32) (32) (2000) := lb_Wst hf214492 x214483 (by omega) (lb_Mod0 (by omega) (by omega)) qu214488
  exact G_vretA dr_cX17_set_12 rfl (Nat.le_of_ble_eq_true rfl) (Nat.le_of_ble_eq_true rfl) ⟨F214489, f214492, rfl, rfl, hfr214494, he214493, (Nat.le_of_ble_eq_true rfl), (Nat.le_of_ble_eq_true rfl), wf214492, (rbt_set (by assumption) (by assumption) (by assumption) (by assumption) hf214492 (by omega))⟩
abbrev ky_214504_SpillForgeModel_clear : gKey := (cX17_clear, 2, "SpillForgeModel", none, [], "clear", fun _ _ => True)
def pp_214504_SpillForgeModel_clear (D : va_G) (I : FieldType → ClassId) (P214498 : List Nat) (F214499 : Nat → va_E) (q214500 : Nat) (p214501 : Int32) (f214502 : Nat → Int64) : Option Value → va_W → Nat → Nat → Prop := fun r w dc ds => ∃ (F214518 : Nat → va_E) (f214516 : Nat → Int64), r = none ∧ w = va_pl P214498 F214518 ∧ rFr [q214500] P214498 F214499 F214518 ∧ F214518 q214500 = .inl (I .long, 32, .inr (.inl f214516)) ∧ dc ≤ 0 ∧ ds ≤ 0 ∧ lb_W f214516 (32) (32) (2000) ∧ (∀ k : Nat, rbt f214516 k = (rbt f214502 k && ! decide ((k : Int) = p214501.toInt)))
set_option maxRecDepth 100000 in
set_option maxHeartbeats 4000000 in
theorem cp_214504_SpillForgeModel_clear (l : Launch) (hl0 : l.stackTraces = false) (D : va_G) (I : FieldType → ClassId) (P214498 : List Nat) (F214499 : Nat → va_E) (q214500 : Nat) (p214501 : Int32) (f214502 : Nat → Int64) (hmq214500 : q214500 ∈ P214498) (heq214500 : F214499 q214500 = .inl (I .long, 32, .inr (.inl f214502))) (bp214501 : gB p214501 0 1999) (x214503 : lb_W f214502 (32) (32) (2000)) : CtA (gV D I) l yX17_clear cX17_clear 2 none 0 0 0 0 [.ref q214500, .int p214501] (va_pl P214498 F214499) (pp_214504_SpillForgeModel_clear D I P214498 F214499 q214500 p214501 f214502) gNA := by
  refine CtA_of hl0 (by decide) (Nat.le_of_ble_eq_true rfl) ?_
  refine G_aload_n 0 dr_cX17_clear_0 rfl ?_
  refine G_iload_n 1 dr_cX17_clear_1 rfl ?_
  refine G_bipush 6 dr_cX17_clear_2 (by decide +kernel) ?_
  refine G_ishr dr_cX17_clear_4 (G_nam fun z214505 hz214505 => ?_)
  have ez214505 : z214505.toInt = p214501.toInt / 64 := gI_shr (k := 6) hz214505 (by decide)
  have bz214505 : gB z214505 0 31 := ⟨by omega, by omega⟩
  refine G_dup2_11 dr_cX17_clear_5 rfl rfl ?_
  refine Gp_lald 2 hmq214500 heq214500 dr_cX17_clear_6 rfl (gB_in bz214505 (by decide) (by decide)) (G_namL fun u214506 hu214506 => ?_)
  have qu214506 : lb_Q u214506 (2000 - 64 * z214505.toInt) := lb_Wld hu214506 x214503 (by omega) (by omega) (lb_Mod0 (by omega) (by omega))
  refine G_lconst 1 dr_cX17_clear_7 rfl ?_
  refine G_iload_n 1 dr_cX17_clear_8 rfl ?_
  refine G_lshl dr_cX17_clear_9 (G_namL fun u214507 hu214507 => ?_)
  have qu214507 : lb_Q u214507 (p214501.toInt % 64 + 1) := lb_Qshl hu214507 (by omega)
  refine G_ldc2 (-1) dr_cX17_clear_10 wr_10_188 ?_
  refine G_lxor dr_cX17_clear_13 (G_namL fun u214508 hu214508 => ?_)
  refine G_land dr_cX17_clear_14 (G_namL fun u214509 hu214509 => ?_)
  have qu214509 : lb_Q u214509 (2000 - 64 * z214505.toInt) := lb_QandL hu214509 qu214506
  refine Gp_last 2 hmq214500 heq214500 dr_cX17_clear_15 rfl (gB_in bz214505 (by decide) (by decide)) (fun F214510 e214511 n214512 => ?_)
  obtain ⟨f214513, hf214513⟩ : ∃ z, z = vp_updL f214502 z214505.toNatClampNeg u214509 := ⟨_, rfl⟩
  rw [← hf214513] at e214511
  have he214514 : F214510 q214500 = .inl (I .long, 32, .inr (.inl f214513)) := e214511
  have hfr214515 : rFr [q214500] P214498 F214499 F214510 := rFr_put (rFr_rf (W := []) (P := P214498) (F := F214499)) n214512
  have wf214513 : lb_W f214513 (32) (32) (2000) := lb_Wst hf214513 x214503 (by omega) (lb_Mod0 (by omega) (by omega)) qu214509
  exact G_vretA dr_cX17_clear_16 rfl (Nat.le_of_ble_eq_true rfl) (Nat.le_of_ble_eq_true rfl) ⟨F214510, f214513, rfl, rfl, hfr214515, he214514, (Nat.le_of_ble_eq_true rfl), (Nat.le_of_ble_eq_true rfl), wf214513, (rbt_clr (by assumption) (by assumption) (by assumption) (by assumption) (by assumption) hf214513 (by omega))⟩
abbrev ky_214529_Row_usesA : gKey := (cX15_usesA, 1, "SpillForgeModel$Row", (some FieldType.boolean), [], "usesA", fun _ _ => True)
def pp_214529_Row_usesA (D : va_G) (I : FieldType → ClassId) (P214519 : List Nat) (F214520 : Nat → va_E) (q214521 : Nat) (p214522 : Int32) (p214523 : Int32) (p214524 : Int32) (p214525 : Int32) (p214526 : Int32) (p214527 : Int32) (p214528 : Int32) : Option Value → va_W → Nat → Nat → Prop := fun r w dc ds => ∃ (o214542 : Int32), r = some (.int o214542) ∧ w = va_pl P214519 F214520 ∧ dc ≤ 0 ∧ ds ≤ 0 ∧ gB o214542 0 1 ∧ ((o214542.toInt = 1 ∧ p214522.toInt ≠ 20 ∧ p214522.toInt ≠ 21 ∧ p214522.toInt ≠ 30 ∧ p214527.toInt = 1) ∨ (o214542.toInt = 0 ∧ (p214522.toInt = 20 ∨ p214522.toInt = 21 ∨ p214522.toInt = 30 ∨ p214527.toInt = 0)))
set_option maxRecDepth 100000 in
set_option maxHeartbeats 4000000 in
theorem cp_214529_Row_usesA (l : Launch) (hl0 : l.stackTraces = false) (D : va_G) (I : FieldType → ClassId) (P214519 : List Nat) (F214520 : Nat → va_E) (q214521 : Nat) (p214522 : Int32) (p214523 : Int32) (p214524 : Int32) (p214525 : Int32) (p214526 : Int32) (p214527 : Int32) (p214528 : Int32) (hmq214521 : q214521 ∈ P214519) (heq214521 : F214520 q214521 = .inr (20, [.int p214522, .int p214523, .int p214524, .int p214525, .int p214526, .int p214527, .int p214528])) (bp214522 : gB p214522 0 32) (bp214523 : gB p214523 0 1999) (bp214526 : gB p214526 0 1999) (bp214527 : gB p214527 0 1) (bp214528 : gB p214528 0 1) : CtA (gV D I) l yX15_usesA cX15_usesA 1 (some FieldType.boolean) 0 0 0 0 [.ref q214521] (va_pl P214519 F214520) (pp_214529_Row_usesA D I P214519 F214520 q214521 p214522 p214523 p214524 p214525 p214526 p214527 p214528) gNA := by
  refine CtA_of hl0 (by decide) (Nat.le_of_ble_eq_true rfl) ?_
  have bp214524 := gB_any p214524
  have bp214525 := gB_any p214525
  refine G_aload_n 0 dr_cX15_usesA_0 rfl ?_
  refine Gp_get 0 hmq214521 heq214521 dr_cX15_usesA_1 (gk_X15 D I) (Nat.le_of_ble_eq_true rfl) wr_9_175 rfl ?_
  refine G_bipush 20 dr_cX15_usesA_4 (by decide +kernel) ?_
  refine G_icmp_eq 38 dr_cX15_usesA_6 (by decide +kernel) (fun hc214530 => ?_) (fun hc214530 => ?_)
  · have r214531 : p214522.toInt = 20 := gj_eq hc214530 (show Int32.toInt 20 = 20 by decide)
    have bp214522' : gB p214522 20 20 := ⟨by omega, by omega⟩
    refine G_iconst 0 dr_cX15_usesA_38 (by decide +kernel) ?_
    exact G_zretA FieldType.boolean dr_cX15_usesA_39 rfl rfl (Nat.le_of_ble_eq_true rfl) (Nat.le_of_ble_eq_true rfl) ⟨0, rfl, rfl, (Nat.le_of_ble_eq_true rfl), (Nat.le_of_ble_eq_true rfl), (gB_w (gBl (show Int32.toInt 0 = 0 by decide)) (by decide) (by decide)), (by have qa0 : Int32.toInt 0 = 0 := (by decide); omega)⟩
  · have r214532 : p214522.toInt ≠ 20 := gj_neq hc214530 (show Int32.toInt 20 = 20 by decide)
    refine G_aload_n 0 dr_cX15_usesA_9 rfl ?_
    refine Gp_get 0 hmq214521 heq214521 dr_cX15_usesA_10 (gk_X15 D I) (Nat.le_of_ble_eq_true rfl) wr_9_175 rfl ?_
    refine G_bipush 21 dr_cX15_usesA_13 (by decide +kernel) ?_
    refine G_icmp_eq 38 dr_cX15_usesA_15 (by decide +kernel) (fun hc214533 => ?_) (fun hc214533 => ?_)
    · have r214534 : p214522.toInt = 21 := gj_eq hc214533 (show Int32.toInt 21 = 21 by decide)
      have bp214522' : gB p214522 21 21 := ⟨by omega, by omega⟩
      refine G_iconst 0 dr_cX15_usesA_38 (by decide +kernel) ?_
      exact G_zretA FieldType.boolean dr_cX15_usesA_39 rfl rfl (Nat.le_of_ble_eq_true rfl) (Nat.le_of_ble_eq_true rfl) ⟨0, rfl, rfl, (Nat.le_of_ble_eq_true rfl), (Nat.le_of_ble_eq_true rfl), (gB_w (gBl (show Int32.toInt 0 = 0 by decide)) (by decide) (by decide)), (by have qa0 : Int32.toInt 0 = 0 := (by decide); omega)⟩
    · have r214535 : p214522.toInt ≠ 21 := gj_neq hc214533 (show Int32.toInt 21 = 21 by decide)
      refine G_aload_n 0 dr_cX15_usesA_18 rfl ?_
      refine Gp_get 0 hmq214521 heq214521 dr_cX15_usesA_19 (gk_X15 D I) (Nat.le_of_ble_eq_true rfl) wr_9_175 rfl ?_
      refine G_bipush 30 dr_cX15_usesA_22 (by decide +kernel) ?_
      refine G_icmp_eq 38 dr_cX15_usesA_24 (by decide +kernel) (fun hc214536 => ?_) (fun hc214536 => ?_)
      · have r214537 : p214522.toInt = 30 := gj_eq hc214536 (show Int32.toInt 30 = 30 by decide)
        have bp214522' : gB p214522 30 30 := ⟨by omega, by omega⟩
        refine G_iconst 0 dr_cX15_usesA_38 (by decide +kernel) ?_
        exact G_zretA FieldType.boolean dr_cX15_usesA_39 rfl rfl (Nat.le_of_ble_eq_true rfl) (Nat.le_of_ble_eq_true rfl) ⟨0, rfl, rfl, (Nat.le_of_ble_eq_true rfl), (Nat.le_of_ble_eq_true rfl), (gB_w (gBl (show Int32.toInt 0 = 0 by decide)) (by decide) (by decide)), (by have qa0 : Int32.toInt 0 = 0 := (by decide); omega)⟩
      · have r214538 : p214522.toInt ≠ 30 := gj_neq hc214536 (show Int32.toInt 30 = 30 by decide)
        refine G_aload_n 0 dr_cX15_usesA_27 rfl ?_
        refine Gp_get 5 hmq214521 heq214521 dr_cX15_usesA_28 (gk_X15 D I) (Nat.le_of_ble_eq_true rfl) wr_9_195 rfl ?_
        refine G_if_eq 38 dr_cX15_usesA_31 (by decide +kernel) (fun hc214539 => ?_) (fun hc214539 => ?_)
        · have r214540 : p214527.toInt = 0 := gj_eq hc214539 (show Int32.toInt 0 = 0 by decide)
          have bp214527' : gB p214527 0 0 := ⟨by omega, by omega⟩
          refine G_iconst 0 dr_cX15_usesA_38 (by decide +kernel) ?_
          exact G_zretA FieldType.boolean dr_cX15_usesA_39 rfl rfl (Nat.le_of_ble_eq_true rfl) (Nat.le_of_ble_eq_true rfl) ⟨0, rfl, rfl, (Nat.le_of_ble_eq_true rfl), (Nat.le_of_ble_eq_true rfl), (gB_w (gBl (show Int32.toInt 0 = 0 by decide)) (by decide) (by decide)), (by have qa0 : Int32.toInt 0 = 0 := (by decide); omega)⟩
        · have r214541 : p214527.toInt ≠ 0 := gj_neq hc214539 (show Int32.toInt 0 = 0 by decide)
          have bp214527' : gB p214527 1 1 := ⟨by omega, by omega⟩
          refine G_iconst 1 dr_cX15_usesA_34 (by decide +kernel) ?_
          refine G_goto 39 dr_cX15_usesA_35 (by decide +kernel) ?_
          exact G_zretA FieldType.boolean dr_cX15_usesA_39 rfl rfl (Nat.le_of_ble_eq_true rfl) (Nat.le_of_ble_eq_true rfl) ⟨1, rfl, rfl, (Nat.le_of_ble_eq_true rfl), (Nat.le_of_ble_eq_true rfl), (gB_w (gBl (show Int32.toInt 1 = 1 by decide)) (by decide) (by decide)), (by have qa0 : Int32.toInt 1 = 1 := (by decide); omega)⟩
abbrev ky_214553_Row_usesB : gKey := (cX15_usesB, 1, "SpillForgeModel$Row", (some FieldType.boolean), [], "usesB", fun _ _ => True)
def pp_214553_Row_usesB (D : va_G) (I : FieldType → ClassId) (P214543 : List Nat) (F214544 : Nat → va_E) (q214545 : Nat) (p214546 : Int32) (p214547 : Int32) (p214548 : Int32) (p214549 : Int32) (p214550 : Int32) (p214551 : Int32) (p214552 : Int32) : Option Value → va_W → Nat → Nat → Prop := fun r w dc ds => ∃ (o214563 : Int32), r = some (.int o214563) ∧ w = va_pl P214543 F214544 ∧ dc ≤ 0 ∧ ds ≤ 0 ∧ gB o214563 0 1 ∧ ((o214563.toInt = 1 ∧ 0 < p214546.toInt ∧ p214546.toInt < 20 ∧ p214552.toInt = 1) ∨ (o214563.toInt = 0 ∧ (p214546.toInt ≤ 0 ∨ 20 ≤ p214546.toInt ∨ p214552.toInt = 0)))
set_option maxRecDepth 100000 in
set_option maxHeartbeats 4000000 in
theorem cp_214553_Row_usesB (l : Launch) (hl0 : l.stackTraces = false) (D : va_G) (I : FieldType → ClassId) (P214543 : List Nat) (F214544 : Nat → va_E) (q214545 : Nat) (p214546 : Int32) (p214547 : Int32) (p214548 : Int32) (p214549 : Int32) (p214550 : Int32) (p214551 : Int32) (p214552 : Int32) (hmq214545 : q214545 ∈ P214543) (heq214545 : F214544 q214545 = .inr (20, [.int p214546, .int p214547, .int p214548, .int p214549, .int p214550, .int p214551, .int p214552])) (bp214546 : gB p214546 0 32) (bp214547 : gB p214547 0 1999) (bp214550 : gB p214550 0 1999) (bp214551 : gB p214551 0 1) (bp214552 : gB p214552 0 1) : CtA (gV D I) l yX15_usesB cX15_usesB 1 (some FieldType.boolean) 0 0 0 0 [.ref q214545] (va_pl P214543 F214544) (pp_214553_Row_usesB D I P214543 F214544 q214545 p214546 p214547 p214548 p214549 p214550 p214551 p214552) gNA := by
  refine CtA_of hl0 (by decide) (Nat.le_of_ble_eq_true rfl) ?_
  have bp214548 := gB_any p214548
  have bp214549 := gB_any p214549
  refine G_aload_n 0 dr_cX15_usesB_0 rfl ?_
  refine Gp_get 0 hmq214545 heq214545 dr_cX15_usesB_1 (gk_X15 D I) (Nat.le_of_ble_eq_true rfl) wr_9_175 rfl ?_
  refine G_if_le 27 dr_cX15_usesB_4 (by decide +kernel) (fun hc214554 => ?_) (fun hc214554 => ?_)
  · have r214555 : p214546.toInt ≤ 0 := gj_le hc214554 (show Int32.toInt 0 = 0 by decide)
    have bp214546' : gB p214546 0 0 := ⟨by omega, by omega⟩
    refine G_iconst 0 dr_cX15_usesB_27 (by decide +kernel) ?_
    exact G_zretA FieldType.boolean dr_cX15_usesB_28 rfl rfl (Nat.le_of_ble_eq_true rfl) (Nat.le_of_ble_eq_true rfl) ⟨0, rfl, rfl, (Nat.le_of_ble_eq_true rfl), (Nat.le_of_ble_eq_true rfl), (gB_w (gBl (show Int32.toInt 0 = 0 by decide)) (by decide) (by decide)), (by have qa0 : Int32.toInt 0 = 0 := (by decide); omega)⟩
  · have r214556 : 0 < p214546.toInt := gj_nle hc214554 (show Int32.toInt 0 = 0 by decide)
    have bp214546' : gB p214546 1 32 := ⟨by omega, by omega⟩
    refine G_aload_n 0 dr_cX15_usesB_7 rfl ?_
    refine Gp_get 0 hmq214545 heq214545 dr_cX15_usesB_8 (gk_X15 D I) (Nat.le_of_ble_eq_true rfl) wr_9_175 rfl ?_
    refine G_bipush 20 dr_cX15_usesB_11 (by decide +kernel) ?_
    refine G_icmp_ge 27 dr_cX15_usesB_13 (by decide +kernel) (fun hc214557 => ?_) (fun hc214557 => ?_)
    · have r214558 : 20 ≤ p214546.toInt := gj_leL hc214557 (show Int32.toInt 20 = 20 by decide)
      have bp214546'' : gB p214546 20 32 := ⟨by omega, by omega⟩
      refine G_iconst 0 dr_cX15_usesB_27 (by decide +kernel) ?_
      exact G_zretA FieldType.boolean dr_cX15_usesB_28 rfl rfl (Nat.le_of_ble_eq_true rfl) (Nat.le_of_ble_eq_true rfl) ⟨0, rfl, rfl, (Nat.le_of_ble_eq_true rfl), (Nat.le_of_ble_eq_true rfl), (gB_w (gBl (show Int32.toInt 0 = 0 by decide)) (by decide) (by decide)), (by have qa0 : Int32.toInt 0 = 0 := (by decide); omega)⟩
    · have r214559 : p214546.toInt < 20 := gj_nleL hc214557 (show Int32.toInt 20 = 20 by decide)
      have bp214546'' : gB p214546 1 19 := ⟨by omega, by omega⟩
      refine G_aload_n 0 dr_cX15_usesB_16 rfl ?_
      refine Gp_get 6 hmq214545 heq214545 dr_cX15_usesB_17 (gk_X15 D I) (Nat.le_of_ble_eq_true rfl) wr_9_199 rfl ?_
      refine G_if_eq 27 dr_cX15_usesB_20 (by decide +kernel) (fun hc214560 => ?_) (fun hc214560 => ?_)
      · have r214561 : p214552.toInt = 0 := gj_eq hc214560 (show Int32.toInt 0 = 0 by decide)
        have bp214552' : gB p214552 0 0 := ⟨by omega, by omega⟩
        refine G_iconst 0 dr_cX15_usesB_27 (by decide +kernel) ?_
        exact G_zretA FieldType.boolean dr_cX15_usesB_28 rfl rfl (Nat.le_of_ble_eq_true rfl) (Nat.le_of_ble_eq_true rfl) ⟨0, rfl, rfl, (Nat.le_of_ble_eq_true rfl), (Nat.le_of_ble_eq_true rfl), (gB_w (gBl (show Int32.toInt 0 = 0 by decide)) (by decide) (by decide)), (by have qa0 : Int32.toInt 0 = 0 := (by decide); omega)⟩
      · have r214562 : p214552.toInt ≠ 0 := gj_neq hc214560 (show Int32.toInt 0 = 0 by decide)
        have bp214552' : gB p214552 1 1 := ⟨by omega, by omega⟩
        refine G_iconst 1 dr_cX15_usesB_23 (by decide +kernel) ?_
        refine G_goto 28 dr_cX15_usesB_24 (by decide +kernel) ?_
        exact G_zretA FieldType.boolean dr_cX15_usesB_28 rfl rfl (Nat.le_of_ble_eq_true rfl) (Nat.le_of_ble_eq_true rfl) ⟨1, rfl, rfl, (Nat.le_of_ble_eq_true rfl), (Nat.le_of_ble_eq_true rfl), (gB_w (gBl (show Int32.toInt 1 = 1 by decide)) (by decide) (by decide)), (by have qa0 : Int32.toInt 1 = 1 := (by decide); omega)⟩
abbrev ky_214574_Row_sets : gKey := (cX15_sets, 1, "SpillForgeModel$Row", (some FieldType.boolean), [], "sets", fun _ _ => True)
def pp_214574_Row_sets (D : va_G) (I : FieldType → ClassId) (P214564 : List Nat) (F214565 : Nat → va_E) (q214566 : Nat) (p214567 : Int32) (p214568 : Int32) (p214569 : Int32) (p214570 : Int32) (p214571 : Int32) (p214572 : Int32) (p214573 : Int32) : Option Value → va_W → Nat → Nat → Prop := fun r w dc ds => ∃ (o214578 : Int32), r = some (.int o214578) ∧ w = va_pl P214564 F214565 ∧ dc ≤ 0 ∧ ds ≤ 0 ∧ gB o214578 0 1 ∧ ((o214578.toInt = 1 ∧ p214567.toInt ≤ 21) ∨ (o214578.toInt = 0 ∧ 21 < p214567.toInt))
set_option maxRecDepth 100000 in
set_option maxHeartbeats 4000000 in
theorem cp_214574_Row_sets (l : Launch) (hl0 : l.stackTraces = false) (D : va_G) (I : FieldType → ClassId) (P214564 : List Nat) (F214565 : Nat → va_E) (q214566 : Nat) (p214567 : Int32) (p214568 : Int32) (p214569 : Int32) (p214570 : Int32) (p214571 : Int32) (p214572 : Int32) (p214573 : Int32) (hmq214566 : q214566 ∈ P214564) (heq214566 : F214565 q214566 = .inr (20, [.int p214567, .int p214568, .int p214569, .int p214570, .int p214571, .int p214572, .int p214573])) (bp214567 : gB p214567 0 32) (bp214568 : gB p214568 0 1999) (bp214571 : gB p214571 0 1999) (bp214572 : gB p214572 0 1) (bp214573 : gB p214573 0 1) : CtA (gV D I) l yX15_sets cX15_sets 1 (some FieldType.boolean) 0 0 0 0 [.ref q214566] (va_pl P214564 F214565) (pp_214574_Row_sets D I P214564 F214565 q214566 p214567 p214568 p214569 p214570 p214571 p214572 p214573) gNA := by
  refine CtA_of hl0 (by decide) (Nat.le_of_ble_eq_true rfl) ?_
  have bp214569 := gB_any p214569
  have bp214570 := gB_any p214570
  refine G_aload_n 0 dr_cX15_sets_0 rfl ?_
  refine Gp_get 0 hmq214566 heq214566 dr_cX15_sets_1 (gk_X15 D I) (Nat.le_of_ble_eq_true rfl) wr_9_175 rfl ?_
  refine G_bipush 21 dr_cX15_sets_4 (by decide +kernel) ?_
  refine G_icmp_gt 13 dr_cX15_sets_6 (by decide +kernel) (fun hc214575 => ?_) (fun hc214575 => ?_)
  · have r214576 : 21 < p214567.toInt := gj_ltL hc214575 (show Int32.toInt 21 = 21 by decide)
    have bp214567' : gB p214567 22 32 := ⟨by omega, by omega⟩
    refine G_iconst 0 dr_cX15_sets_13 (by decide +kernel) ?_
    exact G_zretA FieldType.boolean dr_cX15_sets_14 rfl rfl (Nat.le_of_ble_eq_true rfl) (Nat.le_of_ble_eq_true rfl) ⟨0, rfl, rfl, (Nat.le_of_ble_eq_true rfl), (Nat.le_of_ble_eq_true rfl), (gB_w (gBl (show Int32.toInt 0 = 0 by decide)) (by decide) (by decide)), (by have qa0 : Int32.toInt 0 = 0 := (by decide); omega)⟩
  · have r214577 : p214567.toInt ≤ 21 := gj_nltL hc214575 (show Int32.toInt 21 = 21 by decide)
    have bp214567' : gB p214567 0 21 := ⟨by omega, by omega⟩
    refine G_iconst 1 dr_cX15_sets_9 (by decide +kernel) ?_
    refine G_goto 14 dr_cX15_sets_10 (by decide +kernel) ?_
    exact G_zretA FieldType.boolean dr_cX15_sets_14 rfl rfl (Nat.le_of_ble_eq_true rfl) (Nat.le_of_ble_eq_true rfl) ⟨1, rfl, rfl, (Nat.le_of_ble_eq_true rfl), (Nat.le_of_ble_eq_true rfl), (gB_w (gBl (show Int32.toInt 1 = 1 by decide)) (by decide) (by decide)), (by have qa0 : Int32.toInt 1 = 1 := (by decide); omega)⟩
abbrev ky_214590_SpillForgeModel_setOf : gKey := (cX17_setOf, 2, "SpillForgeModel", (some FieldType.int), [], "setOf", fun _ _ => True)
def pp_214590_SpillForgeModel_setOf (D : va_G) (I : FieldType → ClassId) (P214579 : List Nat) (F214580 : Nat → va_E) (q214581 : Nat) (p214582 : Int32) (p214583 : Int32) (p214584 : Int32) (p214585 : Int32) (p214586 : Int32) (p214587 : Int32) (p214588 : Int32) (p214589 : Int32) : Option Value → va_W → Nat → Nat → Prop := fun r w dc ds => ∃ (o214607 : Int32), r = some (.int o214607) ∧ w = va_pl P214579 F214580 ∧ dc ≤ 0 ∧ ds ≤ 0 ∧ gB o214607 (-1) 1999 ∧ ((p214582.toInt = 0 ∧ p214583.toInt ≤ 21 ∧ o214607.toInt = p214584.toInt) ∨ (p214582.toInt = 0 ∧ 21 < p214583.toInt ∧ o214607.toInt = -1) ∨ (p214582.toInt = 1 ∧ p214583.toInt = 23 ∧ o214607.toInt = p214587.toInt) ∨ (p214582.toInt = 1 ∧ p214583.toInt ≠ 23 ∧ o214607.toInt = -1))
set_option maxRecDepth 100000 in
set_option maxHeartbeats 4000000 in
theorem cp_214590_SpillForgeModel_setOf (l : Launch) (hl0 : l.stackTraces = false) (D : va_G) (I : FieldType → ClassId) (P214579 : List Nat) (F214580 : Nat → va_E) (q214581 : Nat) (p214582 : Int32) (p214583 : Int32) (p214584 : Int32) (p214585 : Int32) (p214586 : Int32) (p214587 : Int32) (p214588 : Int32) (p214589 : Int32) (hmq214581 : q214581 ∈ P214579) (heq214581 : F214580 q214581 = .inr (20, [.int p214583, .int p214584, .int p214585, .int p214586, .int p214587, .int p214588, .int p214589])) (bp214582 : gB p214582 0 1) (bp214583 : gB p214583 0 32) (bp214584 : gB p214584 0 1999) (bp214587 : gB p214587 0 1999) (bp214588 : gB p214588 0 1) (bp214589 : gB p214589 0 1) : CtA (gV D I) l yX17_setOf cX17_setOf 2 (some FieldType.int) 1 20 0 0 [.ref q214581, .int p214582] (va_pl P214579 F214580) (pp_214590_SpillForgeModel_setOf D I P214579 F214580 q214581 p214582 p214583 p214584 p214585 p214586 p214587 p214588 p214589) gNA := by
  refine CtA_of hl0 (by decide) (Nat.le_of_ble_eq_true rfl) ?_
  have bp214585 := gB_any p214585
  have bp214586 := gB_any p214586
  refine G_iload_n 1 dr_cX17_setOf_0 rfl ?_
  refine G_if_eq 24 dr_cX17_setOf_1 (by decide +kernel) (fun hc214591 => ?_) (fun hc214591 => ?_)
  · have r214592 : p214582.toInt = 0 := gj_eq hc214591 (show Int32.toInt 0 = 0 by decide)
    have bp214582' : gB p214582 0 0 := ⟨by omega, by omega⟩
    refine G_aload_n 0 dr_cX17_setOf_24 rfl ?_
    refine Gw_callV (As := []) (gV_ok D I) (cp_214574_Row_sets l hl0 D I P214579 F214580 q214581 p214583 p214584 p214585 p214586 p214587 p214588 p214589 hmq214581 heq214581 bp214583 bp214584 bp214587 bp214588 bp214589) dr_cX17_setOf_25 ⟨wr_10_181, wr_1_39, wr_10_184, by decide, rfl, (Nat.le_of_ble_eq_true rfl), (Nat.le_of_ble_eq_true rfl)⟩ wr_10_182 wr_10_183 hmq214581 heq214581 rfl (show 0 + 0 ≤ 0 by first | omega | decide) (show 0 + 0 ≤ 0 by first | omega | decide) (Nat.le_of_ble_eq_true rfl) (fun r214596 w214597 dc214593 ds214594 hp214595 => ?_) (fun _ _ _ _ _ z => z.elim)
    obtain ⟨o214598, rfl, rfl, hdc, hds, bo214598, x214599⟩ := hp214595
    change G _ _ _ _ _ _ _ (.int o214598 :: _) _ _ _
    refine G_widen (cs' := 0) (sl' := 0) (by omega) (by omega) ?_
    refine G_if_eq 38 dr_cX17_setOf_28 (by decide +kernel) (fun hc214600 => ?_) (fun hc214600 => ?_)
    · have r214601 : o214598.toInt = 0 := gj_eq hc214600 (show Int32.toInt 0 = 0 by decide)
      have bo214598' : gB o214598 0 0 := ⟨by omega, by omega⟩
      refine G_iconst (-1) dr_cX17_setOf_38 (by decide +kernel) ?_
      exact G_iretA dr_cX17_setOf_39 rfl (Nat.le_of_ble_eq_true rfl) (Nat.le_of_ble_eq_true rfl) ⟨(-1), rfl, rfl, (Nat.le_of_ble_eq_true rfl), (Nat.le_of_ble_eq_true rfl), (gB_w (gBl (show Int32.toInt (-1) = (-1) by decide)) (by decide) (by decide)), (by have qa0 : Int32.toInt (-1) = (-1) := (by decide); omega)⟩
    · have r214602 : o214598.toInt ≠ 0 := gj_neq hc214600 (show Int32.toInt 0 = 0 by decide)
      have bo214598' : gB o214598 1 1 := ⟨by omega, by omega⟩
      refine G_aload_n 0 dr_cX17_setOf_31 rfl ?_
      refine Gp_get 1 hmq214581 heq214581 dr_cX17_setOf_32 (gk_X15 D I) (Nat.le_of_ble_eq_true rfl) wr_9_182 rfl ?_
      refine G_goto 39 dr_cX17_setOf_35 (by decide +kernel) ?_
      exact G_iretA dr_cX17_setOf_39 rfl (Nat.le_of_ble_eq_true rfl) (Nat.le_of_ble_eq_true rfl) ⟨p214584, rfl, rfl, (Nat.le_of_ble_eq_true rfl), (Nat.le_of_ble_eq_true rfl), (gB_w bp214584 (by decide) (by decide)), (by omega)⟩
  · have r214603 : p214582.toInt ≠ 0 := gj_neq hc214591 (show Int32.toInt 0 = 0 by decide)
    have bp214582' : gB p214582 1 1 := ⟨by omega, by omega⟩
    refine G_aload_n 0 dr_cX17_setOf_4 rfl ?_
    refine Gp_get 0 hmq214581 heq214581 dr_cX17_setOf_5 (gk_X15 D I) (Nat.le_of_ble_eq_true rfl) wr_9_177 rfl ?_
    refine G_bipush 23 dr_cX17_setOf_8 (by decide +kernel) ?_
    refine G_icmp_ne 20 dr_cX17_setOf_10 (by decide +kernel) (fun hc214604 => ?_) (fun hc214604 => ?_)
    · have r214605 : p214583.toInt ≠ 23 := gj_neq hc214604 (show Int32.toInt 23 = 23 by decide)
      refine G_iconst (-1) dr_cX17_setOf_20 (by decide +kernel) ?_
      refine G_goto 39 dr_cX17_setOf_21 (by decide +kernel) ?_
      exact G_iretA dr_cX17_setOf_39 rfl (Nat.le_of_ble_eq_true rfl) (Nat.le_of_ble_eq_true rfl) ⟨(-1), rfl, rfl, (Nat.le_of_ble_eq_true rfl), (Nat.le_of_ble_eq_true rfl), (gB_w (gBl (show Int32.toInt (-1) = (-1) by decide)) (by decide) (by decide)), (by have qa0 : Int32.toInt (-1) = (-1) := (by decide); omega)⟩
    · have r214606 : p214583.toInt = 23 := gj_eq hc214604 (show Int32.toInt 23 = 23 by decide)
      have bp214583' : gB p214583 23 23 := ⟨by omega, by omega⟩
      refine G_aload_n 0 dr_cX17_setOf_13 rfl ?_
      refine Gp_get 4 hmq214581 heq214581 dr_cX17_setOf_14 (gk_X15 D I) (Nat.le_of_ble_eq_true rfl) wr_9_193 rfl ?_
      refine G_goto 39 dr_cX17_setOf_17 (by decide +kernel) ?_
      exact G_iretA dr_cX17_setOf_39 rfl (Nat.le_of_ble_eq_true rfl) (Nat.le_of_ble_eq_true rfl) ⟨p214587, rfl, rfl, (Nat.le_of_ble_eq_true rfl), (Nat.le_of_ble_eq_true rfl), (gB_w bp214587 (by decide) (by decide)), (by omega)⟩
abbrev ky_214613_SpillForgeModel_back : gKey := (cX17_back, 4, "SpillForgeModel", none, [], "back", fun _ _ => True)
def pt_214613_SpillForgeModel_back (D : va_G) (I : FieldType → ClassId) (γ el : Nat → Nat → Nat) (P214608 : List Nat) (F214609 : Nat → va_E) (q214610 : Nat) (q214611 : Nat) (p214612 : Int32) : Option Value → va_W → Nat → Nat → Prop := fun r w dc ds => ∃ (F214930 : Nat → va_E), r = none ∧ w = va_pl P214608 F214930 ∧ RS D I P214608 F214930 γ el ∧ rStr γ [] F214609 F214930 ∧ dc ≤ 0 ∧ ds ≤ 0 ∧ (∀ k : Nat, rbt (cL (F214930 (γ 9 2))) k = bkS (F214609 q214611) (decide (p214612.toInt = 1)) (rbt (cL (F214609 (γ 9 2)))) k) ∧ rLv γ F214609 F214930 ∧ (F214930 q214610 = F214609 q214610)
set_option maxRecDepth 100000 in
set_option maxHeartbeats 4000000 in
theorem ct_214613_SpillForgeModel_back (l : Launch) (hl0 : l.stackTraces = false) (D : va_G) (I : FieldType → ClassId) (γ el : Nat → Nat → Nat) (P214608 : List Nat) (F214609 : Nat → va_E) (q214610 : Nat) (q214611 : Nat) (p214612 : Int32) (hT : RS D I P214608 F214609 γ el) (htq214610 : rKd γ q214610 10) (htq214611 : rKd γ q214611 1) (bp214612 : gB p214612 0 1) : CtA (gV D I) l yX17_back cX17_back 4 none 2 41 0 0 [.ref q214610, .ref q214611, .int p214612] (va_pl P214608 F214609) (pt_214613_SpillForgeModel_back D I γ el P214608 F214609 q214610 q214611 p214612) gNA := by
  refine CtA_of hl0 (by decide) (Nat.le_of_ble_eq_true rfl) ?_
  have hm214614 : q214610 ∈ P214608 := RS_m hT htq214610 (by decide)
  obtain ⟨q214616, q214617, p214618, p214619, p214620, p214621, p214622, p214623, p214624, p214625, p214626, p214627, p214628, p214629, p214630, p214631, p214632, he214615, hB214659, ht214633, ht214634, ht214635, ht214636, ht214637, ht214638, ht214639, ht214640, ht214641, ht214642, ht214643, ht214644, ht214645, ht214646, ht214647, ht214648, ht214649, ht214650, ht214651, ht214652, ht214653, ht214654, ht214655, ht214656, hB214660⟩ := show rk_10 γ (F214609 q214610) from RS_o hT htq214610
  have hm214661 : (γ 9 2) ∈ P214608 := RS_m hT ht214637 (by decide)
  obtain ⟨f214663, he214662, wf214663⟩ := show rk_35 I (F214609 (γ 9 2)) from RS_o hT ht214637
  have hm214664 : q214611 ∈ P214608 := RS_m hT htq214611 (by decide)
  obtain ⟨p214666, p214667, p214668, p214669, p214670, p214671, p214672, he214665, bp214666, bp214667, bp214670, bp214671, bp214672, r214673, r214674, r214675, r214676⟩ := show rk_1 γ q214611 (F214609 q214611) from RS_o hT htq214611
  have bp214668 := gB_any p214668
  have bp214669 := gB_any p214669
  refine G_aload_n 1 dr_cX17_back_0 rfl ?_
  refine G_iload_n 2 dr_cX17_back_1 rfl ?_
  refine Gw_callS (As := [.ref q214611, .int p214612]) (gV_ok D I) (cp_214590_SpillForgeModel_setOf l hl0 D I P214608 F214609 q214611 p214612 p214666 p214667 p214668 p214669 p214670 p214671 p214672 hm214664 he214665 bp214612 bp214666 bp214667 bp214670 bp214671 bp214672) dr_cX17_back_2 ⟨wr_10_178, wr_1_14, wr_10_180, by decide, rfl, (Nat.le_of_ble_eq_true rfl), (Nat.le_of_ble_eq_true rfl)⟩ wr_10_179 (show 0 + 0 ≤ 0 by first | omega | decide) (show 0 + 0 ≤ 0 by first | omega | decide) (Nat.le_of_ble_eq_true rfl) (fun r214680 w214681 dc214677 ds214678 hp214679 => ?_) (fun _ _ _ _ _ z => z.elim)
  obtain ⟨o214682, rfl, rfl, hdc, hds, bo214682, x214683⟩ := hp214679
  change G _ _ _ _ _ _ _ (.int o214682 :: _) _ _ _
  refine G_widen (cs' := 0) (sl' := 0) (by omega) (by omega) ?_
  refine G_istore_n (L' := [(3, .int o214682), (0, .ref q214610), (1, .ref q214611), (2, .int p214612)]) dr_cX17_back_5 (Nat.le_of_ble_eq_true rfl) rfl ?_
  refine G_iload_n 0 dr_cX17_back_6 rfl ?_
  refine G_if_lt 18 dr_cX17_back_7 (by decide +kernel) (fun hc214684 => ?_) (fun hc214684 => ?_)
  · have r214685 : o214682.toInt < 0 := gj_lt hc214684 (show Int32.toInt 0 = 0 by decide)
    have bo214682' : gB o214682 (-1) (-1) := ⟨by omega, by omega⟩
    refine G_iload_n 3 dr_cX17_back_18 rfl ?_
    refine G_if_eq 43 dr_cX17_back_19 (by decide +kernel) (fun hc214686 => ?_) (fun hc214686 => ?_)
    · have r214687 : p214612.toInt = 0 := gj_eq hc214686 (show Int32.toInt 0 = 0 by decide)
      have bp214612' : gB p214612 0 0 := ⟨by omega, by omega⟩
      refine G_aload_n 2 dr_cX17_back_43 rfl ?_
      refine Gw_callV (As := []) (gV_ok D I) (cp_214529_Row_usesA l hl0 D I P214608 F214609 q214611 p214666 p214667 p214668 p214669 p214670 p214671 p214672 hm214664 he214665 bp214666 bp214667 bp214670 bp214671 bp214672) dr_cX17_back_44 ⟨wr_10_192, wr_1_39, wr_10_195, by decide, rfl, (Nat.le_of_ble_eq_true rfl), (Nat.le_of_ble_eq_true rfl)⟩ wr_10_193 wr_10_194 hm214664 he214665 rfl (show 0 + 0 ≤ 0 by first | omega | decide) (show 0 + 0 ≤ 0 by first | omega | decide) (Nat.le_of_ble_eq_true rfl) (fun r214691 w214692 dc214688 ds214689 hp214690 => ?_) (fun _ _ _ _ _ z => z.elim)
      obtain ⟨o214693, rfl, rfl, hdc, hds, bo214693, x214694⟩ := hp214690
      change G _ _ _ _ _ _ _ (.int o214693 :: _) _ _ _
      refine G_widen (cs' := 0) (sl' := 0) (by omega) (by omega) ?_
      refine G_if_eq 61 dr_cX17_back_47 (by decide +kernel) (fun hc214695 => ?_) (fun hc214695 => ?_)
      · have r214696 : o214693.toInt = 0 := gj_eq hc214695 (show Int32.toInt 0 = 0 by decide)
        have bo214693' : gB o214693 0 0 := ⟨by omega, by omega⟩
        refine G_aload_n 2 dr_cX17_back_61 rfl ?_
        refine Gw_callV (As := []) (gV_ok D I) (cp_214553_Row_usesB l hl0 D I P214608 F214609 q214611 p214666 p214667 p214668 p214669 p214670 p214671 p214672 hm214664 he214665 bp214666 bp214667 bp214670 bp214671 bp214672) dr_cX17_back_62 ⟨wr_10_196, wr_1_39, wr_10_199, by decide, rfl, (Nat.le_of_ble_eq_true rfl), (Nat.le_of_ble_eq_true rfl)⟩ wr_10_197 wr_10_198 hm214664 he214665 rfl (show 0 + 0 ≤ 0 by first | omega | decide) (show 0 + 0 ≤ 0 by first | omega | decide) (Nat.le_of_ble_eq_true rfl) (fun r214700 w214701 dc214697 ds214698 hp214699 => ?_) (fun _ _ _ _ _ z => z.elim)
        obtain ⟨o214702, rfl, rfl, hdc, hds, bo214702, x214703⟩ := hp214699
        change G _ _ _ _ _ _ _ (.int o214702 :: _) _ _ _
        refine G_widen (cs' := 0) (sl' := 0) (by omega) (by omega) ?_
        refine G_if_eq 79 dr_cX17_back_65 (by decide +kernel) (fun hc214704 => ?_) (fun hc214704 => ?_)
        · have r214705 : o214702.toInt = 0 := gj_eq hc214704 (show Int32.toInt 0 = 0 by decide)
          have bo214702' : gB o214702 0 0 := ⟨by omega, by omega⟩
          exact G_vretA dr_cX17_back_79 rfl (Nat.le_of_ble_eq_true rfl) (Nat.le_of_ble_eq_true rfl) ⟨F214609, rfl, rfl, hT, (rStr_rf (γ := γ) (W := []) (F := F214609)), (Nat.le_of_ble_eq_true rfl), (Nat.le_of_ble_eq_true rfl), (fun k => by rw [cL_of he214662, bkS_of he214665, (decide_eq_false (show ¬ (p214612.toInt = 1) by omega))]; exact bk_n false false false (decide_eq_false (show ¬ (p214666.toInt ≤ 21) by omega)) (decide_eq_false (show ¬ (p214666.toInt ≠ 20 ∧ p214666.toInt ≠ 21 ∧ p214666.toInt ≠ 30 ∧ p214671.toInt = 1) by omega)) (decide_eq_false (show ¬ (0 < p214666.toInt ∧ p214666.toInt < 20 ∧ p214672.toInt = 1) by omega)) (by simp)), (rLv_rf (γ := γ) (F := F214609)), rfl⟩
        · have r214706 : o214702.toInt ≠ 0 := gj_neq hc214704 (show Int32.toInt 0 = 0 by decide)
          have bo214702' : gB o214702 1 1 := ⟨by omega, by omega⟩
          refine G_aload_n 1 dr_cX17_back_68 rfl ?_
          refine Gp_get 2 hm214614 he214615 dr_cX17_back_69 (gk_X17 D I) (Nat.le_of_ble_eq_true rfl) wr_7_76 rfl ?_
          refine G_aload_n 2 dr_cX17_back_72 rfl ?_
          refine Gp_get 3 hm214664 he214665 dr_cX17_back_73 (gk_X15 D I) (Nat.le_of_ble_eq_true rfl) wr_9_190 rfl ?_
          refine Gw_callS (As := [.ref (γ 9 2), .int p214669]) (gV_ok D I) (cp_214484_SpillForgeModel_set l hl0 D I P214608 F214609 (γ 9 2) p214669 f214663 hm214661 he214662 ⟨by omega, by omega⟩ wf214663) dr_cX17_back_76 ⟨wr_10_189, wr_1_14, wr_10_191, by decide, rfl, (Nat.le_of_ble_eq_true rfl), (Nat.le_of_ble_eq_true rfl)⟩ wr_10_190 (show 0 + 0 ≤ 0 by first | omega | decide) (show 0 + 0 ≤ 0 by first | omega | decide) (Nat.le_of_ble_eq_true rfl) (fun r214710 w214711 dc214707 ds214708 hp214709 => ?_) (fun _ _ _ _ _ z => z.elim)
          obtain ⟨F214715, f214712, rfl, rfl, hfr214717, he214718, hdc, hds, x214713, x214714⟩ := hp214709
          have he214719 : F214715 q214610 = .inr (22, [.ref (γ 9 0), .ref (γ 9 1), .ref (γ 9 2), .ref (γ 9 3), .ref (γ 9 4), .ref (γ 9 5), .ref (γ 9 6), .ref (γ 9 7), .ref (γ 9 8), .int p214618, .int p214619, .int p214620, .int p214621, .int p214622, .int p214623, .ref (γ 9 15), .ref (γ 9 16), .ref (γ 9 17), .ref (γ 9 18), .ref (γ 9 19), .ref (γ 9 20), .ref (γ 9 21), .ref (γ 9 22), .int p214624, .int p214625, .int p214626, .int p214627, .int p214628, .ref q214616, .ref (γ 9 29), .int p214629, .ref (γ 9 31), .int p214630, .int p214631, .int p214632, .ref q214617]) := (hfr214717 q214610 hm214614 (nm_c (rn_oa he214615 he214662) nm_n)).trans he214615
          have he214720 : F214715 q214611 = .inr (20, [.int p214666, .int p214667, .int p214668, .int p214669, .int p214670, .int p214671, .int p214672]) := (hfr214717 q214611 hm214664 (nm_c (rn_oa he214665 he214662) nm_n)).trans he214665
          have hfr214721 : rFr [(γ 9 2)] P214608 F214609 F214715 := rFr_call (rSub_rf (P := P214608)) (rFr_rf (W := []) (P := P214608) (F := F214609)) hfr214717 (fun b hb hn => ⟨nm_n, (nm_c (fun e => hn (e ▸ List.mem_cons_self)) nm_n)⟩)
          change G _ _ _ _ _ _ _ _ _ _ _
          refine G_widen (cs' := 0) (sl' := 0) (by omega) (by omega) ?_
          have hT214722 : RS D I P214608 F214715 γ el := RS_fr hT hfr214721 ht214637 (by decide) ⟨f214712, he214718, x214713⟩
          have hs214723 : rStr γ [] F214609 F214715 := rStr_fr hT (rStr_rf (γ := γ) (W := []) (F := F214609)) hfr214721 ht214637 (by decide)
          have lv214724 : rLv γ F214609 F214715 := rLv_fr hT ht214635 (rLv_rf (γ := γ) (F := F214609)) hfr214721 ht214637 (by decide)
          have kp214725 : F214715 q214610 = F214609 q214610 := hfr214721 q214610 (RS_m hT htq214610 (by decide)) (nm_c (rn_ty htq214610 ht214637 (by decide)) nm_n)
          exact G_vretA dr_cX17_back_79 rfl (Nat.le_of_ble_eq_true rfl) (Nat.le_of_ble_eq_true rfl) ⟨F214715, rfl, rfl, hT214722, hs214723, (Nat.le_of_ble_eq_true rfl), (Nat.le_of_ble_eq_true rfl), (fun k => by rw [cL_of he214718, cL_of he214662, bkS_of he214665, (decide_eq_false (show ¬ (p214612.toInt = 1) by omega))]; exact bk_n false false true (decide_eq_false (show ¬ (p214666.toInt ≤ 21) by omega)) (decide_eq_false (show ¬ (p214666.toInt ≠ 20 ∧ p214666.toInt ≠ 21 ∧ p214666.toInt ≠ 30 ∧ p214671.toInt = 1) by omega)) (decide_eq_true (show (0 < p214666.toInt ∧ p214666.toInt < 20 ∧ p214672.toInt = 1) by omega)) (by rw [x214714 k]; simp)), lv214724, kp214725⟩
      · have r214726 : o214693.toInt ≠ 0 := gj_neq hc214695 (show Int32.toInt 0 = 0 by decide)
        have bo214693' : gB o214693 1 1 := ⟨by omega, by omega⟩
        refine G_aload_n 1 dr_cX17_back_50 rfl ?_
        refine Gp_get 2 hm214614 he214615 dr_cX17_back_51 (gk_X17 D I) (Nat.le_of_ble_eq_true rfl) wr_7_76 rfl ?_
        refine G_aload_n 2 dr_cX17_back_54 rfl ?_
        refine Gp_get 2 hm214664 he214665 dr_cX17_back_55 (gk_X15 D I) (Nat.le_of_ble_eq_true rfl) wr_9_186 rfl ?_
        refine Gw_callS (As := [.ref (γ 9 2), .int p214668]) (gV_ok D I) (cp_214484_SpillForgeModel_set l hl0 D I P214608 F214609 (γ 9 2) p214668 f214663 hm214661 he214662 ⟨by omega, by omega⟩ wf214663) dr_cX17_back_58 ⟨wr_10_189, wr_1_14, wr_10_191, by decide, rfl, (Nat.le_of_ble_eq_true rfl), (Nat.le_of_ble_eq_true rfl)⟩ wr_10_190 (show 0 + 0 ≤ 0 by first | omega | decide) (show 0 + 0 ≤ 0 by first | omega | decide) (Nat.le_of_ble_eq_true rfl) (fun r214730 w214731 dc214727 ds214728 hp214729 => ?_) (fun _ _ _ _ _ z => z.elim)
        obtain ⟨F214735, f214732, rfl, rfl, hfr214737, he214738, hdc, hds, x214733, x214734⟩ := hp214729
        have he214739 : F214735 q214610 = .inr (22, [.ref (γ 9 0), .ref (γ 9 1), .ref (γ 9 2), .ref (γ 9 3), .ref (γ 9 4), .ref (γ 9 5), .ref (γ 9 6), .ref (γ 9 7), .ref (γ 9 8), .int p214618, .int p214619, .int p214620, .int p214621, .int p214622, .int p214623, .ref (γ 9 15), .ref (γ 9 16), .ref (γ 9 17), .ref (γ 9 18), .ref (γ 9 19), .ref (γ 9 20), .ref (γ 9 21), .ref (γ 9 22), .int p214624, .int p214625, .int p214626, .int p214627, .int p214628, .ref q214616, .ref (γ 9 29), .int p214629, .ref (γ 9 31), .int p214630, .int p214631, .int p214632, .ref q214617]) := (hfr214737 q214610 hm214614 (nm_c (rn_oa he214615 he214662) nm_n)).trans he214615
        have he214740 : F214735 q214611 = .inr (20, [.int p214666, .int p214667, .int p214668, .int p214669, .int p214670, .int p214671, .int p214672]) := (hfr214737 q214611 hm214664 (nm_c (rn_oa he214665 he214662) nm_n)).trans he214665
        have hfr214741 : rFr [(γ 9 2)] P214608 F214609 F214735 := rFr_call (rSub_rf (P := P214608)) (rFr_rf (W := []) (P := P214608) (F := F214609)) hfr214737 (fun b hb hn => ⟨nm_n, (nm_c (fun e => hn (e ▸ List.mem_cons_self)) nm_n)⟩)
        change G _ _ _ _ _ _ _ _ _ _ _
        refine G_widen (cs' := 0) (sl' := 0) (by omega) (by omega) ?_
        have hT214742 : RS D I P214608 F214735 γ el := RS_fr hT hfr214741 ht214637 (by decide) ⟨f214732, he214738, x214733⟩
        have hs214743 : rStr γ [] F214609 F214735 := rStr_fr hT (rStr_rf (γ := γ) (W := []) (F := F214609)) hfr214741 ht214637 (by decide)
        have lv214744 : rLv γ F214609 F214735 := rLv_fr hT ht214635 (rLv_rf (γ := γ) (F := F214609)) hfr214741 ht214637 (by decide)
        have kp214745 : F214735 q214610 = F214609 q214610 := hfr214741 q214610 (RS_m hT htq214610 (by decide)) (nm_c (rn_ty htq214610 ht214637 (by decide)) nm_n)
        refine G_aload_n 2 dr_cX17_back_61 rfl ?_
        refine Gw_callV (As := []) (gV_ok D I) (cp_214553_Row_usesB l hl0 D I P214608 F214735 q214611 p214666 p214667 p214668 p214669 p214670 p214671 p214672 hm214664 he214740 bp214666 bp214667 bp214670 bp214671 bp214672) dr_cX17_back_62 ⟨wr_10_196, wr_1_39, wr_10_199, by decide, rfl, (Nat.le_of_ble_eq_true rfl), (Nat.le_of_ble_eq_true rfl)⟩ wr_10_197 wr_10_198 hm214664 he214740 rfl (show 0 + 0 ≤ 0 by first | omega | decide) (show 0 + 0 ≤ 0 by first | omega | decide) (Nat.le_of_ble_eq_true rfl) (fun r214749 w214750 dc214746 ds214747 hp214748 => ?_) (fun _ _ _ _ _ z => z.elim)
        obtain ⟨o214751, rfl, rfl, hdc, hds, bo214751, x214752⟩ := hp214748
        change G _ _ _ _ _ _ _ (.int o214751 :: _) _ _ _
        refine G_widen (cs' := 0) (sl' := 0) (by omega) (by omega) ?_
        refine G_if_eq 79 dr_cX17_back_65 (by decide +kernel) (fun hc214753 => ?_) (fun hc214753 => ?_)
        · have r214754 : o214751.toInt = 0 := gj_eq hc214753 (show Int32.toInt 0 = 0 by decide)
          have bo214751' : gB o214751 0 0 := ⟨by omega, by omega⟩
          exact G_vretA dr_cX17_back_79 rfl (Nat.le_of_ble_eq_true rfl) (Nat.le_of_ble_eq_true rfl) ⟨F214735, rfl, rfl, hT214742, hs214743, (Nat.le_of_ble_eq_true rfl), (Nat.le_of_ble_eq_true rfl), (fun k => by rw [cL_of he214738, cL_of he214662, bkS_of he214665, (decide_eq_false (show ¬ (p214612.toInt = 1) by omega))]; exact bk_n false true false (decide_eq_false (show ¬ (p214666.toInt ≤ 21) by omega)) (decide_eq_true (show (p214666.toInt ≠ 20 ∧ p214666.toInt ≠ 21 ∧ p214666.toInt ≠ 30 ∧ p214671.toInt = 1) by omega)) (decide_eq_false (show ¬ (0 < p214666.toInt ∧ p214666.toInt < 20 ∧ p214672.toInt = 1) by omega)) (by rw [x214734 k]; simp)), lv214744, kp214745⟩
        · have r214755 : o214751.toInt ≠ 0 := gj_neq hc214753 (show Int32.toInt 0 = 0 by decide)
          have bo214751' : gB o214751 1 1 := ⟨by omega, by omega⟩
          refine G_aload_n 1 dr_cX17_back_68 rfl ?_
          refine Gp_get 2 hm214614 he214739 dr_cX17_back_69 (gk_X17 D I) (Nat.le_of_ble_eq_true rfl) wr_7_76 rfl ?_
          refine G_aload_n 2 dr_cX17_back_72 rfl ?_
          refine Gp_get 3 hm214664 he214740 dr_cX17_back_73 (gk_X15 D I) (Nat.le_of_ble_eq_true rfl) wr_9_190 rfl ?_
          refine Gw_callS (As := [.ref (γ 9 2), .int p214669]) (gV_ok D I) (cp_214484_SpillForgeModel_set l hl0 D I P214608 F214735 (γ 9 2) p214669 f214732 hm214661 he214738 ⟨by omega, by omega⟩ x214733) dr_cX17_back_76 ⟨wr_10_189, wr_1_14, wr_10_191, by decide, rfl, (Nat.le_of_ble_eq_true rfl), (Nat.le_of_ble_eq_true rfl)⟩ wr_10_190 (show 0 + 0 ≤ 0 by first | omega | decide) (show 0 + 0 ≤ 0 by first | omega | decide) (Nat.le_of_ble_eq_true rfl) (fun r214759 w214760 dc214756 ds214757 hp214758 => ?_) (fun _ _ _ _ _ z => z.elim)
          obtain ⟨F214764, f214761, rfl, rfl, hfr214766, he214767, hdc, hds, x214762, x214763⟩ := hp214758
          have he214768 : F214764 q214610 = .inr (22, [.ref (γ 9 0), .ref (γ 9 1), .ref (γ 9 2), .ref (γ 9 3), .ref (γ 9 4), .ref (γ 9 5), .ref (γ 9 6), .ref (γ 9 7), .ref (γ 9 8), .int p214618, .int p214619, .int p214620, .int p214621, .int p214622, .int p214623, .ref (γ 9 15), .ref (γ 9 16), .ref (γ 9 17), .ref (γ 9 18), .ref (γ 9 19), .ref (γ 9 20), .ref (γ 9 21), .ref (γ 9 22), .int p214624, .int p214625, .int p214626, .int p214627, .int p214628, .ref q214616, .ref (γ 9 29), .int p214629, .ref (γ 9 31), .int p214630, .int p214631, .int p214632, .ref q214617]) := (hfr214766 q214610 hm214614 (nm_c (rn_oa he214739 he214738) nm_n)).trans he214739
          have he214769 : F214764 q214611 = .inr (20, [.int p214666, .int p214667, .int p214668, .int p214669, .int p214670, .int p214671, .int p214672]) := (hfr214766 q214611 hm214664 (nm_c (rn_oa he214740 he214738) nm_n)).trans he214740
          have hfr214770 : rFr [(γ 9 2)] P214608 F214735 F214764 := rFr_call (rSub_rf (P := P214608)) (rFr_rf (W := []) (P := P214608) (F := F214735)) hfr214766 (fun b hb hn => ⟨nm_n, (nm_c (fun e => hn (e ▸ List.mem_cons_self)) nm_n)⟩)
          change G _ _ _ _ _ _ _ _ _ _ _
          refine G_widen (cs' := 0) (sl' := 0) (by omega) (by omega) ?_
          have hT214771 : RS D I P214608 F214764 γ el := RS_fr hT214742 hfr214770 ht214637 (by decide) ⟨f214761, he214767, x214762⟩
          have hs214772 : rStr γ [] F214609 F214764 := rStr_fr hT214742 hs214743 hfr214770 ht214637 (by decide)
          have lv214773 : rLv γ F214609 F214764 := rLv_fr hT214742 ht214635 lv214744 hfr214770 ht214637 (by decide)
          have kp214774 : F214764 q214610 = F214609 q214610 := (hfr214770 q214610 (RS_m hT214742 htq214610 (by decide)) (nm_c (rn_ty htq214610 ht214637 (by decide)) nm_n)).trans kp214745
          exact G_vretA dr_cX17_back_79 rfl (Nat.le_of_ble_eq_true rfl) (Nat.le_of_ble_eq_true rfl) ⟨F214764, rfl, rfl, hT214771, hs214772, (Nat.le_of_ble_eq_true rfl), (Nat.le_of_ble_eq_true rfl), (fun k => by rw [cL_of he214767, cL_of he214662, bkS_of he214665, (decide_eq_false (show ¬ (p214612.toInt = 1) by omega))]; exact bk_n false true true (decide_eq_false (show ¬ (p214666.toInt ≤ 21) by omega)) (decide_eq_true (show (p214666.toInt ≠ 20 ∧ p214666.toInt ≠ 21 ∧ p214666.toInt ≠ 30 ∧ p214671.toInt = 1) by omega)) (decide_eq_true (show (0 < p214666.toInt ∧ p214666.toInt < 20 ∧ p214672.toInt = 1) by omega)) (by rw [x214763 k, x214734 k]; simp)), lv214773, kp214774⟩
    · have r214775 : p214612.toInt ≠ 0 := gj_neq hc214686 (show Int32.toInt 0 = 0 by decide)
      have bp214612' : gB p214612 1 1 := ⟨by omega, by omega⟩
      refine G_aload_n 2 dr_cX17_back_22 rfl ?_
      refine Gp_get 0 hm214664 he214665 dr_cX17_back_23 (gk_X15 D I) (Nat.le_of_ble_eq_true rfl) wr_9_177 rfl ?_
      refine G_bipush 21 dr_cX17_back_26 (by decide +kernel) ?_
      refine G_icmp_ne 42 dr_cX17_back_28 (by decide +kernel) (fun hc214776 => ?_) (fun hc214776 => ?_)
      · have r214777 : p214666.toInt ≠ 21 := gj_neq hc214776 (show Int32.toInt 21 = 21 by decide)
        exact G_vretA dr_cX17_back_42 rfl (Nat.le_of_ble_eq_true rfl) (Nat.le_of_ble_eq_true rfl) ⟨F214609, rfl, rfl, hT, (rStr_rf (γ := γ) (W := []) (F := F214609)), (Nat.le_of_ble_eq_true rfl), (Nat.le_of_ble_eq_true rfl), (fun k => by rw [cL_of he214662, bkS_of he214665, (decide_eq_true (show (p214612.toInt = 1) by omega))]; exact bk_s false false (decide_eq_false (show ¬ (p214666.toInt = 23) by omega)) (decide_eq_false (show ¬ (p214666.toInt = 21) by omega)) (by simp)), (rLv_rf (γ := γ) (F := F214609)), rfl⟩
      · have r214778 : p214666.toInt = 21 := gj_eq hc214776 (show Int32.toInt 21 = 21 by decide)
        have bp214666' : gB p214666 21 21 := ⟨by omega, by omega⟩
        refine G_aload_n 1 dr_cX17_back_31 rfl ?_
        refine Gp_get 2 hm214614 he214615 dr_cX17_back_32 (gk_X17 D I) (Nat.le_of_ble_eq_true rfl) wr_7_76 rfl ?_
        refine G_aload_n 2 dr_cX17_back_35 rfl ?_
        refine Gp_get 4 hm214664 he214665 dr_cX17_back_36 (gk_X15 D I) (Nat.le_of_ble_eq_true rfl) wr_9_193 rfl ?_
        refine Gw_callS (As := [.ref (γ 9 2), .int p214670]) (gV_ok D I) (cp_214484_SpillForgeModel_set l hl0 D I P214608 F214609 (γ 9 2) p214670 f214663 hm214661 he214662 bp214670 wf214663) dr_cX17_back_39 ⟨wr_10_189, wr_1_14, wr_10_191, by decide, rfl, (Nat.le_of_ble_eq_true rfl), (Nat.le_of_ble_eq_true rfl)⟩ wr_10_190 (show 0 + 0 ≤ 0 by first | omega | decide) (show 0 + 0 ≤ 0 by first | omega | decide) (Nat.le_of_ble_eq_true rfl) (fun r214782 w214783 dc214779 ds214780 hp214781 => ?_) (fun _ _ _ _ _ z => z.elim)
        obtain ⟨F214787, f214784, rfl, rfl, hfr214789, he214790, hdc, hds, x214785, x214786⟩ := hp214781
        have he214791 : F214787 q214610 = .inr (22, [.ref (γ 9 0), .ref (γ 9 1), .ref (γ 9 2), .ref (γ 9 3), .ref (γ 9 4), .ref (γ 9 5), .ref (γ 9 6), .ref (γ 9 7), .ref (γ 9 8), .int p214618, .int p214619, .int p214620, .int p214621, .int p214622, .int p214623, .ref (γ 9 15), .ref (γ 9 16), .ref (γ 9 17), .ref (γ 9 18), .ref (γ 9 19), .ref (γ 9 20), .ref (γ 9 21), .ref (γ 9 22), .int p214624, .int p214625, .int p214626, .int p214627, .int p214628, .ref q214616, .ref (γ 9 29), .int p214629, .ref (γ 9 31), .int p214630, .int p214631, .int p214632, .ref q214617]) := (hfr214789 q214610 hm214614 (nm_c (rn_oa he214615 he214662) nm_n)).trans he214615
        have he214792 : F214787 q214611 = .inr (20, [.int p214666, .int p214667, .int p214668, .int p214669, .int p214670, .int p214671, .int p214672]) := (hfr214789 q214611 hm214664 (nm_c (rn_oa he214665 he214662) nm_n)).trans he214665
        have hfr214793 : rFr [(γ 9 2)] P214608 F214609 F214787 := rFr_call (rSub_rf (P := P214608)) (rFr_rf (W := []) (P := P214608) (F := F214609)) hfr214789 (fun b hb hn => ⟨nm_n, (nm_c (fun e => hn (e ▸ List.mem_cons_self)) nm_n)⟩)
        change G _ _ _ _ _ _ _ _ _ _ _
        refine G_widen (cs' := 0) (sl' := 0) (by omega) (by omega) ?_
        have hT214794 : RS D I P214608 F214787 γ el := RS_fr hT hfr214793 ht214637 (by decide) ⟨f214784, he214790, x214785⟩
        have hs214795 : rStr γ [] F214609 F214787 := rStr_fr hT (rStr_rf (γ := γ) (W := []) (F := F214609)) hfr214793 ht214637 (by decide)
        have lv214796 : rLv γ F214609 F214787 := rLv_fr hT ht214635 (rLv_rf (γ := γ) (F := F214609)) hfr214793 ht214637 (by decide)
        have kp214797 : F214787 q214610 = F214609 q214610 := hfr214793 q214610 (RS_m hT htq214610 (by decide)) (nm_c (rn_ty htq214610 ht214637 (by decide)) nm_n)
        exact G_vretA dr_cX17_back_42 rfl (Nat.le_of_ble_eq_true rfl) (Nat.le_of_ble_eq_true rfl) ⟨F214787, rfl, rfl, hT214794, hs214795, (Nat.le_of_ble_eq_true rfl), (Nat.le_of_ble_eq_true rfl), (fun k => by rw [cL_of he214790, cL_of he214662, bkS_of he214665, (decide_eq_true (show (p214612.toInt = 1) by omega))]; exact bk_s false true (decide_eq_false (show ¬ (p214666.toInt = 23) by omega)) (decide_eq_true (show (p214666.toInt = 21) by omega)) (by rw [x214786 k]; simp)), lv214796, kp214797⟩
  · have r214798 : 0 ≤ o214682.toInt := gj_nlt hc214684 (show Int32.toInt 0 = 0 by decide)
    have bo214682' : gB o214682 0 1999 := ⟨by omega, by omega⟩
    refine G_aload_n 1 dr_cX17_back_10 rfl ?_
    refine Gp_get 2 hm214614 he214615 dr_cX17_back_11 (gk_X17 D I) (Nat.le_of_ble_eq_true rfl) wr_7_76 rfl ?_
    refine G_iload_n 0 dr_cX17_back_14 rfl ?_
    refine Gw_callS (As := [.ref (γ 9 2), .int o214682]) (gV_ok D I) (cp_214504_SpillForgeModel_clear l hl0 D I P214608 F214609 (γ 9 2) o214682 f214663 hm214661 he214662 bo214682' wf214663) dr_cX17_back_15 ⟨wr_10_185, wr_1_14, wr_10_187, by decide, rfl, (Nat.le_of_ble_eq_true rfl), (Nat.le_of_ble_eq_true rfl)⟩ wr_10_186 (show 0 + 0 ≤ 0 by first | omega | decide) (show 0 + 0 ≤ 0 by first | omega | decide) (Nat.le_of_ble_eq_true rfl) (fun r214802 w214803 dc214799 ds214800 hp214801 => ?_) (fun _ _ _ _ _ z => z.elim)
    obtain ⟨F214807, f214804, rfl, rfl, hfr214809, he214810, hdc, hds, x214805, x214806⟩ := hp214801
    have he214811 : F214807 q214610 = .inr (22, [.ref (γ 9 0), .ref (γ 9 1), .ref (γ 9 2), .ref (γ 9 3), .ref (γ 9 4), .ref (γ 9 5), .ref (γ 9 6), .ref (γ 9 7), .ref (γ 9 8), .int p214618, .int p214619, .int p214620, .int p214621, .int p214622, .int p214623, .ref (γ 9 15), .ref (γ 9 16), .ref (γ 9 17), .ref (γ 9 18), .ref (γ 9 19), .ref (γ 9 20), .ref (γ 9 21), .ref (γ 9 22), .int p214624, .int p214625, .int p214626, .int p214627, .int p214628, .ref q214616, .ref (γ 9 29), .int p214629, .ref (γ 9 31), .int p214630, .int p214631, .int p214632, .ref q214617]) := (hfr214809 q214610 hm214614 (nm_c (rn_oa he214615 he214662) nm_n)).trans he214615
    have he214812 : F214807 q214611 = .inr (20, [.int p214666, .int p214667, .int p214668, .int p214669, .int p214670, .int p214671, .int p214672]) := (hfr214809 q214611 hm214664 (nm_c (rn_oa he214665 he214662) nm_n)).trans he214665
    have hfr214813 : rFr [(γ 9 2)] P214608 F214609 F214807 := rFr_call (rSub_rf (P := P214608)) (rFr_rf (W := []) (P := P214608) (F := F214609)) hfr214809 (fun b hb hn => ⟨nm_n, (nm_c (fun e => hn (e ▸ List.mem_cons_self)) nm_n)⟩)
    change G _ _ _ _ _ _ _ _ _ _ _
    refine G_widen (cs' := 0) (sl' := 0) (by omega) (by omega) ?_
    have hT214814 : RS D I P214608 F214807 γ el := RS_fr hT hfr214813 ht214637 (by decide) ⟨f214804, he214810, x214805⟩
    have hs214815 : rStr γ [] F214609 F214807 := rStr_fr hT (rStr_rf (γ := γ) (W := []) (F := F214609)) hfr214813 ht214637 (by decide)
    have lv214816 : rLv γ F214609 F214807 := rLv_fr hT ht214635 (rLv_rf (γ := γ) (F := F214609)) hfr214813 ht214637 (by decide)
    have kp214817 : F214807 q214610 = F214609 q214610 := hfr214813 q214610 (RS_m hT htq214610 (by decide)) (nm_c (rn_ty htq214610 ht214637 (by decide)) nm_n)
    refine G_iload_n 3 dr_cX17_back_18 rfl ?_
    refine G_if_eq 43 dr_cX17_back_19 (by decide +kernel) (fun hc214818 => ?_) (fun hc214818 => ?_)
    · have r214819 : p214612.toInt = 0 := gj_eq hc214818 (show Int32.toInt 0 = 0 by decide)
      have bp214612' : gB p214612 0 0 := ⟨by omega, by omega⟩
      refine G_aload_n 2 dr_cX17_back_43 rfl ?_
      refine Gw_callV (As := []) (gV_ok D I) (cp_214529_Row_usesA l hl0 D I P214608 F214807 q214611 p214666 p214667 p214668 p214669 p214670 p214671 p214672 hm214664 he214812 bp214666 bp214667 bp214670 bp214671 bp214672) dr_cX17_back_44 ⟨wr_10_192, wr_1_39, wr_10_195, by decide, rfl, (Nat.le_of_ble_eq_true rfl), (Nat.le_of_ble_eq_true rfl)⟩ wr_10_193 wr_10_194 hm214664 he214812 rfl (show 0 + 0 ≤ 0 by first | omega | decide) (show 0 + 0 ≤ 0 by first | omega | decide) (Nat.le_of_ble_eq_true rfl) (fun r214823 w214824 dc214820 ds214821 hp214822 => ?_) (fun _ _ _ _ _ z => z.elim)
      obtain ⟨o214825, rfl, rfl, hdc, hds, bo214825, x214826⟩ := hp214822
      change G _ _ _ _ _ _ _ (.int o214825 :: _) _ _ _
      refine G_widen (cs' := 0) (sl' := 0) (by omega) (by omega) ?_
      refine G_if_eq 61 dr_cX17_back_47 (by decide +kernel) (fun hc214827 => ?_) (fun hc214827 => ?_)
      · have r214828 : o214825.toInt = 0 := gj_eq hc214827 (show Int32.toInt 0 = 0 by decide)
        have bo214825' : gB o214825 0 0 := ⟨by omega, by omega⟩
        refine G_aload_n 2 dr_cX17_back_61 rfl ?_
        refine Gw_callV (As := []) (gV_ok D I) (cp_214553_Row_usesB l hl0 D I P214608 F214807 q214611 p214666 p214667 p214668 p214669 p214670 p214671 p214672 hm214664 he214812 bp214666 bp214667 bp214670 bp214671 bp214672) dr_cX17_back_62 ⟨wr_10_196, wr_1_39, wr_10_199, by decide, rfl, (Nat.le_of_ble_eq_true rfl), (Nat.le_of_ble_eq_true rfl)⟩ wr_10_197 wr_10_198 hm214664 he214812 rfl (show 0 + 0 ≤ 0 by first | omega | decide) (show 0 + 0 ≤ 0 by first | omega | decide) (Nat.le_of_ble_eq_true rfl) (fun r214832 w214833 dc214829 ds214830 hp214831 => ?_) (fun _ _ _ _ _ z => z.elim)
        obtain ⟨o214834, rfl, rfl, hdc, hds, bo214834, x214835⟩ := hp214831
        change G _ _ _ _ _ _ _ (.int o214834 :: _) _ _ _
        refine G_widen (cs' := 0) (sl' := 0) (by omega) (by omega) ?_
        refine G_if_eq 79 dr_cX17_back_65 (by decide +kernel) (fun hc214836 => ?_) (fun hc214836 => ?_)
        · have r214837 : o214834.toInt = 0 := gj_eq hc214836 (show Int32.toInt 0 = 0 by decide)
          have bo214834' : gB o214834 0 0 := ⟨by omega, by omega⟩
          exact G_vretA dr_cX17_back_79 rfl (Nat.le_of_ble_eq_true rfl) (Nat.le_of_ble_eq_true rfl) ⟨F214807, rfl, rfl, hT214814, hs214815, (Nat.le_of_ble_eq_true rfl), (Nat.le_of_ble_eq_true rfl), (fun k => by rw [cL_of he214810, cL_of he214662, bkS_of he214665, (decide_eq_false (show ¬ (p214612.toInt = 1) by omega))]; exact bk_n true false false (decide_eq_true (show (p214666.toInt ≤ 21) by omega)) (decide_eq_false (show ¬ (p214666.toInt ≠ 20 ∧ p214666.toInt ≠ 21 ∧ p214666.toInt ≠ 30 ∧ p214671.toInt = 1) by omega)) (decide_eq_false (show ¬ (0 < p214666.toInt ∧ p214666.toInt < 20 ∧ p214672.toInt = 1) by omega)) (by rw [x214806 k, show o214682.toInt = p214667.toInt by omega]; simp)), lv214816, kp214817⟩
        · have r214838 : o214834.toInt ≠ 0 := gj_neq hc214836 (show Int32.toInt 0 = 0 by decide)
          have bo214834' : gB o214834 1 1 := ⟨by omega, by omega⟩
          refine G_aload_n 1 dr_cX17_back_68 rfl ?_
          refine Gp_get 2 hm214614 he214811 dr_cX17_back_69 (gk_X17 D I) (Nat.le_of_ble_eq_true rfl) wr_7_76 rfl ?_
          refine G_aload_n 2 dr_cX17_back_72 rfl ?_
          refine Gp_get 3 hm214664 he214812 dr_cX17_back_73 (gk_X15 D I) (Nat.le_of_ble_eq_true rfl) wr_9_190 rfl ?_
          refine Gw_callS (As := [.ref (γ 9 2), .int p214669]) (gV_ok D I) (cp_214484_SpillForgeModel_set l hl0 D I P214608 F214807 (γ 9 2) p214669 f214804 hm214661 he214810 ⟨by omega, by omega⟩ x214805) dr_cX17_back_76 ⟨wr_10_189, wr_1_14, wr_10_191, by decide, rfl, (Nat.le_of_ble_eq_true rfl), (Nat.le_of_ble_eq_true rfl)⟩ wr_10_190 (show 0 + 0 ≤ 0 by first | omega | decide) (show 0 + 0 ≤ 0 by first | omega | decide) (Nat.le_of_ble_eq_true rfl) (fun r214842 w214843 dc214839 ds214840 hp214841 => ?_) (fun _ _ _ _ _ z => z.elim)
          obtain ⟨F214847, f214844, rfl, rfl, hfr214849, he214850, hdc, hds, x214845, x214846⟩ := hp214841
          have he214851 : F214847 q214610 = .inr (22, [.ref (γ 9 0), .ref (γ 9 1), .ref (γ 9 2), .ref (γ 9 3), .ref (γ 9 4), .ref (γ 9 5), .ref (γ 9 6), .ref (γ 9 7), .ref (γ 9 8), .int p214618, .int p214619, .int p214620, .int p214621, .int p214622, .int p214623, .ref (γ 9 15), .ref (γ 9 16), .ref (γ 9 17), .ref (γ 9 18), .ref (γ 9 19), .ref (γ 9 20), .ref (γ 9 21), .ref (γ 9 22), .int p214624, .int p214625, .int p214626, .int p214627, .int p214628, .ref q214616, .ref (γ 9 29), .int p214629, .ref (γ 9 31), .int p214630, .int p214631, .int p214632, .ref q214617]) := (hfr214849 q214610 hm214614 (nm_c (rn_oa he214811 he214810) nm_n)).trans he214811
          have he214852 : F214847 q214611 = .inr (20, [.int p214666, .int p214667, .int p214668, .int p214669, .int p214670, .int p214671, .int p214672]) := (hfr214849 q214611 hm214664 (nm_c (rn_oa he214812 he214810) nm_n)).trans he214812
          have hfr214853 : rFr [(γ 9 2)] P214608 F214807 F214847 := rFr_call (rSub_rf (P := P214608)) (rFr_rf (W := []) (P := P214608) (F := F214807)) hfr214849 (fun b hb hn => ⟨nm_n, (nm_c (fun e => hn (e ▸ List.mem_cons_self)) nm_n)⟩)
          change G _ _ _ _ _ _ _ _ _ _ _
          refine G_widen (cs' := 0) (sl' := 0) (by omega) (by omega) ?_
          have hT214854 : RS D I P214608 F214847 γ el := RS_fr hT214814 hfr214853 ht214637 (by decide) ⟨f214844, he214850, x214845⟩
          have hs214855 : rStr γ [] F214609 F214847 := rStr_fr hT214814 hs214815 hfr214853 ht214637 (by decide)
          have lv214856 : rLv γ F214609 F214847 := rLv_fr hT214814 ht214635 lv214816 hfr214853 ht214637 (by decide)
          have kp214857 : F214847 q214610 = F214609 q214610 := (hfr214853 q214610 (RS_m hT214814 htq214610 (by decide)) (nm_c (rn_ty htq214610 ht214637 (by decide)) nm_n)).trans kp214817
          exact G_vretA dr_cX17_back_79 rfl (Nat.le_of_ble_eq_true rfl) (Nat.le_of_ble_eq_true rfl) ⟨F214847, rfl, rfl, hT214854, hs214855, (Nat.le_of_ble_eq_true rfl), (Nat.le_of_ble_eq_true rfl), (fun k => by rw [cL_of he214850, cL_of he214662, bkS_of he214665, (decide_eq_false (show ¬ (p214612.toInt = 1) by omega))]; exact bk_n true false true (decide_eq_true (show (p214666.toInt ≤ 21) by omega)) (decide_eq_false (show ¬ (p214666.toInt ≠ 20 ∧ p214666.toInt ≠ 21 ∧ p214666.toInt ≠ 30 ∧ p214671.toInt = 1) by omega)) (decide_eq_true (show (0 < p214666.toInt ∧ p214666.toInt < 20 ∧ p214672.toInt = 1) by omega)) (by rw [x214846 k, x214806 k, show o214682.toInt = p214667.toInt by omega]; simp)), lv214856, kp214857⟩
      · have r214858 : o214825.toInt ≠ 0 := gj_neq hc214827 (show Int32.toInt 0 = 0 by decide)
        have bo214825' : gB o214825 1 1 := ⟨by omega, by omega⟩
        refine G_aload_n 1 dr_cX17_back_50 rfl ?_
        refine Gp_get 2 hm214614 he214811 dr_cX17_back_51 (gk_X17 D I) (Nat.le_of_ble_eq_true rfl) wr_7_76 rfl ?_
        refine G_aload_n 2 dr_cX17_back_54 rfl ?_
        refine Gp_get 2 hm214664 he214812 dr_cX17_back_55 (gk_X15 D I) (Nat.le_of_ble_eq_true rfl) wr_9_186 rfl ?_
        refine Gw_callS (As := [.ref (γ 9 2), .int p214668]) (gV_ok D I) (cp_214484_SpillForgeModel_set l hl0 D I P214608 F214807 (γ 9 2) p214668 f214804 hm214661 he214810 ⟨by omega, by omega⟩ x214805) dr_cX17_back_58 ⟨wr_10_189, wr_1_14, wr_10_191, by decide, rfl, (Nat.le_of_ble_eq_true rfl), (Nat.le_of_ble_eq_true rfl)⟩ wr_10_190 (show 0 + 0 ≤ 0 by first | omega | decide) (show 0 + 0 ≤ 0 by first | omega | decide) (Nat.le_of_ble_eq_true rfl) (fun r214862 w214863 dc214859 ds214860 hp214861 => ?_) (fun _ _ _ _ _ z => z.elim)
        obtain ⟨F214867, f214864, rfl, rfl, hfr214869, he214870, hdc, hds, x214865, x214866⟩ := hp214861
        have he214871 : F214867 q214610 = .inr (22, [.ref (γ 9 0), .ref (γ 9 1), .ref (γ 9 2), .ref (γ 9 3), .ref (γ 9 4), .ref (γ 9 5), .ref (γ 9 6), .ref (γ 9 7), .ref (γ 9 8), .int p214618, .int p214619, .int p214620, .int p214621, .int p214622, .int p214623, .ref (γ 9 15), .ref (γ 9 16), .ref (γ 9 17), .ref (γ 9 18), .ref (γ 9 19), .ref (γ 9 20), .ref (γ 9 21), .ref (γ 9 22), .int p214624, .int p214625, .int p214626, .int p214627, .int p214628, .ref q214616, .ref (γ 9 29), .int p214629, .ref (γ 9 31), .int p214630, .int p214631, .int p214632, .ref q214617]) := (hfr214869 q214610 hm214614 (nm_c (rn_oa he214811 he214810) nm_n)).trans he214811
        have he214872 : F214867 q214611 = .inr (20, [.int p214666, .int p214667, .int p214668, .int p214669, .int p214670, .int p214671, .int p214672]) := (hfr214869 q214611 hm214664 (nm_c (rn_oa he214812 he214810) nm_n)).trans he214812
        have hfr214873 : rFr [(γ 9 2)] P214608 F214807 F214867 := rFr_call (rSub_rf (P := P214608)) (rFr_rf (W := []) (P := P214608) (F := F214807)) hfr214869 (fun b hb hn => ⟨nm_n, (nm_c (fun e => hn (e ▸ List.mem_cons_self)) nm_n)⟩)
        change G _ _ _ _ _ _ _ _ _ _ _
        refine G_widen (cs' := 0) (sl' := 0) (by omega) (by omega) ?_
        have hT214874 : RS D I P214608 F214867 γ el := RS_fr hT214814 hfr214873 ht214637 (by decide) ⟨f214864, he214870, x214865⟩
        have hs214875 : rStr γ [] F214609 F214867 := rStr_fr hT214814 hs214815 hfr214873 ht214637 (by decide)
        have lv214876 : rLv γ F214609 F214867 := rLv_fr hT214814 ht214635 lv214816 hfr214873 ht214637 (by decide)
        have kp214877 : F214867 q214610 = F214609 q214610 := (hfr214873 q214610 (RS_m hT214814 htq214610 (by decide)) (nm_c (rn_ty htq214610 ht214637 (by decide)) nm_n)).trans kp214817
        refine G_aload_n 2 dr_cX17_back_61 rfl ?_
        refine Gw_callV (As := []) (gV_ok D I) (cp_214553_Row_usesB l hl0 D I P214608 F214867 q214611 p214666 p214667 p214668 p214669 p214670 p214671 p214672 hm214664 he214872 bp214666 bp214667 bp214670 bp214671 bp214672) dr_cX17_back_62 ⟨wr_10_196, wr_1_39, wr_10_199, by decide, rfl, (Nat.le_of_ble_eq_true rfl), (Nat.le_of_ble_eq_true rfl)⟩ wr_10_197 wr_10_198 hm214664 he214872 rfl (show 0 + 0 ≤ 0 by first | omega | decide) (show 0 + 0 ≤ 0 by first | omega | decide) (Nat.le_of_ble_eq_true rfl) (fun r214881 w214882 dc214878 ds214879 hp214880 => ?_) (fun _ _ _ _ _ z => z.elim)
        obtain ⟨o214883, rfl, rfl, hdc, hds, bo214883, x214884⟩ := hp214880
        change G _ _ _ _ _ _ _ (.int o214883 :: _) _ _ _
        refine G_widen (cs' := 0) (sl' := 0) (by omega) (by omega) ?_
        refine G_if_eq 79 dr_cX17_back_65 (by decide +kernel) (fun hc214885 => ?_) (fun hc214885 => ?_)
        · have r214886 : o214883.toInt = 0 := gj_eq hc214885 (show Int32.toInt 0 = 0 by decide)
          have bo214883' : gB o214883 0 0 := ⟨by omega, by omega⟩
          exact G_vretA dr_cX17_back_79 rfl (Nat.le_of_ble_eq_true rfl) (Nat.le_of_ble_eq_true rfl) ⟨F214867, rfl, rfl, hT214874, hs214875, (Nat.le_of_ble_eq_true rfl), (Nat.le_of_ble_eq_true rfl), (fun k => by rw [cL_of he214870, cL_of he214662, bkS_of he214665, (decide_eq_false (show ¬ (p214612.toInt = 1) by omega))]; exact bk_n true true false (decide_eq_true (show (p214666.toInt ≤ 21) by omega)) (decide_eq_true (show (p214666.toInt ≠ 20 ∧ p214666.toInt ≠ 21 ∧ p214666.toInt ≠ 30 ∧ p214671.toInt = 1) by omega)) (decide_eq_false (show ¬ (0 < p214666.toInt ∧ p214666.toInt < 20 ∧ p214672.toInt = 1) by omega)) (by rw [x214866 k, x214806 k, show o214682.toInt = p214667.toInt by omega]; simp)), lv214876, kp214877⟩
        · have r214887 : o214883.toInt ≠ 0 := gj_neq hc214885 (show Int32.toInt 0 = 0 by decide)
          have bo214883' : gB o214883 1 1 := ⟨by omega, by omega⟩
          refine G_aload_n 1 dr_cX17_back_68 rfl ?_
          refine Gp_get 2 hm214614 he214871 dr_cX17_back_69 (gk_X17 D I) (Nat.le_of_ble_eq_true rfl) wr_7_76 rfl ?_
          refine G_aload_n 2 dr_cX17_back_72 rfl ?_
          refine Gp_get 3 hm214664 he214872 dr_cX17_back_73 (gk_X15 D I) (Nat.le_of_ble_eq_true rfl) wr_9_190 rfl ?_
          refine Gw_callS (As := [.ref (γ 9 2), .int p214669]) (gV_ok D I) (cp_214484_SpillForgeModel_set l hl0 D I P214608 F214867 (γ 9 2) p214669 f214864 hm214661 he214870 ⟨by omega, by omega⟩ x214865) dr_cX17_back_76 ⟨wr_10_189, wr_1_14, wr_10_191, by decide, rfl, (Nat.le_of_ble_eq_true rfl), (Nat.le_of_ble_eq_true rfl)⟩ wr_10_190 (show 0 + 0 ≤ 0 by first | omega | decide) (show 0 + 0 ≤ 0 by first | omega | decide) (Nat.le_of_ble_eq_true rfl) (fun r214891 w214892 dc214888 ds214889 hp214890 => ?_) (fun _ _ _ _ _ z => z.elim)
          obtain ⟨F214896, f214893, rfl, rfl, hfr214898, he214899, hdc, hds, x214894, x214895⟩ := hp214890
          have he214900 : F214896 q214610 = .inr (22, [.ref (γ 9 0), .ref (γ 9 1), .ref (γ 9 2), .ref (γ 9 3), .ref (γ 9 4), .ref (γ 9 5), .ref (γ 9 6), .ref (γ 9 7), .ref (γ 9 8), .int p214618, .int p214619, .int p214620, .int p214621, .int p214622, .int p214623, .ref (γ 9 15), .ref (γ 9 16), .ref (γ 9 17), .ref (γ 9 18), .ref (γ 9 19), .ref (γ 9 20), .ref (γ 9 21), .ref (γ 9 22), .int p214624, .int p214625, .int p214626, .int p214627, .int p214628, .ref q214616, .ref (γ 9 29), .int p214629, .ref (γ 9 31), .int p214630, .int p214631, .int p214632, .ref q214617]) := (hfr214898 q214610 hm214614 (nm_c (rn_oa he214871 he214870) nm_n)).trans he214871
          have he214901 : F214896 q214611 = .inr (20, [.int p214666, .int p214667, .int p214668, .int p214669, .int p214670, .int p214671, .int p214672]) := (hfr214898 q214611 hm214664 (nm_c (rn_oa he214872 he214870) nm_n)).trans he214872
          have hfr214902 : rFr [(γ 9 2)] P214608 F214867 F214896 := rFr_call (rSub_rf (P := P214608)) (rFr_rf (W := []) (P := P214608) (F := F214867)) hfr214898 (fun b hb hn => ⟨nm_n, (nm_c (fun e => hn (e ▸ List.mem_cons_self)) nm_n)⟩)
          change G _ _ _ _ _ _ _ _ _ _ _
          refine G_widen (cs' := 0) (sl' := 0) (by omega) (by omega) ?_
          have hT214903 : RS D I P214608 F214896 γ el := RS_fr hT214874 hfr214902 ht214637 (by decide) ⟨f214893, he214899, x214894⟩
          have hs214904 : rStr γ [] F214609 F214896 := rStr_fr hT214874 hs214875 hfr214902 ht214637 (by decide)
          have lv214905 : rLv γ F214609 F214896 := rLv_fr hT214874 ht214635 lv214876 hfr214902 ht214637 (by decide)
          have kp214906 : F214896 q214610 = F214609 q214610 := (hfr214902 q214610 (RS_m hT214874 htq214610 (by decide)) (nm_c (rn_ty htq214610 ht214637 (by decide)) nm_n)).trans kp214877
          exact G_vretA dr_cX17_back_79 rfl (Nat.le_of_ble_eq_true rfl) (Nat.le_of_ble_eq_true rfl) ⟨F214896, rfl, rfl, hT214903, hs214904, (Nat.le_of_ble_eq_true rfl), (Nat.le_of_ble_eq_true rfl), (fun k => by rw [cL_of he214899, cL_of he214662, bkS_of he214665, (decide_eq_false (show ¬ (p214612.toInt = 1) by omega))]; exact bk_n true true true (decide_eq_true (show (p214666.toInt ≤ 21) by omega)) (decide_eq_true (show (p214666.toInt ≠ 20 ∧ p214666.toInt ≠ 21 ∧ p214666.toInt ≠ 30 ∧ p214671.toInt = 1) by omega)) (decide_eq_true (show (0 < p214666.toInt ∧ p214666.toInt < 20 ∧ p214672.toInt = 1) by omega)) (by rw [x214895 k, x214866 k, x214806 k, show o214682.toInt = p214667.toInt by omega]; simp)), lv214905, kp214906⟩
    · have r214907 : p214612.toInt ≠ 0 := gj_neq hc214818 (show Int32.toInt 0 = 0 by decide)
      have bp214612' : gB p214612 1 1 := ⟨by omega, by omega⟩
      refine G_aload_n 2 dr_cX17_back_22 rfl ?_
      refine Gp_get 0 hm214664 he214812 dr_cX17_back_23 (gk_X15 D I) (Nat.le_of_ble_eq_true rfl) wr_9_177 rfl ?_
      refine G_bipush 21 dr_cX17_back_26 (by decide +kernel) ?_
      refine G_icmp_ne 42 dr_cX17_back_28 (by decide +kernel) (fun hc214908 => ?_) (fun hc214908 => ?_)
      · have r214909 : p214666.toInt ≠ 21 := gj_neq hc214908 (show Int32.toInt 21 = 21 by decide)
        exact G_vretA dr_cX17_back_42 rfl (Nat.le_of_ble_eq_true rfl) (Nat.le_of_ble_eq_true rfl) ⟨F214807, rfl, rfl, hT214814, hs214815, (Nat.le_of_ble_eq_true rfl), (Nat.le_of_ble_eq_true rfl), (fun k => by rw [cL_of he214810, cL_of he214662, bkS_of he214665, (decide_eq_true (show (p214612.toInt = 1) by omega))]; exact bk_s true false (decide_eq_true (show (p214666.toInt = 23) by omega)) (decide_eq_false (show ¬ (p214666.toInt = 21) by omega)) (by rw [x214806 k, show o214682.toInt = p214670.toInt by omega]; simp)), lv214816, kp214817⟩
      · have r214910 : p214666.toInt = 21 := gj_eq hc214908 (show Int32.toInt 21 = 21 by decide)
        have bp214666' : gB p214666 21 21 := ⟨by omega, by omega⟩
        refine G_aload_n 1 dr_cX17_back_31 rfl ?_
        refine Gp_get 2 hm214614 he214811 dr_cX17_back_32 (gk_X17 D I) (Nat.le_of_ble_eq_true rfl) wr_7_76 rfl ?_
        refine G_aload_n 2 dr_cX17_back_35 rfl ?_
        refine Gp_get 4 hm214664 he214812 dr_cX17_back_36 (gk_X15 D I) (Nat.le_of_ble_eq_true rfl) wr_9_193 rfl ?_
        refine Gw_callS (As := [.ref (γ 9 2), .int p214670]) (gV_ok D I) (cp_214484_SpillForgeModel_set l hl0 D I P214608 F214807 (γ 9 2) p214670 f214804 hm214661 he214810 bp214670 x214805) dr_cX17_back_39 ⟨wr_10_189, wr_1_14, wr_10_191, by decide, rfl, (Nat.le_of_ble_eq_true rfl), (Nat.le_of_ble_eq_true rfl)⟩ wr_10_190 (show 0 + 0 ≤ 0 by first | omega | decide) (show 0 + 0 ≤ 0 by first | omega | decide) (Nat.le_of_ble_eq_true rfl) (fun r214914 w214915 dc214911 ds214912 hp214913 => ?_) (fun _ _ _ _ _ z => z.elim)
        obtain ⟨F214919, f214916, rfl, rfl, hfr214921, he214922, hdc, hds, x214917, x214918⟩ := hp214913
        have he214923 : F214919 q214610 = .inr (22, [.ref (γ 9 0), .ref (γ 9 1), .ref (γ 9 2), .ref (γ 9 3), .ref (γ 9 4), .ref (γ 9 5), .ref (γ 9 6), .ref (γ 9 7), .ref (γ 9 8), .int p214618, .int p214619, .int p214620, .int p214621, .int p214622, .int p214623, .ref (γ 9 15), .ref (γ 9 16), .ref (γ 9 17), .ref (γ 9 18), .ref (γ 9 19), .ref (γ 9 20), .ref (γ 9 21), .ref (γ 9 22), .int p214624, .int p214625, .int p214626, .int p214627, .int p214628, .ref q214616, .ref (γ 9 29), .int p214629, .ref (γ 9 31), .int p214630, .int p214631, .int p214632, .ref q214617]) := (hfr214921 q214610 hm214614 (nm_c (rn_oa he214811 he214810) nm_n)).trans he214811
        have he214924 : F214919 q214611 = .inr (20, [.int p214666, .int p214667, .int p214668, .int p214669, .int p214670, .int p214671, .int p214672]) := (hfr214921 q214611 hm214664 (nm_c (rn_oa he214812 he214810) nm_n)).trans he214812
        have hfr214925 : rFr [(γ 9 2)] P214608 F214807 F214919 := rFr_call (rSub_rf (P := P214608)) (rFr_rf (W := []) (P := P214608) (F := F214807)) hfr214921 (fun b hb hn => ⟨nm_n, (nm_c (fun e => hn (e ▸ List.mem_cons_self)) nm_n)⟩)
        change G _ _ _ _ _ _ _ _ _ _ _
        refine G_widen (cs' := 0) (sl' := 0) (by omega) (by omega) ?_
        have hT214926 : RS D I P214608 F214919 γ el := RS_fr hT214814 hfr214925 ht214637 (by decide) ⟨f214916, he214922, x214917⟩
        have hs214927 : rStr γ [] F214609 F214919 := rStr_fr hT214814 hs214815 hfr214925 ht214637 (by decide)
        have lv214928 : rLv γ F214609 F214919 := rLv_fr hT214814 ht214635 lv214816 hfr214925 ht214637 (by decide)
        have kp214929 : F214919 q214610 = F214609 q214610 := (hfr214925 q214610 (RS_m hT214814 htq214610 (by decide)) (nm_c (rn_ty htq214610 ht214637 (by decide)) nm_n)).trans kp214817
        exact G_vretA dr_cX17_back_42 rfl (Nat.le_of_ble_eq_true rfl) (Nat.le_of_ble_eq_true rfl) ⟨F214919, rfl, rfl, hT214926, hs214927, (Nat.le_of_ble_eq_true rfl), (Nat.le_of_ble_eq_true rfl), (fun k => by rw [cL_of he214922, cL_of he214662, bkS_of he214665, (decide_eq_true (show (p214612.toInt = 1) by omega))]; exact bk_s true true (decide_eq_true (show (p214666.toInt = 23) by omega)) (decide_eq_true (show (p214666.toInt = 21) by omega)) (by rw [x214918 k, x214806 k, show o214682.toInt = p214670.toInt by omega]; simp)), lv214928, kp214929⟩
