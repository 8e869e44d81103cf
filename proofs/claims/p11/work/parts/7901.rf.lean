/- tr_RModel_set2: a.0.[] -/
def tr_RModel_set2 (a1 : Int32) (a0_v : Nat → Int64) (o1 : Nat → Int64) : Prop := ∀ R : (Nat → Int64) → Prop,
  (∀ (x1 : Int32) (x2 : Int64) (x3 : Int64) (x4 : Int64) (x5 : Nat → Int64), x1.toInt = a1.toInt / 64 → x2 = a0_v x1.toNatClampNeg → x3 = (1 : Int64) <<< (a1.toInt64 &&& 63) → x4 = x2 ||| x3 → x5 = vp_updL a0_v x1.toNatClampNeg x4 → R x5) →
  R o1
abbrev ky_222405_SpillForgeModel_set : gKey := (cX17_set, 2, "SpillForgeModel", none, [], "set", fun _ _ => True)
def pp_222405_SpillForgeModel_set (D : va_G) (I : FieldType → ClassId) (P222399 : List Nat) (F222400 : Nat → va_E) (q222401 : Nat) (p222402 : Int32) (f222403 : Nat → Int64) : Option Value → va_W → Nat → Nat → Prop := fun r w dc ds => ∃ (F222418 : Nat → va_E) (f222416 : Nat → Int64), r = none ∧ w = va_pl P222399 F222418 ∧ rFr [q222401] P222399 F222400 F222418 ∧ F222418 q222401 = .inl (I .long, 32, .inr (.inl f222416)) ∧ dc ≤ 0 ∧ ds ≤ 0 ∧ lb_W f222416 (32) (32) (2000) ∧ (∀ k : Nat, rbt f222416 k = (rbt f222403 k || decide ((k : Int) = p222402.toInt))) ∧ tr_RModel_set2 p222402 f222403 f222416
set_option maxRecDepth 100000 in
set_option maxHeartbeats 4000000 in
theorem cp_222405_SpillForgeModel_set (l : Launch) (hl0 : l.stackTraces = false) (D : va_G) (I : FieldType → ClassId) (P222399 : List Nat) (F222400 : Nat → va_E) (q222401 : Nat) (p222402 : Int32) (f222403 : Nat → Int64) (hmq222401 : q222401 ∈ P222399) (heq222401 : F222400 q222401 = .inl (I .long, 32, .inr (.inl f222403))) (bp222402 : gB p222402 0 1999) (x222404 : lb_W f222403 (32) (32) (2000)) : CtA (gV D I) l yX17_set cX17_set 2 none 0 0 0 0 [.ref q222401, .int p222402] (va_pl P222399 F222400) (pp_222405_SpillForgeModel_set D I P222399 F222400 q222401 p222402 f222403) gNA := by
  refine CtA_of hl0 (by decide) (Nat.le_of_ble_eq_true rfl) ?_
  refine G_aload_n 0 dr_cX17_set_0 rfl ?_
  refine G_iload_n 1 dr_cX17_set_1 rfl ?_
  refine G_bipush 6 dr_cX17_set_2 (by decide +kernel) ?_
  refine G_ishr dr_cX17_set_4 (G_nam fun z222406 hz222406 => ?_)
  have ez222406 : z222406.toInt = p222402.toInt / 64 := gI_shr (k := 6) hz222406 (by decide)
  have bz222406 : gB z222406 0 31 := ⟨by omega, by omega⟩
  refine G_dup2_11 dr_cX17_set_5 rfl rfl ?_
  refine Gp_lald 2 hmq222401 heq222401 dr_cX17_set_6 rfl (gB_in bz222406 (by decide) (by decide)) (G_namL fun u222407 hu222407 => ?_)
  have qu222407 : lb_Q u222407 (2000 - 64 * z222406.toInt) := lb_Wld hu222407 x222404 (by omega) (by omega) (lb_Mod0 (by omega) (by omega))
  refine G_lconst 1 dr_cX17_set_7 rfl ?_
  refine G_iload_n 1 dr_cX17_set_8 rfl ?_
  refine G_lshl dr_cX17_set_9 (G_namL fun u222408 hu222408 => ?_)
  have qu222408 : lb_Q u222408 (p222402.toInt % 64 + 1) := lb_Qshl hu222408 (by omega)
  refine G_lor dr_cX17_set_10 (G_namL fun u222409 hu222409 => ?_)
  have qu222409 : lb_Q u222409 (2000 - 64 * z222406.toInt) := lb_Qor hu222409 qu222407 (lb_Qw qu222408 (by omega))
  refine Gp_last 2 hmq222401 heq222401 dr_cX17_set_11 rfl (gB_in bz222406 (by decide) (by decide)) (fun F222410 e222411 n222412 => ?_)
  obtain ⟨f222413, hf222413⟩ : ∃ z, z = vp_updL f222403 z222406.toNatClampNeg u222409 := ⟨_, rfl⟩
  rw [← hf222413] at e222411
  have he222414 : F222410 q222401 = .inl (I .long, 32, .inr (.inl f222413)) := e222411
  have hfr222415 : rFr [q222401] P222399 F222400 F222410 := rFr_put (rFr_rf (W := []) (P := P222399) (F := F222400)) n222412
  have wf222413 : lb_W f222413 (32) (32) (2000) := lb_Wst hf222413 x222404 (by omega) (lb_Mod0 (by omega) (by omega)) qu222409
  exact G_vretA dr_cX17_set_12 rfl (Nat.le_of_ble_eq_true rfl) (Nat.le_of_ble_eq_true rfl) ⟨F222410, f222413, rfl, rfl, hfr222415, he222414, (Nat.le_of_ble_eq_true rfl), (Nat.le_of_ble_eq_true rfl), wf222413, (rbt_set (by assumption) (by assumption) (by assumption) (by assumption) hf222413 (by omega)), (fun R c1 => c1 z222406 u222407 u222408 u222409 f222413 ez222406 hu222407 hu222408 hu222409 hf222413)⟩
/- tr_RModel_clear2: a.0.[] -/
def tr_RModel_clear2 (a1 : Int32) (a0_v : Nat → Int64) (o1 : Nat → Int64) : Prop := ∀ R : (Nat → Int64) → Prop,
  (∀ (x1 : Int32) (x2 : Int64) (x3 : Int64) (x4 : Int64) (x5 : Int64) (x6 : Nat → Int64), x1.toInt = a1.toInt / 64 → x2 = a0_v x1.toNatClampNeg → x3 = (1 : Int64) <<< (a1.toInt64 &&& 63) → x4 = x3 ^^^ (-1 : Int64) → x5 = x2 &&& x4 → x6 = vp_updL a0_v x1.toNatClampNeg x5 → R x6) →
  R o1
abbrev ky_222425_SpillForgeModel_clear : gKey := (cX17_clear, 2, "SpillForgeModel", none, [], "clear", fun _ _ => True)
def pp_222425_SpillForgeModel_clear (D : va_G) (I : FieldType → ClassId) (P222419 : List Nat) (F222420 : Nat → va_E) (q222421 : Nat) (p222422 : Int32) (f222423 : Nat → Int64) : Option Value → va_W → Nat → Nat → Prop := fun r w dc ds => ∃ (F222439 : Nat → va_E) (f222437 : Nat → Int64), r = none ∧ w = va_pl P222419 F222439 ∧ rFr [q222421] P222419 F222420 F222439 ∧ F222439 q222421 = .inl (I .long, 32, .inr (.inl f222437)) ∧ dc ≤ 0 ∧ ds ≤ 0 ∧ lb_W f222437 (32) (32) (2000) ∧ (∀ k : Nat, rbt f222437 k = (rbt f222423 k && ! decide ((k : Int) = p222422.toInt))) ∧ tr_RModel_clear2 p222422 f222423 f222437
set_option maxRecDepth 100000 in
set_option maxHeartbeats 4000000 in
theorem cp_222425_SpillForgeModel_clear (l : Launch) (hl0 : l.stackTraces = false) (D : va_G) (I : FieldType → ClassId) (P222419 : List Nat) (F222420 : Nat → va_E) (q222421 : Nat) (p222422 : Int32) (f222423 : Nat → Int64) (hmq222421 : q222421 ∈ P222419) (heq222421 : F222420 q222421 = .inl (I .long, 32, .inr (.inl f222423))) (bp222422 : gB p222422 0 1999) (x222424 : lb_W f222423 (32) (32) (2000)) : CtA (gV D I) l yX17_clear cX17_clear 2 none 0 0 0 0 [.ref q222421, .int p222422] (va_pl P222419 F222420) (pp_222425_SpillForgeModel_clear D I P222419 F222420 q222421 p222422 f222423) gNA := by
  refine CtA_of hl0 (by decide) (Nat.le_of_ble_eq_true rfl) ?_
  refine G_aload_n 0 dr_cX17_clear_0 rfl ?_
  refine G_iload_n 1 dr_cX17_clear_1 rfl ?_
  refine G_bipush 6 dr_cX17_clear_2 (by decide +kernel) ?_
  refine G_ishr dr_cX17_clear_4 (G_nam fun z222426 hz222426 => ?_)
  have ez222426 : z222426.toInt = p222422.toInt / 64 := gI_shr (k := 6) hz222426 (by decide)
  have bz222426 : gB z222426 0 31 := ⟨by omega, by omega⟩
  refine G_dup2_11 dr_cX17_clear_5 rfl rfl ?_
  refine Gp_lald 2 hmq222421 heq222421 dr_cX17_clear_6 rfl (gB_in bz222426 (by decide) (by decide)) (G_namL fun u222427 hu222427 => ?_)
  have qu222427 : lb_Q u222427 (2000 - 64 * z222426.toInt) := lb_Wld hu222427 x222424 (by omega) (by omega) (lb_Mod0 (by omega) (by omega))
  refine G_lconst 1 dr_cX17_clear_7 rfl ?_
  refine G_iload_n 1 dr_cX17_clear_8 rfl ?_
  refine G_lshl dr_cX17_clear_9 (G_namL fun u222428 hu222428 => ?_)
  have qu222428 : lb_Q u222428 (p222422.toInt % 64 + 1) := lb_Qshl hu222428 (by omega)
  refine G_ldc2 (-1) dr_cX17_clear_10 wr_10_188 ?_
  refine G_lxor dr_cX17_clear_13 (G_namL fun u222429 hu222429 => ?_)
  refine G_land dr_cX17_clear_14 (G_namL fun u222430 hu222430 => ?_)
  have qu222430 : lb_Q u222430 (2000 - 64 * z222426.toInt) := lb_QandL hu222430 qu222427
  refine Gp_last 2 hmq222421 heq222421 dr_cX17_clear_15 rfl (gB_in bz222426 (by decide) (by decide)) (fun F222431 e222432 n222433 => ?_)
  obtain ⟨f222434, hf222434⟩ : ∃ z, z = vp_updL f222423 z222426.toNatClampNeg u222430 := ⟨_, rfl⟩
  rw [← hf222434] at e222432
  have he222435 : F222431 q222421 = .inl (I .long, 32, .inr (.inl f222434)) := e222432
  have hfr222436 : rFr [q222421] P222419 F222420 F222431 := rFr_put (rFr_rf (W := []) (P := P222419) (F := F222420)) n222433
  have wf222434 : lb_W f222434 (32) (32) (2000) := lb_Wst hf222434 x222424 (by omega) (lb_Mod0 (by omega) (by omega)) qu222430
  exact G_vretA dr_cX17_clear_16 rfl (Nat.le_of_ble_eq_true rfl) (Nat.le_of_ble_eq_true rfl) ⟨F222431, f222434, rfl, rfl, hfr222436, he222435, (Nat.le_of_ble_eq_true rfl), (Nat.le_of_ble_eq_true rfl), wf222434, (rbt_clr (by assumption) (by assumption) (by assumption) (by assumption) (by assumption) hf222434 (by omega)), (fun R c1 => c1 z222426 u222427 u222428 u222429 u222430 f222434 ez222426 hu222427 hu222428 hu222429 hu222430 hf222434)⟩
/- tr_RRow_usesA2: result -/
def tr_RRow_usesA2 (a0_op : Int32) (a0_regA : Int32) (o1 : Int32) : Prop := ∀ R : (Int32) → Prop,
  (a0_op.toInt = 20 → R (0 : Int32)) →
  (a0_op.toInt ≠ 20 → a0_op.toInt = 21 → R (0 : Int32)) →
  (a0_op.toInt ≠ 20 → a0_op.toInt ≠ 21 → a0_op.toInt = 30 → R (0 : Int32)) →
  (a0_op.toInt ≠ 20 → a0_op.toInt ≠ 21 → a0_op.toInt ≠ 30 → a0_regA.toInt = 0 → R (0 : Int32)) →
  (a0_op.toInt ≠ 20 → a0_op.toInt ≠ 21 → a0_op.toInt ≠ 30 → a0_regA.toInt ≠ 0 → R (1 : Int32)) →
  R o1
abbrev ky_222450_Row_usesA : gKey := (cX15_usesA, 1, "SpillForgeModel$Row", (some FieldType.boolean), [], "usesA", fun _ _ => True)
def pp_222450_Row_usesA (D : va_G) (I : FieldType → ClassId) (P222440 : List Nat) (F222441 : Nat → va_E) (q222442 : Nat) (p222443 : Int32) (p222444 : Int32) (p222445 : Int32) (p222446 : Int32) (p222447 : Int32) (p222448 : Int32) (p222449 : Int32) : Option Value → va_W → Nat → Nat → Prop := fun r w dc ds => ∃ (o222463 : Int32), r = some (.int o222463) ∧ w = va_pl P222440 F222441 ∧ dc ≤ 0 ∧ ds ≤ 0 ∧ gB o222463 0 1 ∧ ((o222463.toInt = 1 ∧ p222443.toInt ≠ 20 ∧ p222443.toInt ≠ 21 ∧ p222443.toInt ≠ 30 ∧ p222448.toInt = 1) ∨ (o222463.toInt = 0 ∧ (p222443.toInt = 20 ∨ p222443.toInt = 21 ∨ p222443.toInt = 30 ∨ p222448.toInt = 0))) ∧ tr_RRow_usesA2 p222443 p222448 o222463
set_option maxRecDepth 100000 in
set_option maxHeartbeats 4000000 in
theorem cp_222450_Row_usesA (l : Launch) (hl0 : l.stackTraces = false) (D : va_G) (I : FieldType → ClassId) (P222440 : List Nat) (F222441 : Nat → va_E) (q222442 : Nat) (p222443 : Int32) (p222444 : Int32) (p222445 : Int32) (p222446 : Int32) (p222447 : Int32) (p222448 : Int32) (p222449 : Int32) (hmq222442 : q222442 ∈ P222440) (heq222442 : F222441 q222442 = .inr (20, [.int p222443, .int p222444, .int p222445, .int p222446, .int p222447, .int p222448, .int p222449])) (bp222443 : gB p222443 0 32) (bp222444 : gB p222444 0 1999) (bp222447 : gB p222447 0 1999) (bp222448 : gB p222448 0 1) (bp222449 : gB p222449 0 1) : CtA (gV D I) l yX15_usesA cX15_usesA 1 (some FieldType.boolean) 0 0 0 0 [.ref q222442] (va_pl P222440 F222441) (pp_222450_Row_usesA D I P222440 F222441 q222442 p222443 p222444 p222445 p222446 p222447 p222448 p222449) gNA := by
  refine CtA_of hl0 (by decide) (Nat.le_of_ble_eq_true rfl) ?_
  have bp222445 := gB_any p222445
  have bp222446 := gB_any p222446
  refine G_aload_n 0 dr_cX15_usesA_0 rfl ?_
  refine Gp_get 0 hmq222442 heq222442 dr_cX15_usesA_1 (gk_X15 D I) (Nat.le_of_ble_eq_true rfl) wr_9_175 rfl ?_
  refine G_bipush 20 dr_cX15_usesA_4 (by decide +kernel) ?_
  refine G_icmp_eq 38 dr_cX15_usesA_6 (by decide +kernel) (fun hc222451 => ?_) (fun hc222451 => ?_)
  · have r222452 : p222443.toInt = 20 := gj_eq hc222451 (show Int32.toInt 20 = 20 by decide)
    have bp222443' : gB p222443 20 20 := ⟨by omega, by omega⟩
    refine G_iconst 0 dr_cX15_usesA_38 (by decide +kernel) ?_
    exact G_zretA FieldType.boolean dr_cX15_usesA_39 rfl rfl (Nat.le_of_ble_eq_true rfl) (Nat.le_of_ble_eq_true rfl) ⟨0, rfl, rfl, (Nat.le_of_ble_eq_true rfl), (Nat.le_of_ble_eq_true rfl), (gB_w (gBl (show Int32.toInt 0 = 0 by decide)) (by decide) (by decide)), (by have qa0 : Int32.toInt 0 = 0 := (by decide); omega), (fun R c1 c2 c3 c4 c5 => c1 r222452)⟩
  · have r222453 : p222443.toInt ≠ 20 := gj_neq hc222451 (show Int32.toInt 20 = 20 by decide)
    refine G_aload_n 0 dr_cX15_usesA_9 rfl ?_
    refine Gp_get 0 hmq222442 heq222442 dr_cX15_usesA_10 (gk_X15 D I) (Nat.le_of_ble_eq_true rfl) wr_9_175 rfl ?_
    refine G_bipush 21 dr_cX15_usesA_13 (by decide +kernel) ?_
    refine G_icmp_eq 38 dr_cX15_usesA_15 (by decide +kernel) (fun hc222454 => ?_) (fun hc222454 => ?_)
    · have r222455 : p222443.toInt = 21 := gj_eq hc222454 (show Int32.toInt 21 = 21 by decide)
      have bp222443' : gB p222443 21 21 := ⟨by omega, by omega⟩
      refine G_iconst 0 dr_cX15_usesA_38 (by decide +kernel) ?_
      exact G_zretA FieldType.boolean dr_cX15_usesA_39 rfl rfl (Nat.le_of_ble_eq_true rfl) (Nat.le_of_ble_eq_true rfl) ⟨0, rfl, rfl, (Nat.le_of_ble_eq_true rfl), (Nat.le_of_ble_eq_true rfl), (gB_w (gBl (show Int32.toInt 0 = 0 by decide)) (by decide) (by decide)), (by have qa0 : Int32.toInt 0 = 0 := (by decide); omega), (fun R c1 c2 c3 c4 c5 => c2 r222453 r222455)⟩
    · have r222456 : p222443.toInt ≠ 21 := gj_neq hc222454 (show Int32.toInt 21 = 21 by decide)
      refine G_aload_n 0 dr_cX15_usesA_18 rfl ?_
      refine Gp_get 0 hmq222442 heq222442 dr_cX15_usesA_19 (gk_X15 D I) (Nat.le_of_ble_eq_true rfl) wr_9_175 rfl ?_
      refine G_bipush 30 dr_cX15_usesA_22 (by decide +kernel) ?_
      refine G_icmp_eq 38 dr_cX15_usesA_24 (by decide +kernel) (fun hc222457 => ?_) (fun hc222457 => ?_)
      · have r222458 : p222443.toInt = 30 := gj_eq hc222457 (show Int32.toInt 30 = 30 by decide)
        have bp222443' : gB p222443 30 30 := ⟨by omega, by omega⟩
        refine G_iconst 0 dr_cX15_usesA_38 (by decide +kernel) ?_
        exact G_zretA FieldType.boolean dr_cX15_usesA_39 rfl rfl (Nat.le_of_ble_eq_true rfl) (Nat.le_of_ble_eq_true rfl) ⟨0, rfl, rfl, (Nat.le_of_ble_eq_true rfl), (Nat.le_of_ble_eq_true rfl), (gB_w (gBl (show Int32.toInt 0 = 0 by decide)) (by decide) (by decide)), (by have qa0 : Int32.toInt 0 = 0 := (by decide); omega), (fun R c1 c2 c3 c4 c5 => c3 r222453 r222456 r222458)⟩
      · have r222459 : p222443.toInt ≠ 30 := gj_neq hc222457 (show Int32.toInt 30 = 30 by decide)
        refine G_aload_n 0 dr_cX15_usesA_27 rfl ?_
        refine Gp_get 5 hmq222442 heq222442 dr_cX15_usesA_28 (gk_X15 D I) (Nat.le_of_ble_eq_true rfl) wr_9_195 rfl ?_
        refine G_if_eq 38 dr_cX15_usesA_31 (by decide +kernel) (fun hc222460 => ?_) (fun hc222460 => ?_)
        · have r222461 : p222448.toInt = 0 := gj_eq hc222460 (show Int32.toInt 0 = 0 by decide)
          have bp222448' : gB p222448 0 0 := ⟨by omega, by omega⟩
          refine G_iconst 0 dr_cX15_usesA_38 (by decide +kernel) ?_
          exact G_zretA FieldType.boolean dr_cX15_usesA_39 rfl rfl (Nat.le_of_ble_eq_true rfl) (Nat.le_of_ble_eq_true rfl) ⟨0, rfl, rfl, (Nat.le_of_ble_eq_true rfl), (Nat.le_of_ble_eq_true rfl), (gB_w (gBl (show Int32.toInt 0 = 0 by decide)) (by decide) (by decide)), (by have qa0 : Int32.toInt 0 = 0 := (by decide); omega), (fun R c1 c2 c3 c4 c5 => c4 r222453 r222456 r222459 r222461)⟩
        · have r222462 : p222448.toInt ≠ 0 := gj_neq hc222460 (show Int32.toInt 0 = 0 by decide)
          have bp222448' : gB p222448 1 1 := ⟨by omega, by omega⟩
          refine G_iconst 1 dr_cX15_usesA_34 (by decide +kernel) ?_
          refine G_goto 39 dr_cX15_usesA_35 (by decide +kernel) ?_
          exact G_zretA FieldType.boolean dr_cX15_usesA_39 rfl rfl (Nat.le_of_ble_eq_true rfl) (Nat.le_of_ble_eq_true rfl) ⟨1, rfl, rfl, (Nat.le_of_ble_eq_true rfl), (Nat.le_of_ble_eq_true rfl), (gB_w (gBl (show Int32.toInt 1 = 1 by decide)) (by decide) (by decide)), (by have qa0 : Int32.toInt 1 = 1 := (by decide); omega), (fun R c1 c2 c3 c4 c5 => c5 r222453 r222456 r222459 r222462)⟩
/- tr_RRow_usesB2: result -/
def tr_RRow_usesB2 (a0_op : Int32) (a0_regB : Int32) (o1 : Int32) : Prop := ∀ R : (Int32) → Prop,
  (a0_op.toInt ≤ 0 → R (0 : Int32)) →
  (0 < a0_op.toInt → 20 ≤ a0_op.toInt → R (0 : Int32)) →
  (0 < a0_op.toInt → a0_op.toInt < 20 → a0_regB.toInt = 0 → R (0 : Int32)) →
  (0 < a0_op.toInt → a0_op.toInt < 20 → a0_regB.toInt ≠ 0 → R (1 : Int32)) →
  R o1
abbrev ky_222474_Row_usesB : gKey := (cX15_usesB, 1, "SpillForgeModel$Row", (some FieldType.boolean), [], "usesB", fun _ _ => True)
def pp_222474_Row_usesB (D : va_G) (I : FieldType → ClassId) (P222464 : List Nat) (F222465 : Nat → va_E) (q222466 : Nat) (p222467 : Int32) (p222468 : Int32) (p222469 : Int32) (p222470 : Int32) (p222471 : Int32) (p222472 : Int32) (p222473 : Int32) : Option Value → va_W → Nat → Nat → Prop := fun r w dc ds => ∃ (o222484 : Int32), r = some (.int o222484) ∧ w = va_pl P222464 F222465 ∧ dc ≤ 0 ∧ ds ≤ 0 ∧ gB o222484 0 1 ∧ ((o222484.toInt = 1 ∧ 0 < p222467.toInt ∧ p222467.toInt < 20 ∧ p222473.toInt = 1) ∨ (o222484.toInt = 0 ∧ (p222467.toInt ≤ 0 ∨ 20 ≤ p222467.toInt ∨ p222473.toInt = 0))) ∧ tr_RRow_usesB2 p222467 p222473 o222484
set_option maxRecDepth 100000 in
set_option maxHeartbeats 4000000 in
theorem cp_222474_Row_usesB (l : Launch) (hl0 : l.stackTraces = false) (D : va_G) (I : FieldType → ClassId) (P222464 : List Nat) (F222465 : Nat → va_E) (q222466 : Nat) (p222467 : Int32) (p222468 : Int32) (p222469 : Int32) (p222470 : Int32) (p222471 : Int32) (p222472 : Int32) (p222473 : Int32) (hmq222466 : q222466 ∈ P222464) (heq222466 : F222465 q222466 = .inr (20, [.int p222467, .int p222468, .int p222469, .int p222470, .int p222471, .int p222472, .int p222473])) (bp222467 : gB p222467 0 32) (bp222468 : gB p222468 0 1999) (bp222471 : gB p222471 0 1999) (bp222472 : gB p222472 0 1) (bp222473 : gB p222473 0 1) : CtA (gV D I) l yX15_usesB cX15_usesB 1 (some FieldType.boolean) 0 0 0 0 [.ref q222466] (va_pl P222464 F222465) (pp_222474_Row_usesB D I P222464 F222465 q222466 p222467 p222468 p222469 p222470 p222471 p222472 p222473) gNA := by
  refine CtA_of hl0 (by decide) (Nat.le_of_ble_eq_true rfl) ?_
  have bp222469 := gB_any p222469
  have bp222470 := gB_any p222470
  refine G_aload_n 0 dr_cX15_usesB_0 rfl ?_
  refine Gp_get 0 hmq222466 heq222466 dr_cX15_usesB_1 (gk_X15 D I) (Nat.le_of_ble_eq_true rfl) wr_9_175 rfl ?_
  refine G_if_le 27 dr_cX15_usesB_4 (by decide +kernel) (fun hc222475 => ?_) (fun hc222475 => ?_)
  · have r222476 : p222467.toInt ≤ 0 := gj_le hc222475 (show Int32.toInt 0 = 0 by decide)
    have bp222467' : gB p222467 0 0 := ⟨by omega, by omega⟩
    refine G_iconst 0 dr_cX15_usesB_27 (by decide +kernel) ?_
    exact G_zretA FieldType.boolean dr_cX15_usesB_28 rfl rfl (Nat.le_of_ble_eq_true rfl) (Nat.le_of_ble_eq_true rfl) ⟨0, rfl, rfl, (Nat.le_of_ble_eq_true rfl), (Nat.le_of_ble_eq_true rfl), (gB_w (gBl (show Int32.toInt 0 = 0 by decide)) (by decide) (by decide)), (by have qa0 : Int32.toInt 0 = 0 := (by decide); omega), (fun R c1 c2 c3 c4 => c1 r222476)⟩
  · have r222477 : 0 < p222467.toInt := gj_nle hc222475 (show Int32.toInt 0 = 0 by decide)
    have bp222467' : gB p222467 1 32 := ⟨by omega, by omega⟩
    refine G_aload_n 0 dr_cX15_usesB_7 rfl ?_
    refine Gp_get 0 hmq222466 heq222466 dr_cX15_usesB_8 (gk_X15 D I) (Nat.le_of_ble_eq_true rfl) wr_9_175 rfl ?_
    refine G_bipush 20 dr_cX15_usesB_11 (by decide +kernel) ?_
    refine G_icmp_ge 27 dr_cX15_usesB_13 (by decide +kernel) (fun hc222478 => ?_) (fun hc222478 => ?_)
    · have r222479 : 20 ≤ p222467.toInt := gj_leL hc222478 (show Int32.toInt 20 = 20 by decide)
      have bp222467'' : gB p222467 20 32 := ⟨by omega, by omega⟩
      refine G_iconst 0 dr_cX15_usesB_27 (by decide +kernel) ?_
      exact G_zretA FieldType.boolean dr_cX15_usesB_28 rfl rfl (Nat.le_of_ble_eq_true rfl) (Nat.le_of_ble_eq_true rfl) ⟨0, rfl, rfl, (Nat.le_of_ble_eq_true rfl), (Nat.le_of_ble_eq_true rfl), (gB_w (gBl (show Int32.toInt 0 = 0 by decide)) (by decide) (by decide)), (by have qa0 : Int32.toInt 0 = 0 := (by decide); omega), (fun R c1 c2 c3 c4 => c2 r222477 r222479)⟩
    · have r222480 : p222467.toInt < 20 := gj_nleL hc222478 (show Int32.toInt 20 = 20 by decide)
      have bp222467'' : gB p222467 1 19 := ⟨by omega, by omega⟩
      refine G_aload_n 0 dr_cX15_usesB_16 rfl ?_
      refine Gp_get 6 hmq222466 heq222466 dr_cX15_usesB_17 (gk_X15 D I) (Nat.le_of_ble_eq_true rfl) wr_9_199 rfl ?_
      refine G_if_eq 27 dr_cX15_usesB_20 (by decide +kernel) (fun hc222481 => ?_) (fun hc222481 => ?_)
      · have r222482 : p222473.toInt = 0 := gj_eq hc222481 (show Int32.toInt 0 = 0 by decide)
        have bp222473' : gB p222473 0 0 := ⟨by omega, by omega⟩
        refine G_iconst 0 dr_cX15_usesB_27 (by decide +kernel) ?_
        exact G_zretA FieldType.boolean dr_cX15_usesB_28 rfl rfl (Nat.le_of_ble_eq_true rfl) (Nat.le_of_ble_eq_true rfl) ⟨0, rfl, rfl, (Nat.le_of_ble_eq_true rfl), (Nat.le_of_ble_eq_true rfl), (gB_w (gBl (show Int32.toInt 0 = 0 by decide)) (by decide) (by decide)), (by have qa0 : Int32.toInt 0 = 0 := (by decide); omega), (fun R c1 c2 c3 c4 => c3 r222477 r222480 r222482)⟩
      · have r222483 : p222473.toInt ≠ 0 := gj_neq hc222481 (show Int32.toInt 0 = 0 by decide)
        have bp222473' : gB p222473 1 1 := ⟨by omega, by omega⟩
        refine G_iconst 1 dr_cX15_usesB_23 (by decide +kernel) ?_
        refine G_goto 28 dr_cX15_usesB_24 (by decide +kernel) ?_
        exact G_zretA FieldType.boolean dr_cX15_usesB_28 rfl rfl (Nat.le_of_ble_eq_true rfl) (Nat.le_of_ble_eq_true rfl) ⟨1, rfl, rfl, (Nat.le_of_ble_eq_true rfl), (Nat.le_of_ble_eq_true rfl), (gB_w (gBl (show Int32.toInt 1 = 1 by decide)) (by decide) (by decide)), (by have qa0 : Int32.toInt 1 = 1 := (by decide); omega), (fun R c1 c2 c3 c4 => c4 r222477 r222480 r222483)⟩
/- tr_RRow_sets2: result -/
def tr_RRow_sets2 (a0_op : Int32) (o1 : Int32) : Prop := ∀ R : (Int32) → Prop,
  (21 < a0_op.toInt → R (0 : Int32)) →
  (a0_op.toInt ≤ 21 → R (1 : Int32)) →
  R o1
abbrev ky_222495_Row_sets : gKey := (cX15_sets, 1, "SpillForgeModel$Row", (some FieldType.boolean), [], "sets", fun _ _ => True)
def pp_222495_Row_sets (D : va_G) (I : FieldType → ClassId) (P222485 : List Nat) (F222486 : Nat → va_E) (q222487 : Nat) (p222488 : Int32) (p222489 : Int32) (p222490 : Int32) (p222491 : Int32) (p222492 : Int32) (p222493 : Int32) (p222494 : Int32) : Option Value → va_W → Nat → Nat → Prop := fun r w dc ds => ∃ (o222499 : Int32), r = some (.int o222499) ∧ w = va_pl P222485 F222486 ∧ dc ≤ 0 ∧ ds ≤ 0 ∧ gB o222499 0 1 ∧ ((o222499.toInt = 1 ∧ p222488.toInt ≤ 21) ∨ (o222499.toInt = 0 ∧ 21 < p222488.toInt)) ∧ tr_RRow_sets2 p222488 o222499
set_option maxRecDepth 100000 in
set_option maxHeartbeats 4000000 in
theorem cp_222495_Row_sets (l : Launch) (hl0 : l.stackTraces = false) (D : va_G) (I : FieldType → ClassId) (P222485 : List Nat) (F222486 : Nat → va_E) (q222487 : Nat) (p222488 : Int32) (p222489 : Int32) (p222490 : Int32) (p222491 : Int32) (p222492 : Int32) (p222493 : Int32) (p222494 : Int32) (hmq222487 : q222487 ∈ P222485) (heq222487 : F222486 q222487 = .inr (20, [.int p222488, .int p222489, .int p222490, .int p222491, .int p222492, .int p222493, .int p222494])) (bp222488 : gB p222488 0 32) (bp222489 : gB p222489 0 1999) (bp222492 : gB p222492 0 1999) (bp222493 : gB p222493 0 1) (bp222494 : gB p222494 0 1) : CtA (gV D I) l yX15_sets cX15_sets 1 (some FieldType.boolean) 0 0 0 0 [.ref q222487] (va_pl P222485 F222486) (pp_222495_Row_sets D I P222485 F222486 q222487 p222488 p222489 p222490 p222491 p222492 p222493 p222494) gNA := by
  refine CtA_of hl0 (by decide) (Nat.le_of_ble_eq_true rfl) ?_
  have bp222490 := gB_any p222490
  have bp222491 := gB_any p222491
  refine G_aload_n 0 dr_cX15_sets_0 rfl ?_
  refine Gp_get 0 hmq222487 heq222487 dr_cX15_sets_1 (gk_X15 D I) (Nat.le_of_ble_eq_true rfl) wr_9_175 rfl ?_
  refine G_bipush 21 dr_cX15_sets_4 (by decide +kernel) ?_
  refine G_icmp_gt 13 dr_cX15_sets_6 (by decide +kernel) (fun hc222496 => ?_) (fun hc222496 => ?_)
  · have r222497 : 21 < p222488.toInt := gj_ltL hc222496 (show Int32.toInt 21 = 21 by decide)
    have bp222488' : gB p222488 22 32 := ⟨by omega, by omega⟩
    refine G_iconst 0 dr_cX15_sets_13 (by decide +kernel) ?_
    exact G_zretA FieldType.boolean dr_cX15_sets_14 rfl rfl (Nat.le_of_ble_eq_true rfl) (Nat.le_of_ble_eq_true rfl) ⟨0, rfl, rfl, (Nat.le_of_ble_eq_true rfl), (Nat.le_of_ble_eq_true rfl), (gB_w (gBl (show Int32.toInt 0 = 0 by decide)) (by decide) (by decide)), (by have qa0 : Int32.toInt 0 = 0 := (by decide); omega), (fun R c1 c2 => c1 r222497)⟩
  · have r222498 : p222488.toInt ≤ 21 := gj_nltL hc222496 (show Int32.toInt 21 = 21 by decide)
    have bp222488' : gB p222488 0 21 := ⟨by omega, by omega⟩
    refine G_iconst 1 dr_cX15_sets_9 (by decide +kernel) ?_
    refine G_goto 14 dr_cX15_sets_10 (by decide +kernel) ?_
    exact G_zretA FieldType.boolean dr_cX15_sets_14 rfl rfl (Nat.le_of_ble_eq_true rfl) (Nat.le_of_ble_eq_true rfl) ⟨1, rfl, rfl, (Nat.le_of_ble_eq_true rfl), (Nat.le_of_ble_eq_true rfl), (gB_w (gBl (show Int32.toInt 1 = 1 by decide)) (by decide) (by decide)), (by have qa0 : Int32.toInt 1 = 1 := (by decide); omega), (fun R c1 c2 => c2 r222498)⟩
/- tr_RModel_setOf2: result -/
def tr_RModel_setOf2 (a1 : Int32) (a0_op : Int32) (a0_t : Int32) (a0_slot : Int32) (o1 : Int32) : Prop := ∀ R : (Int32) → Prop,
  (∀ (x1 : Int32), a1.toInt = 0 → gB x1 0 1 → tr_RRow_sets2 a0_op x1 → x1.toInt = 0 → R (-1 : Int32)) →
  (∀ (x1 : Int32), a1.toInt = 0 → gB x1 0 1 → tr_RRow_sets2 a0_op x1 → x1.toInt ≠ 0 → R a0_t) →
  (a1.toInt ≠ 0 → a0_op.toInt ≠ 23 → R (-1 : Int32)) →
  (a1.toInt ≠ 0 → a0_op.toInt = 23 → R a0_slot) →
  R o1
abbrev ky_222511_SpillForgeModel_setOf : gKey := (cX17_setOf, 2, "SpillForgeModel", (some FieldType.int), [], "setOf", fun _ _ => True)
def pp_222511_SpillForgeModel_setOf (D : va_G) (I : FieldType → ClassId) (P222500 : List Nat) (F222501 : Nat → va_E) (q222502 : Nat) (p222503 : Int32) (p222504 : Int32) (p222505 : Int32) (p222506 : Int32) (p222507 : Int32) (p222508 : Int32) (p222509 : Int32) (p222510 : Int32) : Option Value → va_W → Nat → Nat → Prop := fun r w dc ds => ∃ (o222529 : Int32), r = some (.int o222529) ∧ w = va_pl P222500 F222501 ∧ dc ≤ 0 ∧ ds ≤ 0 ∧ gB o222529 (-1) 1999 ∧ ((p222503.toInt = 0 ∧ p222504.toInt ≤ 21 ∧ o222529.toInt = p222505.toInt) ∨ (p222503.toInt = 0 ∧ 21 < p222504.toInt ∧ o222529.toInt = -1) ∨ (p222503.toInt = 1 ∧ p222504.toInt = 23 ∧ o222529.toInt = p222508.toInt) ∨ (p222503.toInt = 1 ∧ p222504.toInt ≠ 23 ∧ o222529.toInt = -1)) ∧ tr_RModel_setOf2 p222503 p222504 p222505 p222508 o222529
set_option maxRecDepth 100000 in
set_option maxHeartbeats 4000000 in
theorem cp_222511_SpillForgeModel_setOf (l : Launch) (hl0 : l.stackTraces = false) (D : va_G) (I : FieldType → ClassId) (P222500 : List Nat) (F222501 : Nat → va_E) (q222502 : Nat) (p222503 : Int32) (p222504 : Int32) (p222505 : Int32) (p222506 : Int32) (p222507 : Int32) (p222508 : Int32) (p222509 : Int32) (p222510 : Int32) (hmq222502 : q222502 ∈ P222500) (heq222502 : F222501 q222502 = .inr (20, [.int p222504, .int p222505, .int p222506, .int p222507, .int p222508, .int p222509, .int p222510])) (bp222503 : gB p222503 0 1) (bp222504 : gB p222504 0 32) (bp222505 : gB p222505 0 1999) (bp222508 : gB p222508 0 1999) (bp222509 : gB p222509 0 1) (bp222510 : gB p222510 0 1) : CtA (gV D I) l yX17_setOf cX17_setOf 2 (some FieldType.int) 1 20 0 0 [.ref q222502, .int p222503] (va_pl P222500 F222501) (pp_222511_SpillForgeModel_setOf D I P222500 F222501 q222502 p222503 p222504 p222505 p222506 p222507 p222508 p222509 p222510) gNA := by
  refine CtA_of hl0 (by decide) (Nat.le_of_ble_eq_true rfl) ?_
  have bp222506 := gB_any p222506
  have bp222507 := gB_any p222507
  refine G_iload_n 1 dr_cX17_setOf_0 rfl ?_
  refine G_if_eq 24 dr_cX17_setOf_1 (by decide +kernel) (fun hc222512 => ?_) (fun hc222512 => ?_)
  · have r222513 : p222503.toInt = 0 := gj_eq hc222512 (show Int32.toInt 0 = 0 by decide)
    have bp222503' : gB p222503 0 0 := ⟨by omega, by omega⟩
    refine G_aload_n 0 dr_cX17_setOf_24 rfl ?_
    refine Gw_callV (As := []) (gV_ok D I) (cp_222495_Row_sets l hl0 D I P222500 F222501 q222502 p222504 p222505 p222506 p222507 p222508 p222509 p222510 hmq222502 heq222502 bp222504 bp222505 bp222508 bp222509 bp222510) dr_cX17_setOf_25 ⟨wr_10_181, wr_1_39, wr_10_184, by decide, rfl, (Nat.le_of_ble_eq_true rfl), (Nat.le_of_ble_eq_true rfl)⟩ wr_10_182 wr_10_183 hmq222502 heq222502 rfl (show 0 + 0 ≤ 0 by first | omega | decide) (show 0 + 0 ≤ 0 by first | omega | decide) (Nat.le_of_ble_eq_true rfl) (fun r222517 w222518 dc222514 ds222515 hp222516 => ?_) (fun _ _ _ _ _ z => z.elim)
    obtain ⟨o222519, rfl, rfl, hdc, hds, bo222519, x222520, ht222521⟩ := hp222516
    change G _ _ _ _ _ _ _ (.int o222519 :: _) _ _ _
    refine G_widen (cs' := 0) (sl' := 0) (by omega) (by omega) ?_
    refine G_if_eq 38 dr_cX17_setOf_28 (by decide +kernel) (fun hc222522 => ?_) (fun hc222522 => ?_)
    · have r222523 : o222519.toInt = 0 := gj_eq hc222522 (show Int32.toInt 0 = 0 by decide)
      have bo222519' : gB o222519 0 0 := ⟨by omega, by omega⟩
      refine G_iconst (-1) dr_cX17_setOf_38 (by decide +kernel) ?_
      exact G_iretA dr_cX17_setOf_39 rfl (Nat.le_of_ble_eq_true rfl) (Nat.le_of_ble_eq_true rfl) ⟨(-1), rfl, rfl, (Nat.le_of_ble_eq_true rfl), (Nat.le_of_ble_eq_true rfl), (gB_w (gBl (show Int32.toInt (-1) = (-1) by decide)) (by decide) (by decide)), (by have qa0 : Int32.toInt (-1) = (-1) := (by decide); omega), (fun R c1 c2 c3 c4 => c1 o222519 r222513 bo222519 ht222521 r222523)⟩
    · have r222524 : o222519.toInt ≠ 0 := gj_neq hc222522 (show Int32.toInt 0 = 0 by decide)
      have bo222519' : gB o222519 1 1 := ⟨by omega, by omega⟩
      refine G_aload_n 0 dr_cX17_setOf_31 rfl ?_
      refine Gp_get 1 hmq222502 heq222502 dr_cX17_setOf_32 (gk_X15 D I) (Nat.le_of_ble_eq_true rfl) wr_9_182 rfl ?_
      refine G_goto 39 dr_cX17_setOf_35 (by decide +kernel) ?_
      exact G_iretA dr_cX17_setOf_39 rfl (Nat.le_of_ble_eq_true rfl) (Nat.le_of_ble_eq_true rfl) ⟨p222505, rfl, rfl, (Nat.le_of_ble_eq_true rfl), (Nat.le_of_ble_eq_true rfl), (gB_w bp222505 (by decide) (by decide)), (by omega), (fun R c1 c2 c3 c4 => c2 o222519 r222513 bo222519 ht222521 r222524)⟩
  · have r222525 : p222503.toInt ≠ 0 := gj_neq hc222512 (show Int32.toInt 0 = 0 by decide)
    have bp222503' : gB p222503 1 1 := ⟨by omega, by omega⟩
    refine G_aload_n 0 dr_cX17_setOf_4 rfl ?_
    refine Gp_get 0 hmq222502 heq222502 dr_cX17_setOf_5 (gk_X15 D I) (Nat.le_of_ble_eq_true rfl) wr_9_177 rfl ?_
    refine G_bipush 23 dr_cX17_setOf_8 (by decide +kernel) ?_
    refine G_icmp_ne 20 dr_cX17_setOf_10 (by decide +kernel) (fun hc222526 => ?_) (fun hc222526 => ?_)
    · have r222527 : p222504.toInt ≠ 23 := gj_neq hc222526 (show Int32.toInt 23 = 23 by decide)
      refine G_iconst (-1) dr_cX17_setOf_20 (by decide +kernel) ?_
      refine G_goto 39 dr_cX17_setOf_21 (by decide +kernel) ?_
      exact G_iretA dr_cX17_setOf_39 rfl (Nat.le_of_ble_eq_true rfl) (Nat.le_of_ble_eq_true rfl) ⟨(-1), rfl, rfl, (Nat.le_of_ble_eq_true rfl), (Nat.le_of_ble_eq_true rfl), (gB_w (gBl (show Int32.toInt (-1) = (-1) by decide)) (by decide) (by decide)), (by have qa0 : Int32.toInt (-1) = (-1) := (by decide); omega), (fun R c1 c2 c3 c4 => c3 r222525 r222527)⟩
    · have r222528 : p222504.toInt = 23 := gj_eq hc222526 (show Int32.toInt 23 = 23 by decide)
      have bp222504' : gB p222504 23 23 := ⟨by omega, by omega⟩
      refine G_aload_n 0 dr_cX17_setOf_13 rfl ?_
      refine Gp_get 4 hmq222502 heq222502 dr_cX17_setOf_14 (gk_X15 D I) (Nat.le_of_ble_eq_true rfl) wr_9_193 rfl ?_
      refine G_goto 39 dr_cX17_setOf_17 (by decide +kernel) ?_
      exact G_iretA dr_cX17_setOf_39 rfl (Nat.le_of_ble_eq_true rfl) (Nat.le_of_ble_eq_true rfl) ⟨p222508, rfl, rfl, (Nat.le_of_ble_eq_true rfl), (Nat.le_of_ble_eq_true rfl), (gB_w bp222508 (by decide) (by decide)), (by omega), (fun R c1 c2 c3 c4 => c4 r222525 r222528)⟩
/- tr_RModel_back2: F -/
def tr_RModel_back2 (D : va_G) (I : FieldType → ClassId) (γ el : Nat → Nat → Nat) (P : List Nat) (F : Nat → va_E) (q0 : Nat) (q1 : Nat) (a2 : Int32) (o1 : Nat → va_E) : Prop := ∀ R : (Nat → va_E) → Prop,
  (∀ (x1 : Int32) (x2 : Int32) (x3 : Int32) (x4 : Int32) (x5 : Int32) (x6 : Int32) (x7 : Int32) (x8 : Int32), fI (F q1) 0 = x1 → fI (F q1) 1 = x2 → fI (F q1) 4 = x3 → gB x4 (-1) 1999 → tr_RModel_setOf2 a2 x1 x2 x3 x4 → x4.toInt < 0 → a2.toInt = 0 → fI (F q1) 5 = x5 → gB x6 0 1 → tr_RRow_usesA2 x1 x5 x6 → x6.toInt = 0 → fI (F q1) 6 = x7 → gB x8 0 1 → tr_RRow_usesB2 x1 x7 x8 → x8.toInt = 0 → R F) →
  (∀ (x1 : Int32) (x2 : Int32) (x3 : Int32) (x4 : Int32) (x5 : Int32) (x6 : Int32) (x7 : Int32) (x8 : Int32) (x9 : Int32) (x10 : Nat → Int64) (x11 : Nat → Int64) (x12 : Nat → va_E), fI (F q1) 0 = x1 → fI (F q1) 1 = x2 → fI (F q1) 4 = x3 → gB x4 (-1) 1999 → tr_RModel_setOf2 a2 x1 x2 x3 x4 → x4.toInt < 0 → a2.toInt = 0 → fI (F q1) 5 = x5 → gB x6 0 1 → tr_RRow_usesA2 x1 x5 x6 → x6.toInt = 0 → fI (F q1) 6 = x7 → gB x8 0 1 → tr_RRow_usesB2 x1 x7 x8 → x8.toInt ≠ 0 → fR (F q0) 2 = (γ 9 2) → fI (F q1) 3 = x9 → F (γ 9 2) = .inl (I .long, 32, .inr (.inl x10)) → tr_RModel_set2 x9 x10 x11 → rFr [(γ 9 2)] P F x12 → x12 (γ 9 2) = .inl (I .long, 32, .inr (.inl x11)) → RS D I P x12 γ el → R x12) →
  (∀ (x1 : Int32) (x2 : Int32) (x3 : Int32) (x4 : Int32) (x5 : Int32) (x6 : Int32) (x7 : Int32) (x8 : Nat → Int64) (x9 : Nat → Int64) (x10 : Nat → va_E) (x11 : Int32) (x12 : Int32), fI (F q1) 0 = x1 → fI (F q1) 1 = x2 → fI (F q1) 4 = x3 → gB x4 (-1) 1999 → tr_RModel_setOf2 a2 x1 x2 x3 x4 → x4.toInt < 0 → a2.toInt = 0 → fI (F q1) 5 = x5 → gB x6 0 1 → tr_RRow_usesA2 x1 x5 x6 → x6.toInt ≠ 0 → fR (F q0) 2 = (γ 9 2) → fI (F q1) 2 = x7 → F (γ 9 2) = .inl (I .long, 32, .inr (.inl x8)) → tr_RModel_set2 x7 x8 x9 → rFr [(γ 9 2)] P F x10 → x10 (γ 9 2) = .inl (I .long, 32, .inr (.inl x9)) → RS D I P x10 γ el → fI (x10 q1) 0 = x1 → fI (x10 q1) 6 = x11 → gB x12 0 1 → tr_RRow_usesB2 x1 x11 x12 → x12.toInt = 0 → R x10) →
  (∀ (x1 : Int32) (x2 : Int32) (x3 : Int32) (x4 : Int32) (x5 : Int32) (x6 : Int32) (x7 : Int32) (x8 : Nat → Int64) (x9 : Nat → Int64) (x10 : Nat → va_E) (x11 : Int32) (x12 : Int32) (x13 : Int32) (x14 : Nat → Int64) (x15 : Nat → va_E), fI (F q1) 0 = x1 → fI (F q1) 1 = x2 → fI (F q1) 4 = x3 → gB x4 (-1) 1999 → tr_RModel_setOf2 a2 x1 x2 x3 x4 → x4.toInt < 0 → a2.toInt = 0 → fI (F q1) 5 = x5 → gB x6 0 1 → tr_RRow_usesA2 x1 x5 x6 → x6.toInt ≠ 0 → fR (F q0) 2 = (γ 9 2) → fI (F q1) 2 = x7 → F (γ 9 2) = .inl (I .long, 32, .inr (.inl x8)) → tr_RModel_set2 x7 x8 x9 → rFr [(γ 9 2)] P F x10 → x10 (γ 9 2) = .inl (I .long, 32, .inr (.inl x9)) → RS D I P x10 γ el → fI (x10 q1) 0 = x1 → fI (x10 q1) 6 = x11 → gB x12 0 1 → tr_RRow_usesB2 x1 x11 x12 → x12.toInt ≠ 0 → fR (x10 q0) 2 = (γ 9 2) → fI (x10 q1) 3 = x13 → x10 (γ 9 2) = .inl (I .long, 32, .inr (.inl x9)) → tr_RModel_set2 x13 x9 x14 → rFr [(γ 9 2)] P x10 x15 → x15 (γ 9 2) = .inl (I .long, 32, .inr (.inl x14)) → RS D I P x15 γ el → R x15) →
  (∀ (x1 : Int32) (x2 : Int32) (x3 : Int32) (x4 : Int32), fI (F q1) 0 = x1 → fI (F q1) 1 = x2 → fI (F q1) 4 = x3 → gB x4 (-1) 1999 → tr_RModel_setOf2 a2 x1 x2 x3 x4 → x4.toInt < 0 → a2.toInt ≠ 0 → x1.toInt ≠ 21 → R F) →
  (∀ (x1 : Int32) (x2 : Int32) (x3 : Int32) (x4 : Int32) (x5 : Nat → Int64) (x6 : Nat → Int64) (x7 : Nat → va_E), fI (F q1) 0 = x1 → fI (F q1) 1 = x2 → fI (F q1) 4 = x3 → gB x4 (-1) 1999 → tr_RModel_setOf2 a2 x1 x2 x3 x4 → x4.toInt < 0 → a2.toInt ≠ 0 → x1.toInt = 21 → fR (F q0) 2 = (γ 9 2) → F (γ 9 2) = .inl (I .long, 32, .inr (.inl x5)) → tr_RModel_set2 x3 x5 x6 → rFr [(γ 9 2)] P F x7 → x7 (γ 9 2) = .inl (I .long, 32, .inr (.inl x6)) → RS D I P x7 γ el → R x7) →
  (∀ (x1 : Int32) (x2 : Int32) (x3 : Int32) (x4 : Int32) (x5 : Nat → Int64) (x6 : Nat → Int64) (x7 : Nat → va_E) (x8 : Int32) (x9 : Int32) (x10 : Int32) (x11 : Int32), fI (F q1) 0 = x1 → fI (F q1) 1 = x2 → fI (F q1) 4 = x3 → gB x4 (-1) 1999 → tr_RModel_setOf2 a2 x1 x2 x3 x4 → 0 ≤ x4.toInt → fR (F q0) 2 = (γ 9 2) → F (γ 9 2) = .inl (I .long, 32, .inr (.inl x5)) → tr_RModel_clear2 x4 x5 x6 → rFr [(γ 9 2)] P F x7 → x7 (γ 9 2) = .inl (I .long, 32, .inr (.inl x6)) → RS D I P x7 γ el → a2.toInt = 0 → fI (x7 q1) 0 = x1 → fI (x7 q1) 5 = x8 → gB x9 0 1 → tr_RRow_usesA2 x1 x8 x9 → x9.toInt = 0 → fI (x7 q1) 6 = x10 → gB x11 0 1 → tr_RRow_usesB2 x1 x10 x11 → x11.toInt = 0 → R x7) →
  (∀ (x1 : Int32) (x2 : Int32) (x3 : Int32) (x4 : Int32) (x5 : Nat → Int64) (x6 : Nat → Int64) (x7 : Nat → va_E) (x8 : Int32) (x9 : Int32) (x10 : Int32) (x11 : Int32) (x12 : Int32) (x13 : Nat → Int64) (x14 : Nat → va_E), fI (F q1) 0 = x1 → fI (F q1) 1 = x2 → fI (F q1) 4 = x3 → gB x4 (-1) 1999 → tr_RModel_setOf2 a2 x1 x2 x3 x4 → 0 ≤ x4.toInt → fR (F q0) 2 = (γ 9 2) → F (γ 9 2) = .inl (I .long, 32, .inr (.inl x5)) → tr_RModel_clear2 x4 x5 x6 → rFr [(γ 9 2)] P F x7 → x7 (γ 9 2) = .inl (I .long, 32, .inr (.inl x6)) → RS D I P x7 γ el → a2.toInt = 0 → fI (x7 q1) 0 = x1 → fI (x7 q1) 5 = x8 → gB x9 0 1 → tr_RRow_usesA2 x1 x8 x9 → x9.toInt = 0 → fI (x7 q1) 6 = x10 → gB x11 0 1 → tr_RRow_usesB2 x1 x10 x11 → x11.toInt ≠ 0 → fR (x7 q0) 2 = (γ 9 2) → fI (x7 q1) 3 = x12 → x7 (γ 9 2) = .inl (I .long, 32, .inr (.inl x6)) → tr_RModel_set2 x12 x6 x13 → rFr [(γ 9 2)] P x7 x14 → x14 (γ 9 2) = .inl (I .long, 32, .inr (.inl x13)) → RS D I P x14 γ el → R x14) →
  (∀ (x1 : Int32) (x2 : Int32) (x3 : Int32) (x4 : Int32) (x5 : Nat → Int64) (x6 : Nat → Int64) (x7 : Nat → va_E) (x8 : Int32) (x9 : Int32) (x10 : Int32) (x11 : Nat → Int64) (x12 : Nat → va_E) (x13 : Int32) (x14 : Int32), fI (F q1) 0 = x1 → fI (F q1) 1 = x2 → fI (F q1) 4 = x3 → gB x4 (-1) 1999 → tr_RModel_setOf2 a2 x1 x2 x3 x4 → 0 ≤ x4.toInt → fR (F q0) 2 = (γ 9 2) → F (γ 9 2) = .inl (I .long, 32, .inr (.inl x5)) → tr_RModel_clear2 x4 x5 x6 → rFr [(γ 9 2)] P F x7 → x7 (γ 9 2) = .inl (I .long, 32, .inr (.inl x6)) → RS D I P x7 γ el → a2.toInt = 0 → fI (x7 q1) 0 = x1 → fI (x7 q1) 5 = x8 → gB x9 0 1 → tr_RRow_usesA2 x1 x8 x9 → x9.toInt ≠ 0 → fR (x7 q0) 2 = (γ 9 2) → fI (x7 q1) 2 = x10 → x7 (γ 9 2) = .inl (I .long, 32, .inr (.inl x6)) → tr_RModel_set2 x10 x6 x11 → rFr [(γ 9 2)] P x7 x12 → x12 (γ 9 2) = .inl (I .long, 32, .inr (.inl x11)) → RS D I P x12 γ el → fI (x12 q1) 0 = x1 → fI (x12 q1) 6 = x13 → gB x14 0 1 → tr_RRow_usesB2 x1 x13 x14 → x14.toInt = 0 → R x12) →
  (∀ (x1 : Int32) (x2 : Int32) (x3 : Int32) (x4 : Int32) (x5 : Nat → Int64) (x6 : Nat → Int64) (x7 : Nat → va_E) (x8 : Int32) (x9 : Int32) (x10 : Int32) (x11 : Nat → Int64) (x12 : Nat → va_E) (x13 : Int32) (x14 : Int32) (x15 : Int32) (x16 : Nat → Int64) (x17 : Nat → va_E), fI (F q1) 0 = x1 → fI (F q1) 1 = x2 → fI (F q1) 4 = x3 → gB x4 (-1) 1999 → tr_RModel_setOf2 a2 x1 x2 x3 x4 → 0 ≤ x4.toInt → fR (F q0) 2 = (γ 9 2) → F (γ 9 2) = .inl (I .long, 32, .inr (.inl x5)) → tr_RModel_clear2 x4 x5 x6 → rFr [(γ 9 2)] P F x7 → x7 (γ 9 2) = .inl (I .long, 32, .inr (.inl x6)) → RS D I P x7 γ el → a2.toInt = 0 → fI (x7 q1) 0 = x1 → fI (x7 q1) 5 = x8 → gB x9 0 1 → tr_RRow_usesA2 x1 x8 x9 → x9.toInt ≠ 0 → fR (x7 q0) 2 = (γ 9 2) → fI (x7 q1) 2 = x10 → x7 (γ 9 2) = .inl (I .long, 32, .inr (.inl x6)) → tr_RModel_set2 x10 x6 x11 → rFr [(γ 9 2)] P x7 x12 → x12 (γ 9 2) = .inl (I .long, 32, .inr (.inl x11)) → RS D I P x12 γ el → fI (x12 q1) 0 = x1 → fI (x12 q1) 6 = x13 → gB x14 0 1 → tr_RRow_usesB2 x1 x13 x14 → x14.toInt ≠ 0 → fR (x12 q0) 2 = (γ 9 2) → fI (x12 q1) 3 = x15 → x12 (γ 9 2) = .inl (I .long, 32, .inr (.inl x11)) → tr_RModel_set2 x15 x11 x16 → rFr [(γ 9 2)] P x12 x17 → x17 (γ 9 2) = .inl (I .long, 32, .inr (.inl x16)) → RS D I P x17 γ el → R x17) →
  (∀ (x1 : Int32) (x2 : Int32) (x3 : Int32) (x4 : Int32) (x5 : Nat → Int64) (x6 : Nat → Int64) (x7 : Nat → va_E), fI (F q1) 0 = x1 → fI (F q1) 1 = x2 → fI (F q1) 4 = x3 → gB x4 (-1) 1999 → tr_RModel_setOf2 a2 x1 x2 x3 x4 → 0 ≤ x4.toInt → fR (F q0) 2 = (γ 9 2) → F (γ 9 2) = .inl (I .long, 32, .inr (.inl x5)) → tr_RModel_clear2 x4 x5 x6 → rFr [(γ 9 2)] P F x7 → x7 (γ 9 2) = .inl (I .long, 32, .inr (.inl x6)) → RS D I P x7 γ el → a2.toInt ≠ 0 → fI (x7 q1) 0 = x1 → x1.toInt ≠ 21 → R x7) →
  (∀ (x1 : Int32) (x2 : Int32) (x3 : Int32) (x4 : Int32) (x5 : Nat → Int64) (x6 : Nat → Int64) (x7 : Nat → va_E) (x8 : Nat → Int64) (x9 : Nat → va_E), fI (F q1) 0 = x1 → fI (F q1) 1 = x2 → fI (F q1) 4 = x3 → gB x4 (-1) 1999 → tr_RModel_setOf2 a2 x1 x2 x3 x4 → 0 ≤ x4.toInt → fR (F q0) 2 = (γ 9 2) → F (γ 9 2) = .inl (I .long, 32, .inr (.inl x5)) → tr_RModel_clear2 x4 x5 x6 → rFr [(γ 9 2)] P F x7 → x7 (γ 9 2) = .inl (I .long, 32, .inr (.inl x6)) → RS D I P x7 γ el → a2.toInt ≠ 0 → fI (x7 q1) 0 = x1 → x1.toInt = 21 → fR (x7 q0) 2 = (γ 9 2) → fI (x7 q1) 4 = x3 → x7 (γ 9 2) = .inl (I .long, 32, .inr (.inl x6)) → tr_RModel_set2 x3 x6 x8 → rFr [(γ 9 2)] P x7 x9 → x9 (γ 9 2) = .inl (I .long, 32, .inr (.inl x8)) → RS D I P x9 γ el → R x9) →
  R o1
abbrev ky_222535_SpillForgeModel_back : gKey := (cX17_back, 4, "SpillForgeModel", none, [], "back", fun _ _ => True)
def pt_222535_SpillForgeModel_back (D : va_G) (I : FieldType → ClassId) (γ el : Nat → Nat → Nat) (P222530 : List Nat) (F222531 : Nat → va_E) (q222532 : Nat) (q222533 : Nat) (p222534 : Int32) : Option Value → va_W → Nat → Nat → Prop := fun r w dc ds => ∃ (F222898 : Nat → va_E), r = none ∧ w = va_pl P222530 F222898 ∧ RS D I P222530 F222898 γ el ∧ rStr γ [] F222531 F222898 ∧ dc ≤ 0 ∧ ds ≤ 0 ∧ (∀ k : Nat, rbt (cL (F222898 (γ 9 2))) k = bkS (F222531 q222533) (decide (p222534.toInt = 1)) (rbt (cL (F222531 (γ 9 2)))) k) ∧ rLv γ F222531 F222898 ∧ (F222898 q222532 = F222531 q222532) ∧ tr_RModel_back2 D I γ el P222530 F222531 q222532 q222533 p222534 F222898
set_option maxRecDepth 100000 in
set_option maxHeartbeats 4000000 in
theorem ct_222535_SpillForgeModel_back (l : Launch) (hl0 : l.stackTraces = false) (D : va_G) (I : FieldType → ClassId) (γ el : Nat → Nat → Nat) (P222530 : List Nat) (F222531 : Nat → va_E) (q222532 : Nat) (q222533 : Nat) (p222534 : Int32) (hT : RS D I P222530 F222531 γ el) (htq222532 : rKd γ q222532 10) (htq222533 : rKd γ q222533 1) (bp222534 : gB p222534 0 1) : CtA (gV D I) l yX17_back cX17_back 4 none 2 41 0 0 [.ref q222532, .ref q222533, .int p222534] (va_pl P222530 F222531) (pt_222535_SpillForgeModel_back D I γ el P222530 F222531 q222532 q222533 p222534) gNA := by
  refine CtA_of hl0 (by decide) (Nat.le_of_ble_eq_true rfl) ?_
  have hm222536 : q222532 ∈ P222530 := RS_m hT htq222532 (by decide)
  obtain ⟨q222538, q222539, p222540, p222541, p222542, p222543, p222544, p222545, p222546, p222547, p222548, p222549, p222550, p222551, p222552, p222553, p222554, he222537, hB222581, ht222555, ht222556, ht222557, ht222558, ht222559, ht222560, ht222561, ht222562, ht222563, ht222564, ht222565, ht222566, ht222567, ht222568, ht222569, ht222570, ht222571, ht222572, ht222573, ht222574, ht222575, ht222576, ht222577, ht222578, hB222582⟩ := show rk_10 γ (F222531 q222532) from RS_o hT htq222532
  have hm222583 : (γ 9 2) ∈ P222530 := RS_m hT ht222559 (by decide)
  obtain ⟨f222585, he222584, wf222585⟩ := show rk_35 I (F222531 (γ 9 2)) from RS_o hT ht222559
  have hm222586 : q222533 ∈ P222530 := RS_m hT htq222533 (by decide)
  obtain ⟨p222588, p222589, p222590, p222591, p222592, p222593, p222594, he222587, bp222588, bp222589, bp222592, bp222593, bp222594, r222595, r222596, r222597, r222598, r222599⟩ := show rk_1 γ q222533 (F222531 q222533) from RS_o hT htq222533
  have bp222590 := gB_any p222590
  have bp222591 := gB_any p222591
  refine G_aload_n 1 dr_cX17_back_0 rfl ?_
  refine G_iload_n 2 dr_cX17_back_1 rfl ?_
  have fq222600 : fI (F222531 q222533) 0 = p222588 := by rw [he222587]; rfl
  have fq222601 : fI (F222531 q222533) 1 = p222589 := by rw [he222587]; rfl
  have fq222602 : fI (F222531 q222533) 4 = p222592 := by rw [he222587]; rfl
  refine Gw_callS (As := [.ref q222533, .int p222534]) (gV_ok D I) (cp_222511_SpillForgeModel_setOf l hl0 D I P222530 F222531 q222533 p222534 p222588 p222589 p222590 p222591 p222592 p222593 p222594 hm222586 he222587 bp222534 bp222588 bp222589 bp222592 bp222593 bp222594) dr_cX17_back_2 ⟨wr_10_178, wr_1_14, wr_10_180, by decide, rfl, (Nat.le_of_ble_eq_true rfl), (Nat.le_of_ble_eq_true rfl)⟩ wr_10_179 (show 0 + 0 ≤ 0 by first | omega | decide) (show 0 + 0 ≤ 0 by first | omega | decide) (Nat.le_of_ble_eq_true rfl) (fun r222606 w222607 dc222603 ds222604 hp222605 => ?_) (fun _ _ _ _ _ z => z.elim)
  obtain ⟨o222608, rfl, rfl, hdc, hds, bo222608, x222609, ht222610⟩ := hp222605
  change G _ _ _ _ _ _ _ (.int o222608 :: _) _ _ _
  refine G_widen (cs' := 0) (sl' := 0) (by omega) (by omega) ?_
  refine G_istore_n (L' := [(3, .int o222608), (0, .ref q222532), (1, .ref q222533), (2, .int p222534)]) dr_cX17_back_5 (Nat.le_of_ble_eq_true rfl) rfl ?_
  refine G_iload_n 0 dr_cX17_back_6 rfl ?_
  refine G_if_lt 18 dr_cX17_back_7 (by decide +kernel) (fun hc222611 => ?_) (fun hc222611 => ?_)
  · have r222612 : o222608.toInt < 0 := gj_lt hc222611 (show Int32.toInt 0 = 0 by decide)
    have bo222608' : gB o222608 (-1) (-1) := ⟨by omega, by omega⟩
    refine G_iload_n 3 dr_cX17_back_18 rfl ?_
    refine G_if_eq 43 dr_cX17_back_19 (by decide +kernel) (fun hc222613 => ?_) (fun hc222613 => ?_)
    · have r222614 : p222534.toInt = 0 := gj_eq hc222613 (show Int32.toInt 0 = 0 by decide)
      have bp222534' : gB p222534 0 0 := ⟨by omega, by omega⟩
      refine G_aload_n 2 dr_cX17_back_43 rfl ?_
      have fq222615 : fI (F222531 q222533) 5 = p222593 := by rw [he222587]; rfl
      refine Gw_callV (As := []) (gV_ok D I) (cp_222450_Row_usesA l hl0 D I P222530 F222531 q222533 p222588 p222589 p222590 p222591 p222592 p222593 p222594 hm222586 he222587 bp222588 bp222589 bp222592 bp222593 bp222594) dr_cX17_back_44 ⟨wr_10_192, wr_1_39, wr_10_195, by decide, rfl, (Nat.le_of_ble_eq_true rfl), (Nat.le_of_ble_eq_true rfl)⟩ wr_10_193 wr_10_194 hm222586 he222587 rfl (show 0 + 0 ≤ 0 by first | omega | decide) (show 0 + 0 ≤ 0 by first | omega | decide) (Nat.le_of_ble_eq_true rfl) (fun r222619 w222620 dc222616 ds222617 hp222618 => ?_) (fun _ _ _ _ _ z => z.elim)
      obtain ⟨o222621, rfl, rfl, hdc, hds, bo222621, x222622, ht222623⟩ := hp222618
      change G _ _ _ _ _ _ _ (.int o222621 :: _) _ _ _
      refine G_widen (cs' := 0) (sl' := 0) (by omega) (by omega) ?_
      refine G_if_eq 61 dr_cX17_back_47 (by decide +kernel) (fun hc222624 => ?_) (fun hc222624 => ?_)
      · have r222625 : o222621.toInt = 0 := gj_eq hc222624 (show Int32.toInt 0 = 0 by decide)
        have bo222621' : gB o222621 0 0 := ⟨by omega, by omega⟩
        refine G_aload_n 2 dr_cX17_back_61 rfl ?_
        have fq222626 : fI (F222531 q222533) 6 = p222594 := by rw [he222587]; rfl
        refine Gw_callV (As := []) (gV_ok D I) (cp_222474_Row_usesB l hl0 D I P222530 F222531 q222533 p222588 p222589 p222590 p222591 p222592 p222593 p222594 hm222586 he222587 bp222588 bp222589 bp222592 bp222593 bp222594) dr_cX17_back_62 ⟨wr_10_196, wr_1_39, wr_10_199, by decide, rfl, (Nat.le_of_ble_eq_true rfl), (Nat.le_of_ble_eq_true rfl)⟩ wr_10_197 wr_10_198 hm222586 he222587 rfl (show 0 + 0 ≤ 0 by first | omega | decide) (show 0 + 0 ≤ 0 by first | omega | decide) (Nat.le_of_ble_eq_true rfl) (fun r222630 w222631 dc222627 ds222628 hp222629 => ?_) (fun _ _ _ _ _ z => z.elim)
        obtain ⟨o222632, rfl, rfl, hdc, hds, bo222632, x222633, ht222634⟩ := hp222629
        change G _ _ _ _ _ _ _ (.int o222632 :: _) _ _ _
        refine G_widen (cs' := 0) (sl' := 0) (by omega) (by omega) ?_
        refine G_if_eq 79 dr_cX17_back_65 (by decide +kernel) (fun hc222635 => ?_) (fun hc222635 => ?_)
        · have r222636 : o222632.toInt = 0 := gj_eq hc222635 (show Int32.toInt 0 = 0 by decide)
          have bo222632' : gB o222632 0 0 := ⟨by omega, by omega⟩
          exact G_vretA dr_cX17_back_79 rfl (Nat.le_of_ble_eq_true rfl) (Nat.le_of_ble_eq_true rfl) ⟨F222531, rfl, rfl, hT, (rStr_rf (γ := γ) (W := []) (F := F222531)), (Nat.le_of_ble_eq_true rfl), (Nat.le_of_ble_eq_true rfl), (fun k => by rw [cL_of he222584, bkS_of he222587, (decide_eq_false (show ¬ (p222534.toInt = 1) by omega))]; exact bk_n false false false (decide_eq_false (show ¬ (p222588.toInt ≤ 21) by omega)) (decide_eq_false (show ¬ (p222588.toInt ≠ 20 ∧ p222588.toInt ≠ 21 ∧ p222588.toInt ≠ 30 ∧ p222593.toInt = 1) by omega)) (decide_eq_false (show ¬ (0 < p222588.toInt ∧ p222588.toInt < 20 ∧ p222594.toInt = 1) by omega)) (by simp)), (rLv_rf (γ := γ) (F := F222531)), rfl, (fun R c1 c2 c3 c4 c5 c6 c7 c8 c9 c10 c11 c12 => c1 p222588 p222589 p222592 o222608 p222593 o222621 p222594 o222632 fq222600 fq222601 fq222602 bo222608 ht222610 r222612 r222614 fq222615 bo222621 ht222623 r222625 fq222626 bo222632 ht222634 r222636)⟩
        · have r222637 : o222632.toInt ≠ 0 := gj_neq hc222635 (show Int32.toInt 0 = 0 by decide)
          have bo222632' : gB o222632 1 1 := ⟨by omega, by omega⟩
          refine G_aload_n 1 dr_cX17_back_68 rfl ?_
          have fq222638 : fR (F222531 q222532) 2 = (γ 9 2) := by rw [he222537]; rfl
          refine Gp_get 2 hm222536 he222537 dr_cX17_back_69 (gk_X17 D I) (Nat.le_of_ble_eq_true rfl) wr_7_76 rfl ?_
          refine G_aload_n 2 dr_cX17_back_72 rfl ?_
          have fq222639 : fI (F222531 q222533) 3 = p222591 := by rw [he222587]; rfl
          refine Gp_get 3 hm222586 he222587 dr_cX17_back_73 (gk_X15 D I) (Nat.le_of_ble_eq_true rfl) wr_9_190 rfl ?_
          refine Gw_callS (As := [.ref (γ 9 2), .int p222591]) (gV_ok D I) (cp_222405_SpillForgeModel_set l hl0 D I P222530 F222531 (γ 9 2) p222591 f222585 hm222583 he222584 ⟨by omega, by omega⟩ wf222585) dr_cX17_back_76 ⟨wr_10_189, wr_1_14, wr_10_191, by decide, rfl, (Nat.le_of_ble_eq_true rfl), (Nat.le_of_ble_eq_true rfl)⟩ wr_10_190 (show 0 + 0 ≤ 0 by first | omega | decide) (show 0 + 0 ≤ 0 by first | omega | decide) (Nat.le_of_ble_eq_true rfl) (fun r222643 w222644 dc222640 ds222641 hp222642 => ?_) (fun _ _ _ _ _ z => z.elim)
          obtain ⟨F222649, f222645, rfl, rfl, hfr222651, he222652, hdc, hds, x222646, x222647, ht222648⟩ := hp222642
          have he222653 : F222649 q222532 = .inr (22, [.ref (γ 9 0), .ref (γ 9 1), .ref (γ 9 2), .ref (γ 9 3), .ref (γ 9 4), .ref (γ 9 5), .ref (γ 9 6), .ref (γ 9 7), .ref (γ 9 8), .int p222540, .int p222541, .int p222542, .int p222543, .int p222544, .int p222545, .ref (γ 9 15), .ref (γ 9 16), .ref (γ 9 17), .ref (γ 9 18), .ref (γ 9 19), .ref (γ 9 20), .ref (γ 9 21), .ref (γ 9 22), .int p222546, .int p222547, .int p222548, .int p222549, .int p222550, .ref q222538, .ref (γ 9 29), .int p222551, .ref (γ 9 31), .int p222552, .int p222553, .int p222554, .ref q222539]) := (hfr222651 q222532 hm222536 (nm_c (rn_oa he222537 he222584) nm_n)).trans he222537
          have he222654 : F222649 q222533 = .inr (20, [.int p222588, .int p222589, .int p222590, .int p222591, .int p222592, .int p222593, .int p222594]) := (hfr222651 q222533 hm222586 (nm_c (rn_oa he222587 he222584) nm_n)).trans he222587
          have hfr222655 : rFr [(γ 9 2)] P222530 F222531 F222649 := rFr_call (rSub_rf (P := P222530)) (rFr_rf (W := []) (P := P222530) (F := F222531)) hfr222651 (fun b hb hn => ⟨nm_n, (nm_c (fun e => hn (e ▸ List.mem_cons_self)) nm_n)⟩)
          change G _ _ _ _ _ _ _ _ _ _ _
          refine G_widen (cs' := 0) (sl' := 0) (by omega) (by omega) ?_
          have hT222656 : RS D I P222530 F222649 γ el := RS_fr hT hfr222655 ht222559 (by decide) ⟨f222645, he222652, x222646⟩
          have hs222657 : rStr γ [] F222531 F222649 := rStr_fr hT (rStr_rf (γ := γ) (W := []) (F := F222531)) hfr222655 ht222559 (by decide)
          have lv222658 : rLv γ F222531 F222649 := rLv_fr hT ht222557 (rLv_rf (γ := γ) (F := F222531)) hfr222655 ht222559 (by decide)
          have kp222659 : F222649 q222532 = F222531 q222532 := hfr222655 q222532 (RS_m hT htq222532 (by decide)) (nm_c (rn_ty htq222532 ht222559 (by decide)) nm_n)
          exact G_vretA dr_cX17_back_79 rfl (Nat.le_of_ble_eq_true rfl) (Nat.le_of_ble_eq_true rfl) ⟨F222649, rfl, rfl, hT222656, hs222657, (Nat.le_of_ble_eq_true rfl), (Nat.le_of_ble_eq_true rfl), (fun k => by rw [cL_of he222652, cL_of he222584, bkS_of he222587, (decide_eq_false (show ¬ (p222534.toInt = 1) by omega))]; exact bk_n false false true (decide_eq_false (show ¬ (p222588.toInt ≤ 21) by omega)) (decide_eq_false (show ¬ (p222588.toInt ≠ 20 ∧ p222588.toInt ≠ 21 ∧ p222588.toInt ≠ 30 ∧ p222593.toInt = 1) by omega)) (decide_eq_true (show (0 < p222588.toInt ∧ p222588.toInt < 20 ∧ p222594.toInt = 1) by omega)) (by rw [x222647 k]; simp)), lv222658, kp222659, (fun R c1 c2 c3 c4 c5 c6 c7 c8 c9 c10 c11 c12 => c2 p222588 p222589 p222592 o222608 p222593 o222621 p222594 o222632 p222591 f222585 f222645 F222649 fq222600 fq222601 fq222602 bo222608 ht222610 r222612 r222614 fq222615 bo222621 ht222623 r222625 fq222626 bo222632 ht222634 r222637 fq222638 fq222639 he222584 ht222648 hfr222655 he222652 hT222656)⟩
      · have r222660 : o222621.toInt ≠ 0 := gj_neq hc222624 (show Int32.toInt 0 = 0 by decide)
        have bo222621' : gB o222621 1 1 := ⟨by omega, by omega⟩
        refine G_aload_n 1 dr_cX17_back_50 rfl ?_
        have fq222661 : fR (F222531 q222532) 2 = (γ 9 2) := by rw [he222537]; rfl
        refine Gp_get 2 hm222536 he222537 dr_cX17_back_51 (gk_X17 D I) (Nat.le_of_ble_eq_true rfl) wr_7_76 rfl ?_
        refine G_aload_n 2 dr_cX17_back_54 rfl ?_
        have fq222662 : fI (F222531 q222533) 2 = p222590 := by rw [he222587]; rfl
        refine Gp_get 2 hm222586 he222587 dr_cX17_back_55 (gk_X15 D I) (Nat.le_of_ble_eq_true rfl) wr_9_186 rfl ?_
        refine Gw_callS (As := [.ref (γ 9 2), .int p222590]) (gV_ok D I) (cp_222405_SpillForgeModel_set l hl0 D I P222530 F222531 (γ 9 2) p222590 f222585 hm222583 he222584 ⟨by omega, by omega⟩ wf222585) dr_cX17_back_58 ⟨wr_10_189, wr_1_14, wr_10_191, by decide, rfl, (Nat.le_of_ble_eq_true rfl), (Nat.le_of_ble_eq_true rfl)⟩ wr_10_190 (show 0 + 0 ≤ 0 by first | omega | decide) (show 0 + 0 ≤ 0 by first | omega | decide) (Nat.le_of_ble_eq_true rfl) (fun r222666 w222667 dc222663 ds222664 hp222665 => ?_) (fun _ _ _ _ _ z => z.elim)
        obtain ⟨F222672, f222668, rfl, rfl, hfr222674, he222675, hdc, hds, x222669, x222670, ht222671⟩ := hp222665
        have he222676 : F222672 q222532 = .inr (22, [.ref (γ 9 0), .ref (γ 9 1), .ref (γ 9 2), .ref (γ 9 3), .ref (γ 9 4), .ref (γ 9 5), .ref (γ 9 6), .ref (γ 9 7), .ref (γ 9 8), .int p222540, .int p222541, .int p222542, .int p222543, .int p222544, .int p222545, .ref (γ 9 15), .ref (γ 9 16), .ref (γ 9 17), .ref (γ 9 18), .ref (γ 9 19), .ref (γ 9 20), .ref (γ 9 21), .ref (γ 9 22), .int p222546, .int p222547, .int p222548, .int p222549, .int p222550, .ref q222538, .ref (γ 9 29), .int p222551, .ref (γ 9 31), .int p222552, .int p222553, .int p222554, .ref q222539]) := (hfr222674 q222532 hm222536 (nm_c (rn_oa he222537 he222584) nm_n)).trans he222537
        have he222677 : F222672 q222533 = .inr (20, [.int p222588, .int p222589, .int p222590, .int p222591, .int p222592, .int p222593, .int p222594]) := (hfr222674 q222533 hm222586 (nm_c (rn_oa he222587 he222584) nm_n)).trans he222587
        have hfr222678 : rFr [(γ 9 2)] P222530 F222531 F222672 := rFr_call (rSub_rf (P := P222530)) (rFr_rf (W := []) (P := P222530) (F := F222531)) hfr222674 (fun b hb hn => ⟨nm_n, (nm_c (fun e => hn (e ▸ List.mem_cons_self)) nm_n)⟩)
        change G _ _ _ _ _ _ _ _ _ _ _
        refine G_widen (cs' := 0) (sl' := 0) (by omega) (by omega) ?_
        have hT222679 : RS D I P222530 F222672 γ el := RS_fr hT hfr222678 ht222559 (by decide) ⟨f222668, he222675, x222669⟩
        have hs222680 : rStr γ [] F222531 F222672 := rStr_fr hT (rStr_rf (γ := γ) (W := []) (F := F222531)) hfr222678 ht222559 (by decide)
        have lv222681 : rLv γ F222531 F222672 := rLv_fr hT ht222557 (rLv_rf (γ := γ) (F := F222531)) hfr222678 ht222559 (by decide)
        have kp222682 : F222672 q222532 = F222531 q222532 := hfr222678 q222532 (RS_m hT htq222532 (by decide)) (nm_c (rn_ty htq222532 ht222559 (by decide)) nm_n)
        refine G_aload_n 2 dr_cX17_back_61 rfl ?_
        have fq222683 : fI (F222672 q222533) 0 = p222588 := by rw [he222677]; rfl
        have fq222684 : fI (F222672 q222533) 6 = p222594 := by rw [he222677]; rfl
        refine Gw_callV (As := []) (gV_ok D I) (cp_222474_Row_usesB l hl0 D I P222530 F222672 q222533 p222588 p222589 p222590 p222591 p222592 p222593 p222594 hm222586 he222677 bp222588 bp222589 bp222592 bp222593 bp222594) dr_cX17_back_62 ⟨wr_10_196, wr_1_39, wr_10_199, by decide, rfl, (Nat.le_of_ble_eq_true rfl), (Nat.le_of_ble_eq_true rfl)⟩ wr_10_197 wr_10_198 hm222586 he222677 rfl (show 0 + 0 ≤ 0 by first | omega | decide) (show 0 + 0 ≤ 0 by first | omega | decide) (Nat.le_of_ble_eq_true rfl) (fun r222688 w222689 dc222685 ds222686 hp222687 => ?_) (fun _ _ _ _ _ z => z.elim)
        obtain ⟨o222690, rfl, rfl, hdc, hds, bo222690, x222691, ht222692⟩ := hp222687
        change G _ _ _ _ _ _ _ (.int o222690 :: _) _ _ _
        refine G_widen (cs' := 0) (sl' := 0) (by omega) (by omega) ?_
        refine G_if_eq 79 dr_cX17_back_65 (by decide +kernel) (fun hc222693 => ?_) (fun hc222693 => ?_)
        · have r222694 : o222690.toInt = 0 := gj_eq hc222693 (show Int32.toInt 0 = 0 by decide)
          have bo222690' : gB o222690 0 0 := ⟨by omega, by omega⟩
          exact G_vretA dr_cX17_back_79 rfl (Nat.le_of_ble_eq_true rfl) (Nat.le_of_ble_eq_true rfl) ⟨F222672, rfl, rfl, hT222679, hs222680, (Nat.le_of_ble_eq_true rfl), (Nat.le_of_ble_eq_true rfl), (fun k => by rw [cL_of he222675, cL_of he222584, bkS_of he222587, (decide_eq_false (show ¬ (p222534.toInt = 1) by omega))]; exact bk_n false true false (decide_eq_false (show ¬ (p222588.toInt ≤ 21) by omega)) (decide_eq_true (show (p222588.toInt ≠ 20 ∧ p222588.toInt ≠ 21 ∧ p222588.toInt ≠ 30 ∧ p222593.toInt = 1) by omega)) (decide_eq_false (show ¬ (0 < p222588.toInt ∧ p222588.toInt < 20 ∧ p222594.toInt = 1) by omega)) (by rw [x222670 k]; simp)), lv222681, kp222682, (fun R c1 c2 c3 c4 c5 c6 c7 c8 c9 c10 c11 c12 => c3 p222588 p222589 p222592 o222608 p222593 o222621 p222590 f222585 f222668 F222672 p222594 o222690 fq222600 fq222601 fq222602 bo222608 ht222610 r222612 r222614 fq222615 bo222621 ht222623 r222660 fq222661 fq222662 he222584 ht222671 hfr222678 he222675 hT222679 fq222683 fq222684 bo222690 ht222692 r222694)⟩
        · have r222695 : o222690.toInt ≠ 0 := gj_neq hc222693 (show Int32.toInt 0 = 0 by decide)
          have bo222690' : gB o222690 1 1 := ⟨by omega, by omega⟩
          refine G_aload_n 1 dr_cX17_back_68 rfl ?_
          have fq222696 : fR (F222672 q222532) 2 = (γ 9 2) := by rw [he222676]; rfl
          refine Gp_get 2 hm222536 he222676 dr_cX17_back_69 (gk_X17 D I) (Nat.le_of_ble_eq_true rfl) wr_7_76 rfl ?_
          refine G_aload_n 2 dr_cX17_back_72 rfl ?_
          have fq222697 : fI (F222672 q222533) 3 = p222591 := by rw [he222677]; rfl
          refine Gp_get 3 hm222586 he222677 dr_cX17_back_73 (gk_X15 D I) (Nat.le_of_ble_eq_true rfl) wr_9_190 rfl ?_
          refine Gw_callS (As := [.ref (γ 9 2), .int p222591]) (gV_ok D I) (cp_222405_SpillForgeModel_set l hl0 D I P222530 F222672 (γ 9 2) p222591 f222668 hm222583 he222675 ⟨by omega, by omega⟩ x222669) dr_cX17_back_76 ⟨wr_10_189, wr_1_14, wr_10_191, by decide, rfl, (Nat.le_of_ble_eq_true rfl), (Nat.le_of_ble_eq_true rfl)⟩ wr_10_190 (show 0 + 0 ≤ 0 by first | omega | decide) (show 0 + 0 ≤ 0 by first | omega | decide) (Nat.le_of_ble_eq_true rfl) (fun r222701 w222702 dc222698 ds222699 hp222700 => ?_) (fun _ _ _ _ _ z => z.elim)
          obtain ⟨F222707, f222703, rfl, rfl, hfr222709, he222710, hdc, hds, x222704, x222705, ht222706⟩ := hp222700
          have he222711 : F222707 q222532 = .inr (22, [.ref (γ 9 0), .ref (γ 9 1), .ref (γ 9 2), .ref (γ 9 3), .ref (γ 9 4), .ref (γ 9 5), .ref (γ 9 6), .ref (γ 9 7), .ref (γ 9 8), .int p222540, .int p222541, .int p222542, .int p222543, .int p222544, .int p222545, .ref (γ 9 15), .ref (γ 9 16), .ref (γ 9 17), .ref (γ 9 18), .ref (γ 9 19), .ref (γ 9 20), .ref (γ 9 21), .ref (γ 9 22), .int p222546, .int p222547, .int p222548, .int p222549, .int p222550, .ref q222538, .ref (γ 9 29), .int p222551, .ref (γ 9 31), .int p222552, .int p222553, .int p222554, .ref q222539]) := (hfr222709 q222532 hm222536 (nm_c (rn_oa he222676 he222675) nm_n)).trans he222676
          have he222712 : F222707 q222533 = .inr (20, [.int p222588, .int p222589, .int p222590, .int p222591, .int p222592, .int p222593, .int p222594]) := (hfr222709 q222533 hm222586 (nm_c (rn_oa he222677 he222675) nm_n)).trans he222677
          have hfr222713 : rFr [(γ 9 2)] P222530 F222672 F222707 := rFr_call (rSub_rf (P := P222530)) (rFr_rf (W := []) (P := P222530) (F := F222672)) hfr222709 (fun b hb hn => ⟨nm_n, (nm_c (fun e => hn (e ▸ List.mem_cons_self)) nm_n)⟩)
          change G _ _ _ _ _ _ _ _ _ _ _
          refine G_widen (cs' := 0) (sl' := 0) (by omega) (by omega) ?_
          have hT222714 : RS D I P222530 F222707 γ el := RS_fr hT222679 hfr222713 ht222559 (by decide) ⟨f222703, he222710, x222704⟩
          have hs222715 : rStr γ [] F222531 F222707 := rStr_fr hT222679 hs222680 hfr222713 ht222559 (by decide)
          have lv222716 : rLv γ F222531 F222707 := rLv_fr hT222679 ht222557 lv222681 hfr222713 ht222559 (by decide)
          have kp222717 : F222707 q222532 = F222531 q222532 := (hfr222713 q222532 (RS_m hT222679 htq222532 (by decide)) (nm_c (rn_ty htq222532 ht222559 (by decide)) nm_n)).trans kp222682
          exact G_vretA dr_cX17_back_79 rfl (Nat.le_of_ble_eq_true rfl) (Nat.le_of_ble_eq_true rfl) ⟨F222707, rfl, rfl, hT222714, hs222715, (Nat.le_of_ble_eq_true rfl), (Nat.le_of_ble_eq_true rfl), (fun k => by rw [cL_of he222710, cL_of he222584, bkS_of he222587, (decide_eq_false (show ¬ (p222534.toInt = 1) by omega))]; exact bk_n false true true (decide_eq_false (show ¬ (p222588.toInt ≤ 21) by omega)) (decide_eq_true (show (p222588.toInt ≠ 20 ∧ p222588.toInt ≠ 21 ∧ p222588.toInt ≠ 30 ∧ p222593.toInt = 1) by omega)) (decide_eq_true (show (0 < p222588.toInt ∧ p222588.toInt < 20 ∧ p222594.toInt = 1) by omega)) (by rw [x222705 k, x222670 k]; simp)), lv222716, kp222717, (fun R c1 c2 c3 c4 c5 c6 c7 c8 c9 c10 c11 c12 => c4 p222588 p222589 p222592 o222608 p222593 o222621 p222590 f222585 f222668 F222672 p222594 o222690 p222591 f222703 F222707 fq222600 fq222601 fq222602 bo222608 ht222610 r222612 r222614 fq222615 bo222621 ht222623 r222660 fq222661 fq222662 he222584 ht222671 hfr222678 he222675 hT222679 fq222683 fq222684 bo222690 ht222692 r222695 fq222696 fq222697 he222675 ht222706 hfr222713 he222710 hT222714)⟩
    · have r222718 : p222534.toInt ≠ 0 := gj_neq hc222613 (show Int32.toInt 0 = 0 by decide)
      have bp222534' : gB p222534 1 1 := ⟨by omega, by omega⟩
      refine G_aload_n 2 dr_cX17_back_22 rfl ?_
      refine Gp_get 0 hm222586 he222587 dr_cX17_back_23 (gk_X15 D I) (Nat.le_of_ble_eq_true rfl) wr_9_177 rfl ?_
      refine G_bipush 21 dr_cX17_back_26 (by decide +kernel) ?_
      refine G_icmp_ne 42 dr_cX17_back_28 (by decide +kernel) (fun hc222719 => ?_) (fun hc222719 => ?_)
      · have r222720 : p222588.toInt ≠ 21 := gj_neq hc222719 (show Int32.toInt 21 = 21 by decide)
        exact G_vretA dr_cX17_back_42 rfl (Nat.le_of_ble_eq_true rfl) (Nat.le_of_ble_eq_true rfl) ⟨F222531, rfl, rfl, hT, (rStr_rf (γ := γ) (W := []) (F := F222531)), (Nat.le_of_ble_eq_true rfl), (Nat.le_of_ble_eq_true rfl), (fun k => by rw [cL_of he222584, bkS_of he222587, (decide_eq_true (show (p222534.toInt = 1) by omega))]; exact bk_s false false (decide_eq_false (show ¬ (p222588.toInt = 23) by omega)) (decide_eq_false (show ¬ (p222588.toInt = 21) by omega)) (by simp)), (rLv_rf (γ := γ) (F := F222531)), rfl, (fun R c1 c2 c3 c4 c5 c6 c7 c8 c9 c10 c11 c12 => c5 p222588 p222589 p222592 o222608 fq222600 fq222601 fq222602 bo222608 ht222610 r222612 r222718 r222720)⟩
      · have r222721 : p222588.toInt = 21 := gj_eq hc222719 (show Int32.toInt 21 = 21 by decide)
        have bp222588' : gB p222588 21 21 := ⟨by omega, by omega⟩
        refine G_aload_n 1 dr_cX17_back_31 rfl ?_
        have fq222722 : fR (F222531 q222532) 2 = (γ 9 2) := by rw [he222537]; rfl
        refine Gp_get 2 hm222536 he222537 dr_cX17_back_32 (gk_X17 D I) (Nat.le_of_ble_eq_true rfl) wr_7_76 rfl ?_
        refine G_aload_n 2 dr_cX17_back_35 rfl ?_
        refine Gp_get 4 hm222586 he222587 dr_cX17_back_36 (gk_X15 D I) (Nat.le_of_ble_eq_true rfl) wr_9_193 rfl ?_
        refine Gw_callS (As := [.ref (γ 9 2), .int p222592]) (gV_ok D I) (cp_222405_SpillForgeModel_set l hl0 D I P222530 F222531 (γ 9 2) p222592 f222585 hm222583 he222584 bp222592 wf222585) dr_cX17_back_39 ⟨wr_10_189, wr_1_14, wr_10_191, by decide, rfl, (Nat.le_of_ble_eq_true rfl), (Nat.le_of_ble_eq_true rfl)⟩ wr_10_190 (show 0 + 0 ≤ 0 by first | omega | decide) (show 0 + 0 ≤ 0 by first | omega | decide) (Nat.le_of_ble_eq_true rfl) (fun r222726 w222727 dc222723 ds222724 hp222725 => ?_) (fun _ _ _ _ _ z => z.elim)
        obtain ⟨F222732, f222728, rfl, rfl, hfr222734, he222735, hdc, hds, x222729, x222730, ht222731⟩ := hp222725
        have he222736 : F222732 q222532 = .inr (22, [.ref (γ 9 0), .ref (γ 9 1), .ref (γ 9 2), .ref (γ 9 3), .ref (γ 9 4), .ref (γ 9 5), .ref (γ 9 6), .ref (γ 9 7), .ref (γ 9 8), .int p222540, .int p222541, .int p222542, .int p222543, .int p222544, .int p222545, .ref (γ 9 15), .ref (γ 9 16), .ref (γ 9 17), .ref (γ 9 18), .ref (γ 9 19), .ref (γ 9 20), .ref (γ 9 21), .ref (γ 9 22), .int p222546, .int p222547, .int p222548, .int p222549, .int p222550, .ref q222538, .ref (γ 9 29), .int p222551, .ref (γ 9 31), .int p222552, .int p222553, .int p222554, .ref q222539]) := (hfr222734 q222532 hm222536 (nm_c (rn_oa he222537 he222584) nm_n)).trans he222537
        have he222737 : F222732 q222533 = .inr (20, [.int p222588, .int p222589, .int p222590, .int p222591, .int p222592, .int p222593, .int p222594]) := (hfr222734 q222533 hm222586 (nm_c (rn_oa he222587 he222584) nm_n)).trans he222587
        have hfr222738 : rFr [(γ 9 2)] P222530 F222531 F222732 := rFr_call (rSub_rf (P := P222530)) (rFr_rf (W := []) (P := P222530) (F := F222531)) hfr222734 (fun b hb hn => ⟨nm_n, (nm_c (fun e => hn (e ▸ List.mem_cons_self)) nm_n)⟩)
        change G _ _ _ _ _ _ _ _ _ _ _
        refine G_widen (cs' := 0) (sl' := 0) (by omega) (by omega) ?_
        have hT222739 : RS D I P222530 F222732 γ el := RS_fr hT hfr222738 ht222559 (by decide) ⟨f222728, he222735, x222729⟩
        have hs222740 : rStr γ [] F222531 F222732 := rStr_fr hT (rStr_rf (γ := γ) (W := []) (F := F222531)) hfr222738 ht222559 (by decide)
        have lv222741 : rLv γ F222531 F222732 := rLv_fr hT ht222557 (rLv_rf (γ := γ) (F := F222531)) hfr222738 ht222559 (by decide)
        have kp222742 : F222732 q222532 = F222531 q222532 := hfr222738 q222532 (RS_m hT htq222532 (by decide)) (nm_c (rn_ty htq222532 ht222559 (by decide)) nm_n)
        exact G_vretA dr_cX17_back_42 rfl (Nat.le_of_ble_eq_true rfl) (Nat.le_of_ble_eq_true rfl) ⟨F222732, rfl, rfl, hT222739, hs222740, (Nat.le_of_ble_eq_true rfl), (Nat.le_of_ble_eq_true rfl), (fun k => by rw [cL_of he222735, cL_of he222584, bkS_of he222587, (decide_eq_true (show (p222534.toInt = 1) by omega))]; exact bk_s false true (decide_eq_false (show ¬ (p222588.toInt = 23) by omega)) (decide_eq_true (show (p222588.toInt = 21) by omega)) (by rw [x222730 k]; simp)), lv222741, kp222742, (fun R c1 c2 c3 c4 c5 c6 c7 c8 c9 c10 c11 c12 => c6 p222588 p222589 p222592 o222608 f222585 f222728 F222732 fq222600 fq222601 fq222602 bo222608 ht222610 r222612 r222718 r222721 fq222722 he222584 ht222731 hfr222738 he222735 hT222739)⟩
  · have r222743 : 0 ≤ o222608.toInt := gj_nlt hc222611 (show Int32.toInt 0 = 0 by decide)
    have bo222608' : gB o222608 0 1999 := ⟨by omega, by omega⟩
    refine G_aload_n 1 dr_cX17_back_10 rfl ?_
    have fq222744 : fR (F222531 q222532) 2 = (γ 9 2) := by rw [he222537]; rfl
    refine Gp_get 2 hm222536 he222537 dr_cX17_back_11 (gk_X17 D I) (Nat.le_of_ble_eq_true rfl) wr_7_76 rfl ?_
    refine G_iload_n 0 dr_cX17_back_14 rfl ?_
    refine Gw_callS (As := [.ref (γ 9 2), .int o222608]) (gV_ok D I) (cp_222425_SpillForgeModel_clear l hl0 D I P222530 F222531 (γ 9 2) o222608 f222585 hm222583 he222584 bo222608' wf222585) dr_cX17_back_15 ⟨wr_10_185, wr_1_14, wr_10_187, by decide, rfl, (Nat.le_of_ble_eq_true rfl), (Nat.le_of_ble_eq_true rfl)⟩ wr_10_186 (show 0 + 0 ≤ 0 by first | omega | decide) (show 0 + 0 ≤ 0 by first | omega | decide) (Nat.le_of_ble_eq_true rfl) (fun r222748 w222749 dc222745 ds222746 hp222747 => ?_) (fun _ _ _ _ _ z => z.elim)
    obtain ⟨F222754, f222750, rfl, rfl, hfr222756, he222757, hdc, hds, x222751, x222752, ht222753⟩ := hp222747
    have he222758 : F222754 q222532 = .inr (22, [.ref (γ 9 0), .ref (γ 9 1), .ref (γ 9 2), .ref (γ 9 3), .ref (γ 9 4), .ref (γ 9 5), .ref (γ 9 6), .ref (γ 9 7), .ref (γ 9 8), .int p222540, .int p222541, .int p222542, .int p222543, .int p222544, .int p222545, .ref (γ 9 15), .ref (γ 9 16), .ref (γ 9 17), .ref (γ 9 18), .ref (γ 9 19), .ref (γ 9 20), .ref (γ 9 21), .ref (γ 9 22), .int p222546, .int p222547, .int p222548, .int p222549, .int p222550, .ref q222538, .ref (γ 9 29), .int p222551, .ref (γ 9 31), .int p222552, .int p222553, .int p222554, .ref q222539]) := (hfr222756 q222532 hm222536 (nm_c (rn_oa he222537 he222584) nm_n)).trans he222537
    have he222759 : F222754 q222533 = .inr (20, [.int p222588, .int p222589, .int p222590, .int p222591, .int p222592, .int p222593, .int p222594]) := (hfr222756 q222533 hm222586 (nm_c (rn_oa he222587 he222584) nm_n)).trans he222587
    have hfr222760 : rFr [(γ 9 2)] P222530 F222531 F222754 := rFr_call (rSub_rf (P := P222530)) (rFr_rf (W := []) (P := P222530) (F := F222531)) hfr222756 (fun b hb hn => ⟨nm_n, (nm_c (fun e => hn (e ▸ List.mem_cons_self)) nm_n)⟩)
    change G _ _ _ _ _ _ _ _ _ _ _
    refine G_widen (cs' := 0) (sl' := 0) (by omega) (by omega) ?_
    have hT222761 : RS D I P222530 F222754 γ el := RS_fr hT hfr222760 ht222559 (by decide) ⟨f222750, he222757, x222751⟩
    have hs222762 : rStr γ [] F222531 F222754 := rStr_fr hT (rStr_rf (γ := γ) (W := []) (F := F222531)) hfr222760 ht222559 (by decide)
    have lv222763 : rLv γ F222531 F222754 := rLv_fr hT ht222557 (rLv_rf (γ := γ) (F := F222531)) hfr222760 ht222559 (by decide)
    have kp222764 : F222754 q222532 = F222531 q222532 := hfr222760 q222532 (RS_m hT htq222532 (by decide)) (nm_c (rn_ty htq222532 ht222559 (by decide)) nm_n)
    refine G_iload_n 3 dr_cX17_back_18 rfl ?_
    refine G_if_eq 43 dr_cX17_back_19 (by decide +kernel) (fun hc222765 => ?_) (fun hc222765 => ?_)
    · have r222766 : p222534.toInt = 0 := gj_eq hc222765 (show Int32.toInt 0 = 0 by decide)
      have bp222534' : gB p222534 0 0 := ⟨by omega, by omega⟩
      refine G_aload_n 2 dr_cX17_back_43 rfl ?_
      have fq222767 : fI (F222754 q222533) 0 = p222588 := by rw [he222759]; rfl
      have fq222768 : fI (F222754 q222533) 5 = p222593 := by rw [he222759]; rfl
      refine Gw_callV (As := []) (gV_ok D I) (cp_222450_Row_usesA l hl0 D I P222530 F222754 q222533 p222588 p222589 p222590 p222591 p222592 p222593 p222594 hm222586 he222759 bp222588 bp222589 bp222592 bp222593 bp222594) dr_cX17_back_44 ⟨wr_10_192, wr_1_39, wr_10_195, by decide, rfl, (Nat.le_of_ble_eq_true rfl), (Nat.le_of_ble_eq_true rfl)⟩ wr_10_193 wr_10_194 hm222586 he222759 rfl (show 0 + 0 ≤ 0 by first | omega | decide) (show 0 + 0 ≤ 0 by first | omega | decide) (Nat.le_of_ble_eq_true rfl) (fun r222772 w222773 dc222769 ds222770 hp222771 => ?_) (fun _ _ _ _ _ z => z.elim)
      obtain ⟨o222774, rfl, rfl, hdc, hds, bo222774, x222775, ht222776⟩ := hp222771
      change G _ _ _ _ _ _ _ (.int o222774 :: _) _ _ _
      refine G_widen (cs' := 0) (sl' := 0) (by omega) (by omega) ?_
      refine G_if_eq 61 dr_cX17_back_47 (by decide +kernel) (fun hc222777 => ?_) (fun hc222777 => ?_)
      · have r222778 : o222774.toInt = 0 := gj_eq hc222777 (show Int32.toInt 0 = 0 by decide)
        have bo222774' : gB o222774 0 0 := ⟨by omega, by omega⟩
        refine G_aload_n 2 dr_cX17_back_61 rfl ?_
        have fq222779 : fI (F222754 q222533) 6 = p222594 := by rw [he222759]; rfl
        refine Gw_callV (As := []) (gV_ok D I) (cp_222474_Row_usesB l hl0 D I P222530 F222754 q222533 p222588 p222589 p222590 p222591 p222592 p222593 p222594 hm222586 he222759 bp222588 bp222589 bp222592 bp222593 bp222594) dr_cX17_back_62 ⟨wr_10_196, wr_1_39, wr_10_199, by decide, rfl, (Nat.le_of_ble_eq_true rfl), (Nat.le_of_ble_eq_true rfl)⟩ wr_10_197 wr_10_198 hm222586 he222759 rfl (show 0 + 0 ≤ 0 by first | omega | decide) (show 0 + 0 ≤ 0 by first | omega | decide) (Nat.le_of_ble_eq_true rfl) (fun r222783 w222784 dc222780 ds222781 hp222782 => ?_) (fun _ _ _ _ _ z => z.elim)
        obtain ⟨o222785, rfl, rfl, hdc, hds, bo222785, x222786, ht222787⟩ := hp222782
        change G _ _ _ _ _ _ _ (.int o222785 :: _) _ _ _
        refine G_widen (cs' := 0) (sl' := 0) (by omega) (by omega) ?_
        refine G_if_eq 79 dr_cX17_back_65 (by decide +kernel) (fun hc222788 => ?_) (fun hc222788 => ?_)
        · have r222789 : o222785.toInt = 0 := gj_eq hc222788 (show Int32.toInt 0 = 0 by decide)
          have bo222785' : gB o222785 0 0 := ⟨by omega, by omega⟩
          exact G_vretA dr_cX17_back_79 rfl (Nat.le_of_ble_eq_true rfl) (Nat.le_of_ble_eq_true rfl) ⟨F222754, rfl, rfl, hT222761, hs222762, (Nat.le_of_ble_eq_true rfl), (Nat.le_of_ble_eq_true rfl), (fun k => by rw [cL_of he222757, cL_of he222584, bkS_of he222587, (decide_eq_false (show ¬ (p222534.toInt = 1) by omega))]; exact bk_n true false false (decide_eq_true (show (p222588.toInt ≤ 21) by omega)) (decide_eq_false (show ¬ (p222588.toInt ≠ 20 ∧ p222588.toInt ≠ 21 ∧ p222588.toInt ≠ 30 ∧ p222593.toInt = 1) by omega)) (decide_eq_false (show ¬ (0 < p222588.toInt ∧ p222588.toInt < 20 ∧ p222594.toInt = 1) by omega)) (by rw [x222752 k, show o222608.toInt = p222589.toInt by omega]; simp)), lv222763, kp222764, (fun R c1 c2 c3 c4 c5 c6 c7 c8 c9 c10 c11 c12 => c7 p222588 p222589 p222592 o222608 f222585 f222750 F222754 p222593 o222774 p222594 o222785 fq222600 fq222601 fq222602 bo222608 ht222610 r222743 fq222744 he222584 ht222753 hfr222760 he222757 hT222761 r222766 fq222767 fq222768 bo222774 ht222776 r222778 fq222779 bo222785 ht222787 r222789)⟩
        · have r222790 : o222785.toInt ≠ 0 := gj_neq hc222788 (show Int32.toInt 0 = 0 by decide)
          have bo222785' : gB o222785 1 1 := ⟨by omega, by omega⟩
          refine G_aload_n 1 dr_cX17_back_68 rfl ?_
          have fq222791 : fR (F222754 q222532) 2 = (γ 9 2) := by rw [he222758]; rfl
          refine Gp_get 2 hm222536 he222758 dr_cX17_back_69 (gk_X17 D I) (Nat.le_of_ble_eq_true rfl) wr_7_76 rfl ?_
          refine G_aload_n 2 dr_cX17_back_72 rfl ?_
          have fq222792 : fI (F222754 q222533) 3 = p222591 := by rw [he222759]; rfl
          refine Gp_get 3 hm222586 he222759 dr_cX17_back_73 (gk_X15 D I) (Nat.le_of_ble_eq_true rfl) wr_9_190 rfl ?_
          refine Gw_callS (As := [.ref (γ 9 2), .int p222591]) (gV_ok D I) (cp_222405_SpillForgeModel_set l hl0 D I P222530 F222754 (γ 9 2) p222591 f222750 hm222583 he222757 ⟨by omega, by omega⟩ x222751) dr_cX17_back_76 ⟨wr_10_189, wr_1_14, wr_10_191, by decide, rfl, (Nat.le_of_ble_eq_true rfl), (Nat.le_of_ble_eq_true rfl)⟩ wr_10_190 (show 0 + 0 ≤ 0 by first | omega | decide) (show 0 + 0 ≤ 0 by first | omega | decide) (Nat.le_of_ble_eq_true rfl) (fun r222796 w222797 dc222793 ds222794 hp222795 => ?_) (fun _ _ _ _ _ z => z.elim)
          obtain ⟨F222802, f222798, rfl, rfl, hfr222804, he222805, hdc, hds, x222799, x222800, ht222801⟩ := hp222795
          have he222806 : F222802 q222532 = .inr (22, [.ref (γ 9 0), .ref (γ 9 1), .ref (γ 9 2), .ref (γ 9 3), .ref (γ 9 4), .ref (γ 9 5), .ref (γ 9 6), .ref (γ 9 7), .ref (γ 9 8), .int p222540, .int p222541, .int p222542, .int p222543, .int p222544, .int p222545, .ref (γ 9 15), .ref (γ 9 16), .ref (γ 9 17), .ref (γ 9 18), .ref (γ 9 19), .ref (γ 9 20), .ref (γ 9 21), .ref (γ 9 22), .int p222546, .int p222547, .int p222548, .int p222549, .int p222550, .ref q222538, .ref (γ 9 29), .int p222551, .ref (γ 9 31), .int p222552, .int p222553, .int p222554, .ref q222539]) := (hfr222804 q222532 hm222536 (nm_c (rn_oa he222758 he222757) nm_n)).trans he222758
          have he222807 : F222802 q222533 = .inr (20, [.int p222588, .int p222589, .int p222590, .int p222591, .int p222592, .int p222593, .int p222594]) := (hfr222804 q222533 hm222586 (nm_c (rn_oa he222759 he222757) nm_n)).trans he222759
          have hfr222808 : rFr [(γ 9 2)] P222530 F222754 F222802 := rFr_call (rSub_rf (P := P222530)) (rFr_rf (W := []) (P := P222530) (F := F222754)) hfr222804 (fun b hb hn => ⟨nm_n, (nm_c (fun e => hn (e ▸ List.mem_cons_self)) nm_n)⟩)
          change G _ _ _ _ _ _ _ _ _ _ _
          refine G_widen (cs' := 0) (sl' := 0) (by omega) (by omega) ?_
          have hT222809 : RS D I P222530 F222802 γ el := RS_fr hT222761 hfr222808 ht222559 (by decide) ⟨f222798, he222805, x222799⟩
          have hs222810 : rStr γ [] F222531 F222802 := rStr_fr hT222761 hs222762 hfr222808 ht222559 (by decide)
          have lv222811 : rLv γ F222531 F222802 := rLv_fr hT222761 ht222557 lv222763 hfr222808 ht222559 (by decide)
          have kp222812 : F222802 q222532 = F222531 q222532 := (hfr222808 q222532 (RS_m hT222761 htq222532 (by decide)) (nm_c (rn_ty htq222532 ht222559 (by decide)) nm_n)).trans kp222764
          exact G_vretA dr_cX17_back_79 rfl (Nat.le_of_ble_eq_true rfl) (Nat.le_of_ble_eq_true rfl) ⟨F222802, rfl, rfl, hT222809, hs222810, (Nat.le_of_ble_eq_true rfl), (Nat.le_of_ble_eq_true rfl), (fun k => by rw [cL_of he222805, cL_of he222584, bkS_of he222587, (decide_eq_false (show ¬ (p222534.toInt = 1) by omega))]; exact bk_n true false true (decide_eq_true (show (p222588.toInt ≤ 21) by omega)) (decide_eq_false (show ¬ (p222588.toInt ≠ 20 ∧ p222588.toInt ≠ 21 ∧ p222588.toInt ≠ 30 ∧ p222593.toInt = 1) by omega)) (decide_eq_true (show (0 < p222588.toInt ∧ p222588.toInt < 20 ∧ p222594.toInt = 1) by omega)) (by rw [x222800 k, x222752 k, show o222608.toInt = p222589.toInt by omega]; simp)), lv222811, kp222812, (fun R c1 c2 c3 c4 c5 c6 c7 c8 c9 c10 c11 c12 => c8 p222588 p222589 p222592 o222608 f222585 f222750 F222754 p222593 o222774 p222594 o222785 p222591 f222798 F222802 fq222600 fq222601 fq222602 bo222608 ht222610 r222743 fq222744 he222584 ht222753 hfr222760 he222757 hT222761 r222766 fq222767 fq222768 bo222774 ht222776 r222778 fq222779 bo222785 ht222787 r222790 fq222791 fq222792 he222757 ht222801 hfr222808 he222805 hT222809)⟩
      · have r222813 : o222774.toInt ≠ 0 := gj_neq hc222777 (show Int32.toInt 0 = 0 by decide)
        have bo222774' : gB o222774 1 1 := ⟨by omega, by omega⟩
        refine G_aload_n 1 dr_cX17_back_50 rfl ?_
        have fq222814 : fR (F222754 q222532) 2 = (γ 9 2) := by rw [he222758]; rfl
        refine Gp_get 2 hm222536 he222758 dr_cX17_back_51 (gk_X17 D I) (Nat.le_of_ble_eq_true rfl) wr_7_76 rfl ?_
        refine G_aload_n 2 dr_cX17_back_54 rfl ?_
        have fq222815 : fI (F222754 q222533) 2 = p222590 := by rw [he222759]; rfl
        refine Gp_get 2 hm222586 he222759 dr_cX17_back_55 (gk_X15 D I) (Nat.le_of_ble_eq_true rfl) wr_9_186 rfl ?_
        refine Gw_callS (As := [.ref (γ 9 2), .int p222590]) (gV_ok D I) (cp_222405_SpillForgeModel_set l hl0 D I P222530 F222754 (γ 9 2) p222590 f222750 hm222583 he222757 ⟨by omega, by omega⟩ x222751) dr_cX17_back_58 ⟨wr_10_189, wr_1_14, wr_10_191, by decide, rfl, (Nat.le_of_ble_eq_true rfl), (Nat.le_of_ble_eq_true rfl)⟩ wr_10_190 (show 0 + 0 ≤ 0 by first | omega | decide) (show 0 + 0 ≤ 0 by first | omega | decide) (Nat.le_of_ble_eq_true rfl) (fun r222819 w222820 dc222816 ds222817 hp222818 => ?_) (fun _ _ _ _ _ z => z.elim)
        obtain ⟨F222825, f222821, rfl, rfl, hfr222827, he222828, hdc, hds, x222822, x222823, ht222824⟩ := hp222818
        have he222829 : F222825 q222532 = .inr (22, [.ref (γ 9 0), .ref (γ 9 1), .ref (γ 9 2), .ref (γ 9 3), .ref (γ 9 4), .ref (γ 9 5), .ref (γ 9 6), .ref (γ 9 7), .ref (γ 9 8), .int p222540, .int p222541, .int p222542, .int p222543, .int p222544, .int p222545, .ref (γ 9 15), .ref (γ 9 16), .ref (γ 9 17), .ref (γ 9 18), .ref (γ 9 19), .ref (γ 9 20), .ref (γ 9 21), .ref (γ 9 22), .int p222546, .int p222547, .int p222548, .int p222549, .int p222550, .ref q222538, .ref (γ 9 29), .int p222551, .ref (γ 9 31), .int p222552, .int p222553, .int p222554, .ref q222539]) := (hfr222827 q222532 hm222536 (nm_c (rn_oa he222758 he222757) nm_n)).trans he222758
        have he222830 : F222825 q222533 = .inr (20, [.int p222588, .int p222589, .int p222590, .int p222591, .int p222592, .int p222593, .int p222594]) := (hfr222827 q222533 hm222586 (nm_c (rn_oa he222759 he222757) nm_n)).trans he222759
        have hfr222831 : rFr [(γ 9 2)] P222530 F222754 F222825 := rFr_call (rSub_rf (P := P222530)) (rFr_rf (W := []) (P := P222530) (F := F222754)) hfr222827 (fun b hb hn => ⟨nm_n, (nm_c (fun e => hn (e ▸ List.mem_cons_self)) nm_n)⟩)
        change G _ _ _ _ _ _ _ _ _ _ _
        refine G_widen (cs' := 0) (sl' := 0) (by omega) (by omega) ?_
        have hT222832 : RS D I P222530 F222825 γ el := RS_fr hT222761 hfr222831 ht222559 (by decide) ⟨f222821, he222828, x222822⟩
        have hs222833 : rStr γ [] F222531 F222825 := rStr_fr hT222761 hs222762 hfr222831 ht222559 (by decide)
        have lv222834 : rLv γ F222531 F222825 := rLv_fr hT222761 ht222557 lv222763 hfr222831 ht222559 (by decide)
        have kp222835 : F222825 q222532 = F222531 q222532 := (hfr222831 q222532 (RS_m hT222761 htq222532 (by decide)) (nm_c (rn_ty htq222532 ht222559 (by decide)) nm_n)).trans kp222764
        refine G_aload_n 2 dr_cX17_back_61 rfl ?_
        have fq222836 : fI (F222825 q222533) 0 = p222588 := by rw [he222830]; rfl
        have fq222837 : fI (F222825 q222533) 6 = p222594 := by rw [he222830]; rfl
        refine Gw_callV (As := []) (gV_ok D I) (cp_222474_Row_usesB l hl0 D I P222530 F222825 q222533 p222588 p222589 p222590 p222591 p222592 p222593 p222594 hm222586 he222830 bp222588 bp222589 bp222592 bp222593 bp222594) dr_cX17_back_62 ⟨wr_10_196, wr_1_39, wr_10_199, by decide, rfl, (Nat.le_of_ble_eq_true rfl), (Nat.le_of_ble_eq_true rfl)⟩ wr_10_197 wr_10_198 hm222586 he222830 rfl (show 0 + 0 ≤ 0 by first | omega | decide) (show 0 + 0 ≤ 0 by first | omega | decide) (Nat.le_of_ble_eq_true rfl) (fun r222841 w222842 dc222838 ds222839 hp222840 => ?_) (fun _ _ _ _ _ z => z.elim)
        obtain ⟨o222843, rfl, rfl, hdc, hds, bo222843, x222844, ht222845⟩ := hp222840
        change G _ _ _ _ _ _ _ (.int o222843 :: _) _ _ _
        refine G_widen (cs' := 0) (sl' := 0) (by omega) (by omega) ?_
        refine G_if_eq 79 dr_cX17_back_65 (by decide +kernel) (fun hc222846 => ?_) (fun hc222846 => ?_)
        · have r222847 : o222843.toInt = 0 := gj_eq hc222846 (show Int32.toInt 0 = 0 by decide)
          have bo222843' : gB o222843 0 0 := ⟨by omega, by omega⟩
          exact G_vretA dr_cX17_back_79 rfl (Nat.le_of_ble_eq_true rfl) (Nat.le_of_ble_eq_true rfl) ⟨F222825, rfl, rfl, hT222832, hs222833, (Nat.le_of_ble_eq_true rfl), (Nat.le_of_ble_eq_true rfl), (fun k => by rw [cL_of he222828, cL_of he222584, bkS_of he222587, (decide_eq_false (show ¬ (p222534.toInt = 1) by omega))]; exact bk_n true true false (decide_eq_true (show (p222588.toInt ≤ 21) by omega)) (decide_eq_true (show (p222588.toInt ≠ 20 ∧ p222588.toInt ≠ 21 ∧ p222588.toInt ≠ 30 ∧ p222593.toInt = 1) by omega)) (decide_eq_false (show ¬ (0 < p222588.toInt ∧ p222588.toInt < 20 ∧ p222594.toInt = 1) by omega)) (by rw [x222823 k, x222752 k, show o222608.toInt = p222589.toInt by omega]; simp)), lv222834, kp222835, (fun R c1 c2 c3 c4 c5 c6 c7 c8 c9 c10 c11 c12 => c9 p222588 p222589 p222592 o222608 f222585 f222750 F222754 p222593 o222774 p222590 f222821 F222825 p222594 o222843 fq222600 fq222601 fq222602 bo222608 ht222610 r222743 fq222744 he222584 ht222753 hfr222760 he222757 hT222761 r222766 fq222767 fq222768 bo222774 ht222776 r222813 fq222814 fq222815 he222757 ht222824 hfr222831 he222828 hT222832 fq222836 fq222837 bo222843 ht222845 r222847)⟩
        · have r222848 : o222843.toInt ≠ 0 := gj_neq hc222846 (show Int32.toInt 0 = 0 by decide)
          have bo222843' : gB o222843 1 1 := ⟨by omega, by omega⟩
          refine G_aload_n 1 dr_cX17_back_68 rfl ?_
          have fq222849 : fR (F222825 q222532) 2 = (γ 9 2) := by rw [he222829]; rfl
          refine Gp_get 2 hm222536 he222829 dr_cX17_back_69 (gk_X17 D I) (Nat.le_of_ble_eq_true rfl) wr_7_76 rfl ?_
          refine G_aload_n 2 dr_cX17_back_72 rfl ?_
          have fq222850 : fI (F222825 q222533) 3 = p222591 := by rw [he222830]; rfl
          refine Gp_get 3 hm222586 he222830 dr_cX17_back_73 (gk_X15 D I) (Nat.le_of_ble_eq_true rfl) wr_9_190 rfl ?_
          refine Gw_callS (As := [.ref (γ 9 2), .int p222591]) (gV_ok D I) (cp_222405_SpillForgeModel_set l hl0 D I P222530 F222825 (γ 9 2) p222591 f222821 hm222583 he222828 ⟨by omega, by omega⟩ x222822) dr_cX17_back_76 ⟨wr_10_189, wr_1_14, wr_10_191, by decide, rfl, (Nat.le_of_ble_eq_true rfl), (Nat.le_of_ble_eq_true rfl)⟩ wr_10_190 (show 0 + 0 ≤ 0 by first | omega | decide) (show 0 + 0 ≤ 0 by first | omega | decide) (Nat.le_of_ble_eq_true rfl) (fun r222854 w222855 dc222851 ds222852 hp222853 => ?_) (fun _ _ _ _ _ z => z.elim)
          obtain ⟨F222860, f222856, rfl, rfl, hfr222862, he222863, hdc, hds, x222857, x222858, ht222859⟩ := hp222853
          have he222864 : F222860 q222532 = .inr (22, [.ref (γ 9 0), .ref (γ 9 1), .ref (γ 9 2), .ref (γ 9 3), .ref (γ 9 4), .ref (γ 9 5), .ref (γ 9 6), .ref (γ 9 7), .ref (γ 9 8), .int p222540, .int p222541, .int p222542, .int p222543, .int p222544, .int p222545, .ref (γ 9 15), .ref (γ 9 16), .ref (γ 9 17), .ref (γ 9 18), .ref (γ 9 19), .ref (γ 9 20), .ref (γ 9 21), .ref (γ 9 22), .int p222546, .int p222547, .int p222548, .int p222549, .int p222550, .ref q222538, .ref (γ 9 29), .int p222551, .ref (γ 9 31), .int p222552, .int p222553, .int p222554, .ref q222539]) := (hfr222862 q222532 hm222536 (nm_c (rn_oa he222829 he222828) nm_n)).trans he222829
          have he222865 : F222860 q222533 = .inr (20, [.int p222588, .int p222589, .int p222590, .int p222591, .int p222592, .int p222593, .int p222594]) := (hfr222862 q222533 hm222586 (nm_c (rn_oa he222830 he222828) nm_n)).trans he222830
          have hfr222866 : rFr [(γ 9 2)] P222530 F222825 F222860 := rFr_call (rSub_rf (P := P222530)) (rFr_rf (W := []) (P := P222530) (F := F222825)) hfr222862 (fun b hb hn => ⟨nm_n, (nm_c (fun e => hn (e ▸ List.mem_cons_self)) nm_n)⟩)
          change G _ _ _ _ _ _ _ _ _ _ _
          refine G_widen (cs' := 0) (sl' := 0) (by omega) (by omega) ?_
          have hT222867 : RS D I P222530 F222860 γ el := RS_fr hT222832 hfr222866 ht222559 (by decide) ⟨f222856, he222863, x222857⟩
          have hs222868 : rStr γ [] F222531 F222860 := rStr_fr hT222832 hs222833 hfr222866 ht222559 (by decide)
          have lv222869 : rLv γ F222531 F222860 := rLv_fr hT222832 ht222557 lv222834 hfr222866 ht222559 (by decide)
          have kp222870 : F222860 q222532 = F222531 q222532 := (hfr222866 q222532 (RS_m hT222832 htq222532 (by decide)) (nm_c (rn_ty htq222532 ht222559 (by decide)) nm_n)).trans kp222835
          exact G_vretA dr_cX17_back_79 rfl (Nat.le_of_ble_eq_true rfl) (Nat.le_of_ble_eq_true rfl) ⟨F222860, rfl, rfl, hT222867, hs222868, (Nat.le_of_ble_eq_true rfl), (Nat.le_of_ble_eq_true rfl), (fun k => by rw [cL_of he222863, cL_of he222584, bkS_of he222587, (decide_eq_false (show ¬ (p222534.toInt = 1) by omega))]; exact bk_n true true true (decide_eq_true (show (p222588.toInt ≤ 21) by omega)) (decide_eq_true (show (p222588.toInt ≠ 20 ∧ p222588.toInt ≠ 21 ∧ p222588.toInt ≠ 30 ∧ p222593.toInt = 1) by omega)) (decide_eq_true (show (0 < p222588.toInt ∧ p222588.toInt < 20 ∧ p222594.toInt = 1) by omega)) (by rw [x222858 k, x222823 k, x222752 k, show o222608.toInt = p222589.toInt by omega]; simp)), lv222869, kp222870, (fun R c1 c2 c3 c4 c5 c6 c7 c8 c9 c10 c11 c12 => c10 p222588 p222589 p222592 o222608 f222585 f222750 F222754 p222593 o222774 p222590 f222821 F222825 p222594 o222843 p222591 f222856 F222860 fq222600 fq222601 fq222602 bo222608 ht222610 r222743 fq222744 he222584 ht222753 hfr222760 he222757 hT222761 r222766 fq222767 fq222768 bo222774 ht222776 r222813 fq222814 fq222815 he222757 ht222824 hfr222831 he222828 hT222832 fq222836 fq222837 bo222843 ht222845 r222848 fq222849 fq222850 he222828 ht222859 hfr222866 he222863 hT222867)⟩
    · have r222871 : p222534.toInt ≠ 0 := gj_neq hc222765 (show Int32.toInt 0 = 0 by decide)
      have bp222534' : gB p222534 1 1 := ⟨by omega, by omega⟩
      refine G_aload_n 2 dr_cX17_back_22 rfl ?_
      have fq222872 : fI (F222754 q222533) 0 = p222588 := by rw [he222759]; rfl
      refine Gp_get 0 hm222586 he222759 dr_cX17_back_23 (gk_X15 D I) (Nat.le_of_ble_eq_true rfl) wr_9_177 rfl ?_
      refine G_bipush 21 dr_cX17_back_26 (by decide +kernel) ?_
      refine G_icmp_ne 42 dr_cX17_back_28 (by decide +kernel) (fun hc222873 => ?_) (fun hc222873 => ?_)
      · have r222874 : p222588.toInt ≠ 21 := gj_neq hc222873 (show Int32.toInt 21 = 21 by decide)
        exact G_vretA dr_cX17_back_42 rfl (Nat.le_of_ble_eq_true rfl) (Nat.le_of_ble_eq_true rfl) ⟨F222754, rfl, rfl, hT222761, hs222762, (Nat.le_of_ble_eq_true rfl), (Nat.le_of_ble_eq_true rfl), (fun k => by rw [cL_of he222757, cL_of he222584, bkS_of he222587, (decide_eq_true (show (p222534.toInt = 1) by omega))]; exact bk_s true false (decide_eq_true (show (p222588.toInt = 23) by omega)) (decide_eq_false (show ¬ (p222588.toInt = 21) by omega)) (by rw [x222752 k, show o222608.toInt = p222592.toInt by omega]; simp)), lv222763, kp222764, (fun R c1 c2 c3 c4 c5 c6 c7 c8 c9 c10 c11 c12 => c11 p222588 p222589 p222592 o222608 f222585 f222750 F222754 fq222600 fq222601 fq222602 bo222608 ht222610 r222743 fq222744 he222584 ht222753 hfr222760 he222757 hT222761 r222871 fq222872 r222874)⟩
      · have r222875 : p222588.toInt = 21 := gj_eq hc222873 (show Int32.toInt 21 = 21 by decide)
        have bp222588' : gB p222588 21 21 := ⟨by omega, by omega⟩
        refine G_aload_n 1 dr_cX17_back_31 rfl ?_
        have fq222876 : fR (F222754 q222532) 2 = (γ 9 2) := by rw [he222758]; rfl
        refine Gp_get 2 hm222536 he222758 dr_cX17_back_32 (gk_X17 D I) (Nat.le_of_ble_eq_true rfl) wr_7_76 rfl ?_
        refine G_aload_n 2 dr_cX17_back_35 rfl ?_
        have fq222877 : fI (F222754 q222533) 4 = p222592 := by rw [he222759]; rfl
        refine Gp_get 4 hm222586 he222759 dr_cX17_back_36 (gk_X15 D I) (Nat.le_of_ble_eq_true rfl) wr_9_193 rfl ?_
        refine Gw_callS (As := [.ref (γ 9 2), .int p222592]) (gV_ok D I) (cp_222405_SpillForgeModel_set l hl0 D I P222530 F222754 (γ 9 2) p222592 f222750 hm222583 he222757 bp222592 x222751) dr_cX17_back_39 ⟨wr_10_189, wr_1_14, wr_10_191, by decide, rfl, (Nat.le_of_ble_eq_true rfl), (Nat.le_of_ble_eq_true rfl)⟩ wr_10_190 (show 0 + 0 ≤ 0 by first | omega | decide) (show 0 + 0 ≤ 0 by first | omega | decide) (Nat.le_of_ble_eq_true rfl) (fun r222881 w222882 dc222878 ds222879 hp222880 => ?_) (fun _ _ _ _ _ z => z.elim)
        obtain ⟨F222887, f222883, rfl, rfl, hfr222889, he222890, hdc, hds, x222884, x222885, ht222886⟩ := hp222880
        have he222891 : F222887 q222532 = .inr (22, [.ref (γ 9 0), .ref (γ 9 1), .ref (γ 9 2), .ref (γ 9 3), .ref (γ 9 4), .ref (γ 9 5), .ref (γ 9 6), .ref (γ 9 7), .ref (γ 9 8), .int p222540, .int p222541, .int p222542, .int p222543, .int p222544, .int p222545, .ref (γ 9 15), .ref (γ 9 16), .ref (γ 9 17), .ref (γ 9 18), .ref (γ 9 19), .ref (γ 9 20), .ref (γ 9 21), .ref (γ 9 22), .int p222546, .int p222547, .int p222548, .int p222549, .int p222550, .ref q222538, .ref (γ 9 29), .int p222551, .ref (γ 9 31), .int p222552, .int p222553, .int p222554, .ref q222539]) := (hfr222889 q222532 hm222536 (nm_c (rn_oa he222758 he222757) nm_n)).trans he222758
        have he222892 : F222887 q222533 = .inr (20, [.int p222588, .int p222589, .int p222590, .int p222591, .int p222592, .int p222593, .int p222594]) := (hfr222889 q222533 hm222586 (nm_c (rn_oa he222759 he222757) nm_n)).trans he222759
        have hfr222893 : rFr [(γ 9 2)] P222530 F222754 F222887 := rFr_call (rSub_rf (P := P222530)) (rFr_rf (W := []) (P := P222530) (F := F222754)) hfr222889 (fun b hb hn => ⟨nm_n, (nm_c (fun e => hn (e ▸ List.mem_cons_self)) nm_n)⟩)
        change G _ _ _ _ _ _ _ _ _ _ _
        refine G_widen (cs' := 0) (sl' := 0) (by omega) (by omega) ?_
        have hT222894 : RS D I P222530 F222887 γ el := RS_fr hT222761 hfr222893 ht222559 (by decide) ⟨f222883, he222890, x222884⟩
        have hs222895 : rStr γ [] F222531 F222887 := rStr_fr hT222761 hs222762 hfr222893 ht222559 (by decide)
        have lv222896 : rLv γ F222531 F222887 := rLv_fr hT222761 ht222557 lv222763 hfr222893 ht222559 (by decide)
        have kp222897 : F222887 q222532 = F222531 q222532 := (hfr222893 q222532 (RS_m hT222761 htq222532 (by decide)) (nm_c (rn_ty htq222532 ht222559 (by decide)) nm_n)).trans kp222764
        exact G_vretA dr_cX17_back_42 rfl (Nat.le_of_ble_eq_true rfl) (Nat.le_of_ble_eq_true rfl) ⟨F222887, rfl, rfl, hT222894, hs222895, (Nat.le_of_ble_eq_true rfl), (Nat.le_of_ble_eq_true rfl), (fun k => by rw [cL_of he222890, cL_of he222584, bkS_of he222587, (decide_eq_true (show (p222534.toInt = 1) by omega))]; exact bk_s true true (decide_eq_true (show (p222588.toInt = 23) by omega)) (decide_eq_true (show (p222588.toInt = 21) by omega)) (by rw [x222885 k, x222752 k, show o222608.toInt = p222592.toInt by omega]; simp)), lv222896, kp222897, (fun R c1 c2 c3 c4 c5 c6 c7 c8 c9 c10 c11 c12 => c12 p222588 p222589 p222592 o222608 f222585 f222750 F222754 f222883 F222887 fq222600 fq222601 fq222602 bo222608 ht222610 r222743 fq222744 he222584 ht222753 hfr222760 he222757 hT222761 r222871 fq222872 r222875 fq222876 fq222877 he222757 ht222886 hfr222893 he222890 hT222894)⟩
/- tr_RBlock_ways2: result -/
def tr_RBlock_ways2 (a0_first : Int32) (a0_second : Int32) (a0_end_op : Int32) (o1 : Int32) : Prop := ∀ R : (Int32) → Prop,
  (a0_end_op.toInt ≠ 32 → a0_end_op.toInt = 30 → R (1 : Int32)) →
  (a0_end_op.toInt ≠ 32 → a0_end_op.toInt ≠ 30 → a0_first.toInt ≠ a0_second.toInt → R (2 : Int32)) →
  (a0_end_op.toInt ≠ 32 → a0_end_op.toInt ≠ 30 → a0_first.toInt = a0_second.toInt → R (1 : Int32)) →
  (a0_end_op.toInt = 32 → R (0 : Int32)) →
  R o1
