/- tr_RModel_set2: a.0.[] -/
def tr_RModel_set2 (a1 : Int32) (a0_v : Nat → Int64) (o1 : Nat → Int64) : Prop := ∀ R : (Nat → Int64) → Prop,
  (∀ (x1 : Int32) (x2 : Int64) (x3 : Int64) (x4 : Int64) (x5 : Nat → Int64), x1.toInt = a1.toInt / 64 → x2 = a0_v x1.toNatClampNeg → x3 = (1 : Int64) <<< (a1.toInt64 &&& 63) → x4 = x2 ||| x3 → x5 = vp_updL a0_v x1.toNatClampNeg x4 → R x5) →
  R o1
abbrev ky_222358_SpillForgeModel_set : gKey := (cX17_set, 2, "SpillForgeModel", none, [], "set", fun _ _ => True)
def pp_222358_SpillForgeModel_set (D : va_G) (I : FieldType → ClassId) (P222352 : List Nat) (F222353 : Nat → va_E) (q222354 : Nat) (p222355 : Int32) (f222356 : Nat → Int64) : Option Value → va_W → Nat → Nat → Prop := fun r w dc ds => ∃ (F222371 : Nat → va_E) (f222369 : Nat → Int64), r = none ∧ w = va_pl P222352 F222371 ∧ rFr [q222354] P222352 F222353 F222371 ∧ F222371 q222354 = .inl (I .long, 32, .inr (.inl f222369)) ∧ dc ≤ 0 ∧ ds ≤ 0 ∧ lb_W f222369 (32) (32) (2000) ∧ (∀ k : Nat, rbt f222369 k = (rbt f222356 k || decide ((k : Int) = p222355.toInt))) ∧ tr_RModel_set2 p222355 f222356 f222369
set_option maxRecDepth 100000 in
set_option maxHeartbeats 4000000 in
theorem cp_222358_SpillForgeModel_set (l : Launch) (hl0 : l.stackTraces = false) (D : va_G) (I : FieldType → ClassId) (P222352 : List Nat) (F222353 : Nat → va_E) (q222354 : Nat) (p222355 : Int32) (f222356 : Nat → Int64) (hmq222354 : q222354 ∈ P222352) (heq222354 : F222353 q222354 = .inl (I .long, 32, .inr (.inl f222356))) (bp222355 : gB p222355 0 1999) (x222357 : lb_W f222356 (32) (32) (2000)) : CtA (gV D I) l yX17_set cX17_set 2 none 0 0 0 0 [.ref q222354, .int p222355] (va_pl P222352 F222353) (pp_222358_SpillForgeModel_set D I P222352 F222353 q222354 p222355 f222356) gNA := by
  refine CtA_of hl0 (by decide) (Nat.le_of_ble_eq_true rfl) ?_
  refine G_aload_n 0 dr_cX17_set_0 rfl ?_
  refine G_iload_n 1 dr_cX17_set_1 rfl ?_
  refine G_bipush 6 dr_cX17_set_2 (by decide +kernel) ?_
  refine G_ishr dr_cX17_set_4 (G_nam fun z222359 hz222359 => ?_)
  have ez222359 : z222359.toInt = p222355.toInt / 64 := gI_shr (k := 6) hz222359 (by decide)
  have bz222359 : gB z222359 0 31 := ⟨by omega, by omega⟩
  refine G_dup2_11 dr_cX17_set_5 rfl rfl ?_
  refine Gp_lald 2 hmq222354 heq222354 dr_cX17_set_6 rfl (gB_in bz222359 (by decide) (by decide)) (G_namL fun u222360 hu222360 => ?_)
  have qu222360 : lb_Q u222360 (2000 - 64 * z222359.toInt) := lb_Wld hu222360 x222357 (by omega) (by omega) (lb_Mod0 (by omega) (by omega))
  refine G_lconst 1 dr_cX17_set_7 rfl ?_
  refine G_iload_n 1 dr_cX17_set_8 rfl ?_
  refine G_lshl dr_cX17_set_9 (G_namL fun u222361 hu222361 => ?_)
  have qu222361 : lb_Q u222361 (p222355.toInt % 64 + 1) := lb_Qshl hu222361 (by omega)
  refine G_lor dr_cX17_set_10 (G_namL fun u222362 hu222362 => ?_)
  have qu222362 : lb_Q u222362 (2000 - 64 * z222359.toInt) := lb_Qor hu222362 qu222360 (lb_Qw qu222361 (by omega))
  refine Gp_last 2 hmq222354 heq222354 dr_cX17_set_11 rfl (gB_in bz222359 (by decide) (by decide)) (fun F222363 e222364 n222365 => ?_)
  obtain ⟨f222366, hf222366⟩ : ∃ z, z = vp_updL f222356 z222359.toNatClampNeg u222362 := ⟨_, rfl⟩
  rw [← hf222366] at e222364
  have he222367 : F222363 q222354 = .inl (I .long, 32, .inr (.inl f222366)) := e222364
  have hfr222368 : rFr [q222354] P222352 F222353 F222363 := rFr_put (rFr_rf (W := []) (P := P222352) (F := F222353)) n222365
  have wf222366 : lb_W f222366 (32) (32) (2000) := lb_Wst hf222366 x222357 (by omega) (lb_Mod0 (by omega) (by omega)) qu222362
  exact G_vretA dr_cX17_set_12 rfl (Nat.le_of_ble_eq_true rfl) (Nat.le_of_ble_eq_true rfl) ⟨F222363, f222366, rfl, rfl, hfr222368, he222367, (Nat.le_of_ble_eq_true rfl), (Nat.le_of_ble_eq_true rfl), wf222366, (rbt_set (by assumption) (by assumption) (by assumption) (by assumption) hf222366 (by omega)), (fun R c1 => c1 z222359 u222360 u222361 u222362 f222366 ez222359 hu222360 hu222361 hu222362 hf222366)⟩
/- tr_RModel_clear2: a.0.[] -/
def tr_RModel_clear2 (a1 : Int32) (a0_v : Nat → Int64) (o1 : Nat → Int64) : Prop := ∀ R : (Nat → Int64) → Prop,
  (∀ (x1 : Int32) (x2 : Int64) (x3 : Int64) (x4 : Int64) (x5 : Int64) (x6 : Nat → Int64), x1.toInt = a1.toInt / 64 → x2 = a0_v x1.toNatClampNeg → x3 = (1 : Int64) <<< (a1.toInt64 &&& 63) → x4 = x3 ^^^ (-1 : Int64) → x5 = x2 &&& x4 → x6 = vp_updL a0_v x1.toNatClampNeg x5 → R x6) →
  R o1
abbrev ky_222378_SpillForgeModel_clear : gKey := (cX17_clear, 2, "SpillForgeModel", none, [], "clear", fun _ _ => True)
def pp_222378_SpillForgeModel_clear (D : va_G) (I : FieldType → ClassId) (P222372 : List Nat) (F222373 : Nat → va_E) (q222374 : Nat) (p222375 : Int32) (f222376 : Nat → Int64) : Option Value → va_W → Nat → Nat → Prop := fun r w dc ds => ∃ (F222392 : Nat → va_E) (f222390 : Nat → Int64), r = none ∧ w = va_pl P222372 F222392 ∧ rFr [q222374] P222372 F222373 F222392 ∧ F222392 q222374 = .inl (I .long, 32, .inr (.inl f222390)) ∧ dc ≤ 0 ∧ ds ≤ 0 ∧ lb_W f222390 (32) (32) (2000) ∧ (∀ k : Nat, rbt f222390 k = (rbt f222376 k && ! decide ((k : Int) = p222375.toInt))) ∧ tr_RModel_clear2 p222375 f222376 f222390
set_option maxRecDepth 100000 in
set_option maxHeartbeats 4000000 in
theorem cp_222378_SpillForgeModel_clear (l : Launch) (hl0 : l.stackTraces = false) (D : va_G) (I : FieldType → ClassId) (P222372 : List Nat) (F222373 : Nat → va_E) (q222374 : Nat) (p222375 : Int32) (f222376 : Nat → Int64) (hmq222374 : q222374 ∈ P222372) (heq222374 : F222373 q222374 = .inl (I .long, 32, .inr (.inl f222376))) (bp222375 : gB p222375 0 1999) (x222377 : lb_W f222376 (32) (32) (2000)) : CtA (gV D I) l yX17_clear cX17_clear 2 none 0 0 0 0 [.ref q222374, .int p222375] (va_pl P222372 F222373) (pp_222378_SpillForgeModel_clear D I P222372 F222373 q222374 p222375 f222376) gNA := by
  refine CtA_of hl0 (by decide) (Nat.le_of_ble_eq_true rfl) ?_
  refine G_aload_n 0 dr_cX17_clear_0 rfl ?_
  refine G_iload_n 1 dr_cX17_clear_1 rfl ?_
  refine G_bipush 6 dr_cX17_clear_2 (by decide +kernel) ?_
  refine G_ishr dr_cX17_clear_4 (G_nam fun z222379 hz222379 => ?_)
  have ez222379 : z222379.toInt = p222375.toInt / 64 := gI_shr (k := 6) hz222379 (by decide)
  have bz222379 : gB z222379 0 31 := ⟨by omega, by omega⟩
  refine G_dup2_11 dr_cX17_clear_5 rfl rfl ?_
  refine Gp_lald 2 hmq222374 heq222374 dr_cX17_clear_6 rfl (gB_in bz222379 (by decide) (by decide)) (G_namL fun u222380 hu222380 => ?_)
  have qu222380 : lb_Q u222380 (2000 - 64 * z222379.toInt) := lb_Wld hu222380 x222377 (by omega) (by omega) (lb_Mod0 (by omega) (by omega))
  refine G_lconst 1 dr_cX17_clear_7 rfl ?_
  refine G_iload_n 1 dr_cX17_clear_8 rfl ?_
  refine G_lshl dr_cX17_clear_9 (G_namL fun u222381 hu222381 => ?_)
  have qu222381 : lb_Q u222381 (p222375.toInt % 64 + 1) := lb_Qshl hu222381 (by omega)
  refine G_ldc2 (-1) dr_cX17_clear_10 wr_10_188 ?_
  refine G_lxor dr_cX17_clear_13 (G_namL fun u222382 hu222382 => ?_)
  refine G_land dr_cX17_clear_14 (G_namL fun u222383 hu222383 => ?_)
  have qu222383 : lb_Q u222383 (2000 - 64 * z222379.toInt) := lb_QandL hu222383 qu222380
  refine Gp_last 2 hmq222374 heq222374 dr_cX17_clear_15 rfl (gB_in bz222379 (by decide) (by decide)) (fun F222384 e222385 n222386 => ?_)
  obtain ⟨f222387, hf222387⟩ : ∃ z, z = vp_updL f222376 z222379.toNatClampNeg u222383 := ⟨_, rfl⟩
  rw [← hf222387] at e222385
  have he222388 : F222384 q222374 = .inl (I .long, 32, .inr (.inl f222387)) := e222385
  have hfr222389 : rFr [q222374] P222372 F222373 F222384 := rFr_put (rFr_rf (W := []) (P := P222372) (F := F222373)) n222386
  have wf222387 : lb_W f222387 (32) (32) (2000) := lb_Wst hf222387 x222377 (by omega) (lb_Mod0 (by omega) (by omega)) qu222383
  exact G_vretA dr_cX17_clear_16 rfl (Nat.le_of_ble_eq_true rfl) (Nat.le_of_ble_eq_true rfl) ⟨F222384, f222387, rfl, rfl, hfr222389, he222388, (Nat.le_of_ble_eq_true rfl), (Nat.le_of_ble_eq_true rfl), wf222387, (rbt_clr (by assumption) (by assumption) (by assumption) (by assumption) (by assumption) hf222387 (by omega)), (fun R c1 => c1 z222379 u222380 u222381 u222382 u222383 f222387 ez222379 hu222380 hu222381 hu222382 hu222383 hf222387)⟩
/- tr_RRow_usesA2: result -/
def tr_RRow_usesA2 (a0_op : Int32) (a0_regA : Int32) (o1 : Int32) : Prop := ∀ R : (Int32) → Prop,
  (a0_op.toInt = 20 → R (0 : Int32)) →
  (a0_op.toInt ≠ 20 → a0_op.toInt = 21 → R (0 : Int32)) →
  (a0_op.toInt ≠ 20 → a0_op.toInt ≠ 21 → a0_op.toInt = 30 → R (0 : Int32)) →
  (a0_op.toInt ≠ 20 → a0_op.toInt ≠ 21 → a0_op.toInt ≠ 30 → a0_regA.toInt = 0 → R (0 : Int32)) →
  (a0_op.toInt ≠ 20 → a0_op.toInt ≠ 21 → a0_op.toInt ≠ 30 → a0_regA.toInt ≠ 0 → R (1 : Int32)) →
  R o1
abbrev ky_222403_Row_usesA : gKey := (cX15_usesA, 1, "SpillForgeModel$Row", (some FieldType.boolean), [], "usesA", fun _ _ => True)
def pp_222403_Row_usesA (D : va_G) (I : FieldType → ClassId) (P222393 : List Nat) (F222394 : Nat → va_E) (q222395 : Nat) (p222396 : Int32) (p222397 : Int32) (p222398 : Int32) (p222399 : Int32) (p222400 : Int32) (p222401 : Int32) (p222402 : Int32) : Option Value → va_W → Nat → Nat → Prop := fun r w dc ds => ∃ (o222416 : Int32), r = some (.int o222416) ∧ w = va_pl P222393 F222394 ∧ dc ≤ 0 ∧ ds ≤ 0 ∧ gB o222416 0 1 ∧ ((o222416.toInt = 1 ∧ p222396.toInt ≠ 20 ∧ p222396.toInt ≠ 21 ∧ p222396.toInt ≠ 30 ∧ p222401.toInt = 1) ∨ (o222416.toInt = 0 ∧ (p222396.toInt = 20 ∨ p222396.toInt = 21 ∨ p222396.toInt = 30 ∨ p222401.toInt = 0))) ∧ tr_RRow_usesA2 p222396 p222401 o222416
set_option maxRecDepth 100000 in
set_option maxHeartbeats 4000000 in
theorem cp_222403_Row_usesA (l : Launch) (hl0 : l.stackTraces = false) (D : va_G) (I : FieldType → ClassId) (P222393 : List Nat) (F222394 : Nat → va_E) (q222395 : Nat) (p222396 : Int32) (p222397 : Int32) (p222398 : Int32) (p222399 : Int32) (p222400 : Int32) (p222401 : Int32) (p222402 : Int32) (hmq222395 : q222395 ∈ P222393) (heq222395 : F222394 q222395 = .inr (20, [.int p222396, .int p222397, .int p222398, .int p222399, .int p222400, .int p222401, .int p222402])) (bp222396 : gB p222396 0 32) (bp222397 : gB p222397 0 1999) (bp222400 : gB p222400 0 1999) (bp222401 : gB p222401 0 1) (bp222402 : gB p222402 0 1) : CtA (gV D I) l yX15_usesA cX15_usesA 1 (some FieldType.boolean) 0 0 0 0 [.ref q222395] (va_pl P222393 F222394) (pp_222403_Row_usesA D I P222393 F222394 q222395 p222396 p222397 p222398 p222399 p222400 p222401 p222402) gNA := by
  refine CtA_of hl0 (by decide) (Nat.le_of_ble_eq_true rfl) ?_
  have bp222398 := gB_any p222398
  have bp222399 := gB_any p222399
  refine G_aload_n 0 dr_cX15_usesA_0 rfl ?_
  refine Gp_get 0 hmq222395 heq222395 dr_cX15_usesA_1 (gk_X15 D I) (Nat.le_of_ble_eq_true rfl) wr_9_175 rfl ?_
  refine G_bipush 20 dr_cX15_usesA_4 (by decide +kernel) ?_
  refine G_icmp_eq 38 dr_cX15_usesA_6 (by decide +kernel) (fun hc222404 => ?_) (fun hc222404 => ?_)
  · have r222405 : p222396.toInt = 20 := gj_eq hc222404 (show Int32.toInt 20 = 20 by decide)
    have bp222396' : gB p222396 20 20 := ⟨by omega, by omega⟩
    refine G_iconst 0 dr_cX15_usesA_38 (by decide +kernel) ?_
    exact G_zretA FieldType.boolean dr_cX15_usesA_39 rfl rfl (Nat.le_of_ble_eq_true rfl) (Nat.le_of_ble_eq_true rfl) ⟨0, rfl, rfl, (Nat.le_of_ble_eq_true rfl), (Nat.le_of_ble_eq_true rfl), (gB_w (gBl (show Int32.toInt 0 = 0 by decide)) (by decide) (by decide)), (by have qa0 : Int32.toInt 0 = 0 := (by decide); omega), (fun R c1 c2 c3 c4 c5 => c1 r222405)⟩
  · have r222406 : p222396.toInt ≠ 20 := gj_neq hc222404 (show Int32.toInt 20 = 20 by decide)
    refine G_aload_n 0 dr_cX15_usesA_9 rfl ?_
    refine Gp_get 0 hmq222395 heq222395 dr_cX15_usesA_10 (gk_X15 D I) (Nat.le_of_ble_eq_true rfl) wr_9_175 rfl ?_
    refine G_bipush 21 dr_cX15_usesA_13 (by decide +kernel) ?_
    refine G_icmp_eq 38 dr_cX15_usesA_15 (by decide +kernel) (fun hc222407 => ?_) (fun hc222407 => ?_)
    · have r222408 : p222396.toInt = 21 := gj_eq hc222407 (show Int32.toInt 21 = 21 by decide)
      have bp222396' : gB p222396 21 21 := ⟨by omega, by omega⟩
      refine G_iconst 0 dr_cX15_usesA_38 (by decide +kernel) ?_
      exact G_zretA FieldType.boolean dr_cX15_usesA_39 rfl rfl (Nat.le_of_ble_eq_true rfl) (Nat.le_of_ble_eq_true rfl) ⟨0, rfl, rfl, (Nat.le_of_ble_eq_true rfl), (Nat.le_of_ble_eq_true rfl), (gB_w (gBl (show Int32.toInt 0 = 0 by decide)) (by decide) (by decide)), (by have qa0 : Int32.toInt 0 = 0 := (by decide); omega), (fun R c1 c2 c3 c4 c5 => c2 r222406 r222408)⟩
    · have r222409 : p222396.toInt ≠ 21 := gj_neq hc222407 (show Int32.toInt 21 = 21 by decide)
      refine G_aload_n 0 dr_cX15_usesA_18 rfl ?_
      refine Gp_get 0 hmq222395 heq222395 dr_cX15_usesA_19 (gk_X15 D I) (Nat.le_of_ble_eq_true rfl) wr_9_175 rfl ?_
      refine G_bipush 30 dr_cX15_usesA_22 (by decide +kernel) ?_
      refine G_icmp_eq 38 dr_cX15_usesA_24 (by decide +kernel) (fun hc222410 => ?_) (fun hc222410 => ?_)
      · have r222411 : p222396.toInt = 30 := gj_eq hc222410 (show Int32.toInt 30 = 30 by decide)
        have bp222396' : gB p222396 30 30 := ⟨by omega, by omega⟩
        refine G_iconst 0 dr_cX15_usesA_38 (by decide +kernel) ?_
        exact G_zretA FieldType.boolean dr_cX15_usesA_39 rfl rfl (Nat.le_of_ble_eq_true rfl) (Nat.le_of_ble_eq_true rfl) ⟨0, rfl, rfl, (Nat.le_of_ble_eq_true rfl), (Nat.le_of_ble_eq_true rfl), (gB_w (gBl (show Int32.toInt 0 = 0 by decide)) (by decide) (by decide)), (by have qa0 : Int32.toInt 0 = 0 := (by decide); omega), (fun R c1 c2 c3 c4 c5 => c3 r222406 r222409 r222411)⟩
      · have r222412 : p222396.toInt ≠ 30 := gj_neq hc222410 (show Int32.toInt 30 = 30 by decide)
        refine G_aload_n 0 dr_cX15_usesA_27 rfl ?_
        refine Gp_get 5 hmq222395 heq222395 dr_cX15_usesA_28 (gk_X15 D I) (Nat.le_of_ble_eq_true rfl) wr_9_195 rfl ?_
        refine G_if_eq 38 dr_cX15_usesA_31 (by decide +kernel) (fun hc222413 => ?_) (fun hc222413 => ?_)
        · have r222414 : p222401.toInt = 0 := gj_eq hc222413 (show Int32.toInt 0 = 0 by decide)
          have bp222401' : gB p222401 0 0 := ⟨by omega, by omega⟩
          refine G_iconst 0 dr_cX15_usesA_38 (by decide +kernel) ?_
          exact G_zretA FieldType.boolean dr_cX15_usesA_39 rfl rfl (Nat.le_of_ble_eq_true rfl) (Nat.le_of_ble_eq_true rfl) ⟨0, rfl, rfl, (Nat.le_of_ble_eq_true rfl), (Nat.le_of_ble_eq_true rfl), (gB_w (gBl (show Int32.toInt 0 = 0 by decide)) (by decide) (by decide)), (by have qa0 : Int32.toInt 0 = 0 := (by decide); omega), (fun R c1 c2 c3 c4 c5 => c4 r222406 r222409 r222412 r222414)⟩
        · have r222415 : p222401.toInt ≠ 0 := gj_neq hc222413 (show Int32.toInt 0 = 0 by decide)
          have bp222401' : gB p222401 1 1 := ⟨by omega, by omega⟩
          refine G_iconst 1 dr_cX15_usesA_34 (by decide +kernel) ?_
          refine G_goto 39 dr_cX15_usesA_35 (by decide +kernel) ?_
          exact G_zretA FieldType.boolean dr_cX15_usesA_39 rfl rfl (Nat.le_of_ble_eq_true rfl) (Nat.le_of_ble_eq_true rfl) ⟨1, rfl, rfl, (Nat.le_of_ble_eq_true rfl), (Nat.le_of_ble_eq_true rfl), (gB_w (gBl (show Int32.toInt 1 = 1 by decide)) (by decide) (by decide)), (by have qa0 : Int32.toInt 1 = 1 := (by decide); omega), (fun R c1 c2 c3 c4 c5 => c5 r222406 r222409 r222412 r222415)⟩
/- tr_RRow_usesB2: result -/
def tr_RRow_usesB2 (a0_op : Int32) (a0_regB : Int32) (o1 : Int32) : Prop := ∀ R : (Int32) → Prop,
  (a0_op.toInt ≤ 0 → R (0 : Int32)) →
  (0 < a0_op.toInt → 20 ≤ a0_op.toInt → R (0 : Int32)) →
  (0 < a0_op.toInt → a0_op.toInt < 20 → a0_regB.toInt = 0 → R (0 : Int32)) →
  (0 < a0_op.toInt → a0_op.toInt < 20 → a0_regB.toInt ≠ 0 → R (1 : Int32)) →
  R o1
abbrev ky_222427_Row_usesB : gKey := (cX15_usesB, 1, "SpillForgeModel$Row", (some FieldType.boolean), [], "usesB", fun _ _ => True)
def pp_222427_Row_usesB (D : va_G) (I : FieldType → ClassId) (P222417 : List Nat) (F222418 : Nat → va_E) (q222419 : Nat) (p222420 : Int32) (p222421 : Int32) (p222422 : Int32) (p222423 : Int32) (p222424 : Int32) (p222425 : Int32) (p222426 : Int32) : Option Value → va_W → Nat → Nat → Prop := fun r w dc ds => ∃ (o222437 : Int32), r = some (.int o222437) ∧ w = va_pl P222417 F222418 ∧ dc ≤ 0 ∧ ds ≤ 0 ∧ gB o222437 0 1 ∧ ((o222437.toInt = 1 ∧ 0 < p222420.toInt ∧ p222420.toInt < 20 ∧ p222426.toInt = 1) ∨ (o222437.toInt = 0 ∧ (p222420.toInt ≤ 0 ∨ 20 ≤ p222420.toInt ∨ p222426.toInt = 0))) ∧ tr_RRow_usesB2 p222420 p222426 o222437
set_option maxRecDepth 100000 in
set_option maxHeartbeats 4000000 in
theorem cp_222427_Row_usesB (l : Launch) (hl0 : l.stackTraces = false) (D : va_G) (I : FieldType → ClassId) (P222417 : List Nat) (F222418 : Nat → va_E) (q222419 : Nat) (p222420 : Int32) (p222421 : Int32) (p222422 : Int32) (p222423 : Int32) (p222424 : Int32) (p222425 : Int32) (p222426 : Int32) (hmq222419 : q222419 ∈ P222417) (heq222419 : F222418 q222419 = .inr (20, [.int p222420, .int p222421, .int p222422, .int p222423, .int p222424, .int p222425, .int p222426])) (bp222420 : gB p222420 0 32) (bp222421 : gB p222421 0 1999) (bp222424 : gB p222424 0 1999) (bp222425 : gB p222425 0 1) (bp222426 : gB p222426 0 1) : CtA (gV D I) l yX15_usesB cX15_usesB 1 (some FieldType.boolean) 0 0 0 0 [.ref q222419] (va_pl P222417 F222418) (pp_222427_Row_usesB D I P222417 F222418 q222419 p222420 p222421 p222422 p222423 p222424 p222425 p222426) gNA := by
  refine CtA_of hl0 (by decide) (Nat.le_of_ble_eq_true rfl) ?_
  have bp222422 := gB_any p222422
  have bp222423 := gB_any p222423
  refine G_aload_n 0 dr_cX15_usesB_0 rfl ?_
  refine Gp_get 0 hmq222419 heq222419 dr_cX15_usesB_1 (gk_X15 D I) (Nat.le_of_ble_eq_true rfl) wr_9_175 rfl ?_
  refine G_if_le 27 dr_cX15_usesB_4 (by decide +kernel) (fun hc222428 => ?_) (fun hc222428 => ?_)
  · have r222429 : p222420.toInt ≤ 0 := gj_le hc222428 (show Int32.toInt 0 = 0 by decide)
    have bp222420' : gB p222420 0 0 := ⟨by omega, by omega⟩
    refine G_iconst 0 dr_cX15_usesB_27 (by decide +kernel) ?_
    exact G_zretA FieldType.boolean dr_cX15_usesB_28 rfl rfl (Nat.le_of_ble_eq_true rfl) (Nat.le_of_ble_eq_true rfl) ⟨0, rfl, rfl, (Nat.le_of_ble_eq_true rfl), (Nat.le_of_ble_eq_true rfl), (gB_w (gBl (show Int32.toInt 0 = 0 by decide)) (by decide) (by decide)), (by have qa0 : Int32.toInt 0 = 0 := (by decide); omega), (fun R c1 c2 c3 c4 => c1 r222429)⟩
  · have r222430 : 0 < p222420.toInt := gj_nle hc222428 (show Int32.toInt 0 = 0 by decide)
    have bp222420' : gB p222420 1 32 := ⟨by omega, by omega⟩
    refine G_aload_n 0 dr_cX15_usesB_7 rfl ?_
    refine Gp_get 0 hmq222419 heq222419 dr_cX15_usesB_8 (gk_X15 D I) (Nat.le_of_ble_eq_true rfl) wr_9_175 rfl ?_
    refine G_bipush 20 dr_cX15_usesB_11 (by decide +kernel) ?_
    refine G_icmp_ge 27 dr_cX15_usesB_13 (by decide +kernel) (fun hc222431 => ?_) (fun hc222431 => ?_)
    · have r222432 : 20 ≤ p222420.toInt := gj_leL hc222431 (show Int32.toInt 20 = 20 by decide)
      have bp222420'' : gB p222420 20 32 := ⟨by omega, by omega⟩
      refine G_iconst 0 dr_cX15_usesB_27 (by decide +kernel) ?_
      exact G_zretA FieldType.boolean dr_cX15_usesB_28 rfl rfl (Nat.le_of_ble_eq_true rfl) (Nat.le_of_ble_eq_true rfl) ⟨0, rfl, rfl, (Nat.le_of_ble_eq_true rfl), (Nat.le_of_ble_eq_true rfl), (gB_w (gBl (show Int32.toInt 0 = 0 by decide)) (by decide) (by decide)), (by have qa0 : Int32.toInt 0 = 0 := (by decide); omega), (fun R c1 c2 c3 c4 => c2 r222430 r222432)⟩
    · have r222433 : p222420.toInt < 20 := gj_nleL hc222431 (show Int32.toInt 20 = 20 by decide)
      have bp222420'' : gB p222420 1 19 := ⟨by omega, by omega⟩
      refine G_aload_n 0 dr_cX15_usesB_16 rfl ?_
      refine Gp_get 6 hmq222419 heq222419 dr_cX15_usesB_17 (gk_X15 D I) (Nat.le_of_ble_eq_true rfl) wr_9_199 rfl ?_
      refine G_if_eq 27 dr_cX15_usesB_20 (by decide +kernel) (fun hc222434 => ?_) (fun hc222434 => ?_)
      · have r222435 : p222426.toInt = 0 := gj_eq hc222434 (show Int32.toInt 0 = 0 by decide)
        have bp222426' : gB p222426 0 0 := ⟨by omega, by omega⟩
        refine G_iconst 0 dr_cX15_usesB_27 (by decide +kernel) ?_
        exact G_zretA FieldType.boolean dr_cX15_usesB_28 rfl rfl (Nat.le_of_ble_eq_true rfl) (Nat.le_of_ble_eq_true rfl) ⟨0, rfl, rfl, (Nat.le_of_ble_eq_true rfl), (Nat.le_of_ble_eq_true rfl), (gB_w (gBl (show Int32.toInt 0 = 0 by decide)) (by decide) (by decide)), (by have qa0 : Int32.toInt 0 = 0 := (by decide); omega), (fun R c1 c2 c3 c4 => c3 r222430 r222433 r222435)⟩
      · have r222436 : p222426.toInt ≠ 0 := gj_neq hc222434 (show Int32.toInt 0 = 0 by decide)
        have bp222426' : gB p222426 1 1 := ⟨by omega, by omega⟩
        refine G_iconst 1 dr_cX15_usesB_23 (by decide +kernel) ?_
        refine G_goto 28 dr_cX15_usesB_24 (by decide +kernel) ?_
        exact G_zretA FieldType.boolean dr_cX15_usesB_28 rfl rfl (Nat.le_of_ble_eq_true rfl) (Nat.le_of_ble_eq_true rfl) ⟨1, rfl, rfl, (Nat.le_of_ble_eq_true rfl), (Nat.le_of_ble_eq_true rfl), (gB_w (gBl (show Int32.toInt 1 = 1 by decide)) (by decide) (by decide)), (by have qa0 : Int32.toInt 1 = 1 := (by decide); omega), (fun R c1 c2 c3 c4 => c4 r222430 r222433 r222436)⟩
/- tr_RRow_sets2: result -/
def tr_RRow_sets2 (a0_op : Int32) (o1 : Int32) : Prop := ∀ R : (Int32) → Prop,
  (21 < a0_op.toInt → R (0 : Int32)) →
  (a0_op.toInt ≤ 21 → R (1 : Int32)) →
  R o1
abbrev ky_222448_Row_sets : gKey := (cX15_sets, 1, "SpillForgeModel$Row", (some FieldType.boolean), [], "sets", fun _ _ => True)
def pp_222448_Row_sets (D : va_G) (I : FieldType → ClassId) (P222438 : List Nat) (F222439 : Nat → va_E) (q222440 : Nat) (p222441 : Int32) (p222442 : Int32) (p222443 : Int32) (p222444 : Int32) (p222445 : Int32) (p222446 : Int32) (p222447 : Int32) : Option Value → va_W → Nat → Nat → Prop := fun r w dc ds => ∃ (o222452 : Int32), r = some (.int o222452) ∧ w = va_pl P222438 F222439 ∧ dc ≤ 0 ∧ ds ≤ 0 ∧ gB o222452 0 1 ∧ ((o222452.toInt = 1 ∧ p222441.toInt ≤ 21) ∨ (o222452.toInt = 0 ∧ 21 < p222441.toInt)) ∧ tr_RRow_sets2 p222441 o222452
set_option maxRecDepth 100000 in
set_option maxHeartbeats 4000000 in
theorem cp_222448_Row_sets (l : Launch) (hl0 : l.stackTraces = false) (D : va_G) (I : FieldType → ClassId) (P222438 : List Nat) (F222439 : Nat → va_E) (q222440 : Nat) (p222441 : Int32) (p222442 : Int32) (p222443 : Int32) (p222444 : Int32) (p222445 : Int32) (p222446 : Int32) (p222447 : Int32) (hmq222440 : q222440 ∈ P222438) (heq222440 : F222439 q222440 = .inr (20, [.int p222441, .int p222442, .int p222443, .int p222444, .int p222445, .int p222446, .int p222447])) (bp222441 : gB p222441 0 32) (bp222442 : gB p222442 0 1999) (bp222445 : gB p222445 0 1999) (bp222446 : gB p222446 0 1) (bp222447 : gB p222447 0 1) : CtA (gV D I) l yX15_sets cX15_sets 1 (some FieldType.boolean) 0 0 0 0 [.ref q222440] (va_pl P222438 F222439) (pp_222448_Row_sets D I P222438 F222439 q222440 p222441 p222442 p222443 p222444 p222445 p222446 p222447) gNA := by
  refine CtA_of hl0 (by decide) (Nat.le_of_ble_eq_true rfl) ?_
  have bp222443 := gB_any p222443
  have bp222444 := gB_any p222444
  refine G_aload_n 0 dr_cX15_sets_0 rfl ?_
  refine Gp_get 0 hmq222440 heq222440 dr_cX15_sets_1 (gk_X15 D I) (Nat.le_of_ble_eq_true rfl) wr_9_175 rfl ?_
  refine G_bipush 21 dr_cX15_sets_4 (by decide +kernel) ?_
  refine G_icmp_gt 13 dr_cX15_sets_6 (by decide +kernel) (fun hc222449 => ?_) (fun hc222449 => ?_)
  · have r222450 : 21 < p222441.toInt := gj_ltL hc222449 (show Int32.toInt 21 = 21 by decide)
    have bp222441' : gB p222441 22 32 := ⟨by omega, by omega⟩
    refine G_iconst 0 dr_cX15_sets_13 (by decide +kernel) ?_
    exact G_zretA FieldType.boolean dr_cX15_sets_14 rfl rfl (Nat.le_of_ble_eq_true rfl) (Nat.le_of_ble_eq_true rfl) ⟨0, rfl, rfl, (Nat.le_of_ble_eq_true rfl), (Nat.le_of_ble_eq_true rfl), (gB_w (gBl (show Int32.toInt 0 = 0 by decide)) (by decide) (by decide)), (by have qa0 : Int32.toInt 0 = 0 := (by decide); omega), (fun R c1 c2 => c1 r222450)⟩
  · have r222451 : p222441.toInt ≤ 21 := gj_nltL hc222449 (show Int32.toInt 21 = 21 by decide)
    have bp222441' : gB p222441 0 21 := ⟨by omega, by omega⟩
    refine G_iconst 1 dr_cX15_sets_9 (by decide +kernel) ?_
    refine G_goto 14 dr_cX15_sets_10 (by decide +kernel) ?_
    exact G_zretA FieldType.boolean dr_cX15_sets_14 rfl rfl (Nat.le_of_ble_eq_true rfl) (Nat.le_of_ble_eq_true rfl) ⟨1, rfl, rfl, (Nat.le_of_ble_eq_true rfl), (Nat.le_of_ble_eq_true rfl), (gB_w (gBl (show Int32.toInt 1 = 1 by decide)) (by decide) (by decide)), (by have qa0 : Int32.toInt 1 = 1 := (by decide); omega), (fun R c1 c2 => c2 r222451)⟩
/- tr_RModel_setOf2: result -/
def tr_RModel_setOf2 (a1 : Int32) (a0_op : Int32) (a0_t : Int32) (a0_slot : Int32) (o1 : Int32) : Prop := ∀ R : (Int32) → Prop,
  (∀ (x1 : Int32), a1.toInt = 0 → gB x1 0 1 → tr_RRow_sets2 a0_op x1 → x1.toInt = 0 → R (-1 : Int32)) →
  (∀ (x1 : Int32), a1.toInt = 0 → gB x1 0 1 → tr_RRow_sets2 a0_op x1 → x1.toInt ≠ 0 → R a0_t) →
  (a1.toInt ≠ 0 → a0_op.toInt ≠ 23 → R (-1 : Int32)) →
  (a1.toInt ≠ 0 → a0_op.toInt = 23 → R a0_slot) →
  R o1
abbrev ky_222464_SpillForgeModel_setOf : gKey := (cX17_setOf, 2, "SpillForgeModel", (some FieldType.int), [], "setOf", fun _ _ => True)
def pp_222464_SpillForgeModel_setOf (D : va_G) (I : FieldType → ClassId) (P222453 : List Nat) (F222454 : Nat → va_E) (q222455 : Nat) (p222456 : Int32) (p222457 : Int32) (p222458 : Int32) (p222459 : Int32) (p222460 : Int32) (p222461 : Int32) (p222462 : Int32) (p222463 : Int32) : Option Value → va_W → Nat → Nat → Prop := fun r w dc ds => ∃ (o222482 : Int32), r = some (.int o222482) ∧ w = va_pl P222453 F222454 ∧ dc ≤ 0 ∧ ds ≤ 0 ∧ gB o222482 (-1) 1999 ∧ ((p222456.toInt = 0 ∧ p222457.toInt ≤ 21 ∧ o222482.toInt = p222458.toInt) ∨ (p222456.toInt = 0 ∧ 21 < p222457.toInt ∧ o222482.toInt = -1) ∨ (p222456.toInt = 1 ∧ p222457.toInt = 23 ∧ o222482.toInt = p222461.toInt) ∨ (p222456.toInt = 1 ∧ p222457.toInt ≠ 23 ∧ o222482.toInt = -1)) ∧ tr_RModel_setOf2 p222456 p222457 p222458 p222461 o222482
set_option maxRecDepth 100000 in
set_option maxHeartbeats 4000000 in
theorem cp_222464_SpillForgeModel_setOf (l : Launch) (hl0 : l.stackTraces = false) (D : va_G) (I : FieldType → ClassId) (P222453 : List Nat) (F222454 : Nat → va_E) (q222455 : Nat) (p222456 : Int32) (p222457 : Int32) (p222458 : Int32) (p222459 : Int32) (p222460 : Int32) (p222461 : Int32) (p222462 : Int32) (p222463 : Int32) (hmq222455 : q222455 ∈ P222453) (heq222455 : F222454 q222455 = .inr (20, [.int p222457, .int p222458, .int p222459, .int p222460, .int p222461, .int p222462, .int p222463])) (bp222456 : gB p222456 0 1) (bp222457 : gB p222457 0 32) (bp222458 : gB p222458 0 1999) (bp222461 : gB p222461 0 1999) (bp222462 : gB p222462 0 1) (bp222463 : gB p222463 0 1) : CtA (gV D I) l yX17_setOf cX17_setOf 2 (some FieldType.int) 1 20 0 0 [.ref q222455, .int p222456] (va_pl P222453 F222454) (pp_222464_SpillForgeModel_setOf D I P222453 F222454 q222455 p222456 p222457 p222458 p222459 p222460 p222461 p222462 p222463) gNA := by
  refine CtA_of hl0 (by decide) (Nat.le_of_ble_eq_true rfl) ?_
  have bp222459 := gB_any p222459
  have bp222460 := gB_any p222460
  refine G_iload_n 1 dr_cX17_setOf_0 rfl ?_
  refine G_if_eq 24 dr_cX17_setOf_1 (by decide +kernel) (fun hc222465 => ?_) (fun hc222465 => ?_)
  · have r222466 : p222456.toInt = 0 := gj_eq hc222465 (show Int32.toInt 0 = 0 by decide)
    have bp222456' : gB p222456 0 0 := ⟨by omega, by omega⟩
    refine G_aload_n 0 dr_cX17_setOf_24 rfl ?_
    refine Gw_callV (As := []) (gV_ok D I) (cp_222448_Row_sets l hl0 D I P222453 F222454 q222455 p222457 p222458 p222459 p222460 p222461 p222462 p222463 hmq222455 heq222455 bp222457 bp222458 bp222461 bp222462 bp222463) dr_cX17_setOf_25 ⟨wr_10_181, wr_1_39, wr_10_184, by decide, rfl, (Nat.le_of_ble_eq_true rfl), (Nat.le_of_ble_eq_true rfl)⟩ wr_10_182 wr_10_183 hmq222455 heq222455 rfl (show 0 + 0 ≤ 0 by first | omega | decide) (show 0 + 0 ≤ 0 by first | omega | decide) (Nat.le_of_ble_eq_true rfl) (fun r222470 w222471 dc222467 ds222468 hp222469 => ?_) (fun _ _ _ _ _ z => z.elim)
    obtain ⟨o222472, rfl, rfl, hdc, hds, bo222472, x222473, ht222474⟩ := hp222469
    change G _ _ _ _ _ _ _ (.int o222472 :: _) _ _ _
    refine G_widen (cs' := 0) (sl' := 0) (by omega) (by omega) ?_
    refine G_if_eq 38 dr_cX17_setOf_28 (by decide +kernel) (fun hc222475 => ?_) (fun hc222475 => ?_)
    · have r222476 : o222472.toInt = 0 := gj_eq hc222475 (show Int32.toInt 0 = 0 by decide)
      have bo222472' : gB o222472 0 0 := ⟨by omega, by omega⟩
      refine G_iconst (-1) dr_cX17_setOf_38 (by decide +kernel) ?_
      exact G_iretA dr_cX17_setOf_39 rfl (Nat.le_of_ble_eq_true rfl) (Nat.le_of_ble_eq_true rfl) ⟨(-1), rfl, rfl, (Nat.le_of_ble_eq_true rfl), (Nat.le_of_ble_eq_true rfl), (gB_w (gBl (show Int32.toInt (-1) = (-1) by decide)) (by decide) (by decide)), (by have qa0 : Int32.toInt (-1) = (-1) := (by decide); omega), (fun R c1 c2 c3 c4 => c1 o222472 r222466 bo222472 ht222474 r222476)⟩
    · have r222477 : o222472.toInt ≠ 0 := gj_neq hc222475 (show Int32.toInt 0 = 0 by decide)
      have bo222472' : gB o222472 1 1 := ⟨by omega, by omega⟩
      refine G_aload_n 0 dr_cX17_setOf_31 rfl ?_
      refine Gp_get 1 hmq222455 heq222455 dr_cX17_setOf_32 (gk_X15 D I) (Nat.le_of_ble_eq_true rfl) wr_9_182 rfl ?_
      refine G_goto 39 dr_cX17_setOf_35 (by decide +kernel) ?_
      exact G_iretA dr_cX17_setOf_39 rfl (Nat.le_of_ble_eq_true rfl) (Nat.le_of_ble_eq_true rfl) ⟨p222458, rfl, rfl, (Nat.le_of_ble_eq_true rfl), (Nat.le_of_ble_eq_true rfl), (gB_w bp222458 (by decide) (by decide)), (by omega), (fun R c1 c2 c3 c4 => c2 o222472 r222466 bo222472 ht222474 r222477)⟩
  · have r222478 : p222456.toInt ≠ 0 := gj_neq hc222465 (show Int32.toInt 0 = 0 by decide)
    have bp222456' : gB p222456 1 1 := ⟨by omega, by omega⟩
    refine G_aload_n 0 dr_cX17_setOf_4 rfl ?_
    refine Gp_get 0 hmq222455 heq222455 dr_cX17_setOf_5 (gk_X15 D I) (Nat.le_of_ble_eq_true rfl) wr_9_177 rfl ?_
    refine G_bipush 23 dr_cX17_setOf_8 (by decide +kernel) ?_
    refine G_icmp_ne 20 dr_cX17_setOf_10 (by decide +kernel) (fun hc222479 => ?_) (fun hc222479 => ?_)
    · have r222480 : p222457.toInt ≠ 23 := gj_neq hc222479 (show Int32.toInt 23 = 23 by decide)
      refine G_iconst (-1) dr_cX17_setOf_20 (by decide +kernel) ?_
      refine G_goto 39 dr_cX17_setOf_21 (by decide +kernel) ?_
      exact G_iretA dr_cX17_setOf_39 rfl (Nat.le_of_ble_eq_true rfl) (Nat.le_of_ble_eq_true rfl) ⟨(-1), rfl, rfl, (Nat.le_of_ble_eq_true rfl), (Nat.le_of_ble_eq_true rfl), (gB_w (gBl (show Int32.toInt (-1) = (-1) by decide)) (by decide) (by decide)), (by have qa0 : Int32.toInt (-1) = (-1) := (by decide); omega), (fun R c1 c2 c3 c4 => c3 r222478 r222480)⟩
    · have r222481 : p222457.toInt = 23 := gj_eq hc222479 (show Int32.toInt 23 = 23 by decide)
      have bp222457' : gB p222457 23 23 := ⟨by omega, by omega⟩
      refine G_aload_n 0 dr_cX17_setOf_13 rfl ?_
      refine Gp_get 4 hmq222455 heq222455 dr_cX17_setOf_14 (gk_X15 D I) (Nat.le_of_ble_eq_true rfl) wr_9_193 rfl ?_
      refine G_goto 39 dr_cX17_setOf_17 (by decide +kernel) ?_
      exact G_iretA dr_cX17_setOf_39 rfl (Nat.le_of_ble_eq_true rfl) (Nat.le_of_ble_eq_true rfl) ⟨p222461, rfl, rfl, (Nat.le_of_ble_eq_true rfl), (Nat.le_of_ble_eq_true rfl), (gB_w bp222461 (by decide) (by decide)), (by omega), (fun R c1 c2 c3 c4 => c4 r222478 r222481)⟩
/- tr_RModel_back2: F -/
def tr_RModel_back2 (D : va_G) (I : FieldType → ClassId) (γ el : Nat → Nat → Nat) (P : List Nat) (F : Nat → va_E) (q0 : Nat) (q1 : Nat) (a2 : Int32) (o1 : Nat → va_E) : Prop := ∀ R : (Nat → va_E) → Prop,
  (∀ (x1 : Int32) (x2 : Int32) (x3 : Int32) (x4 : Int32) (x5 : Int32) (x6 : Int32) (x7 : Int32) (x8 : Int32), fI (F q1) 0 = x1 → fI (F q1) 1 = x2 → fI (F q1) 4 = x3 → gB x4 (-1) 1999 → tr_RModel_setOf2 a2 x1 x2 x3 x4 → x4.toInt < 0 → a2.toInt = 0 → fI (F q1) 5 = x5 → gB x6 0 1 → tr_RRow_usesA2 x1 x5 x6 → x6.toInt = 0 → fI (F q1) 6 = x7 → gB x8 0 1 → tr_RRow_usesB2 x1 x7 x8 → x8.toInt = 0 → R F) →
  (∀ (x1 : Int32) (x2 : Int32) (x3 : Int32) (x4 : Int32) (x5 : Int32) (x6 : Int32) (x7 : Int32) (x8 : Int32) (x9 : Int32) (x10 : Nat → Int64) (x11 : Nat → Int64) (x12 : Nat → va_E), fI (F q1) 0 = x1 → fI (F q1) 1 = x2 → fI (F q1) 4 = x3 → gB x4 (-1) 1999 → tr_RModel_setOf2 a2 x1 x2 x3 x4 → x4.toInt < 0 → a2.toInt = 0 → fI (F q1) 5 = x5 → gB x6 0 1 → tr_RRow_usesA2 x1 x5 x6 → x6.toInt = 0 → fI (F q1) 6 = x7 → gB x8 0 1 → tr_RRow_usesB2 x1 x7 x8 → x8.toInt ≠ 0 → fR (F q0) 2 = (γ 9 2) → fI (F q1) 3 = x9 → F (γ 9 2) = .inl (I .long, 32, .inr (.inl x10)) → tr_RModel_set2 x9 x10 x11 → rFr [(γ 9 2)] P F x12 → x12 (γ 9 2) = .inl (I .long, 32, .inr (.inl x11)) → RS D I P x12 γ el → R x12) →
  (∀ (x1 : Int32) (x2 : Int32) (x3 : Int32) (x4 : Int32) (x5 : Int32) (x6 : Int32) (x7 : Int32) (x8 : Nat → Int64) (x9 : Nat → Int64) (x10 : Nat → va_E) (x11 : Int32) (x12 : Int32), fI (F q1) 0 = x1 → fI (F q1) 1 = x2 → fI (F q1) 4 = x3 → gB x4 (-1) 1999 → tr_RModel_setOf2 a2 x1 x2 x3 x4 → x4.toInt < 0 → a2.toInt = 0 → fI (F q1) 5 = x5 → gB x6 0 1 → tr_RRow_usesA2 x1 x5 x6 → x6.toInt ≠ 0 → fR (F q0) 2 = (γ 9 2) → fI (F q1) 2 = x7 → F (γ 9 2) = .inl (I .long, 32, .inr (.inl x8)) → tr_RModel_set2 x7 x8 x9 → rFr [(γ 9 2)] P F x10 → x10 (γ 9 2) = .inl (I .long, 32, .inr (.inl x9)) → RS D I P x10 γ el → fI (x10 q1) 0 = x1 → fI (x10 q1) 6 = x11 → gB x12 0 1 → tr_RRow_usesB2 x1 x11 x12 → x12.toInt = 0 → R x10) →
  (∀ (x1 : Int32) (x2 : Int32) (x3 : Int32) (x4 : Int32) (x5 : Int32) (x6 : Int32) (x7 : Int32) (x8 : Nat → Int64) (x9 : Nat → Int64) (x10 : Nat → va_E) (x11 : Int32) (x12 : Int32) (x13 : Int32) (x14 : Nat → Int64) (x15 : Nat → va_E), fI (F q1) 0 = x1 → fI (F q1) 1 = x2 → fI (F q1) 4 = x3 → gB x4 (-1) 1999 → tr_RModel_setOf2 a2 x1 x2 x3 x4 → x4.toInt < 0 → a2.toInt = 0 → fI (F q1) 5 = x5 → gB x6 0 1 → tr_RRow_usesA2 x1 x5 x6 → x6.toInt ≠ 0 → fR (F q0) 2 = (γ 9 2) → fI (F q1) 2 = x7 → F (γ 9 2) = .inl (I .long, 32, .inr (.inl x8)) → tr_RModel_set2 x7 x8 x9 → rFr [(γ 9 2)] P F x10 → x10 (γ 9 2) = .inl (I .long, 32, .inr (.inl x9)) → RS D I P x10 γ el → fI (x10 q1) 0 = x1 → fI (x10 q1) 6 = x11 → gB x12 0 1 → tr_RRow_usesB2 x1 x11 x12 → x12.toInt ≠ 0 → fR (x10 q0) 2 = (γ 9 2) → fI (x10 q1) 3 = x13 → x10 (γ 9 2) = .inl (I .long, 32, .inr (.inl x9)) → tr_RModel_set2 x13 x9 x14 → rFr [(γ 9 2)] P x10 x15 → x15 (γ 9 2) = .inl (I .long, 32, .inr (.inl x14)) → RS D I P x15 γ el → R x15) →
  (∀ (x1 : Int32) (x2 : Int32) (x3 : Int32) (x4 : Int32), fI (F q1) 0 = x1 → fI (F q1) 1 = x2 → fI (F q1) 4 = x3 → gB x4 (-1) 1999 → tr_RModel_setOf2 a2 x1 x2 x3 x4 → x4.toInt < 0 → a2.toInt ≠ 0 → x1.toInt ≠ 21 → R F) →
  (∀ (x1 : Int32) (x2 : Int32) (x3 : Int32) (x4 : Int32) (x5 : Nat → Int64) (x6 : Nat → Int64) (x7 : Nat → va_E), fI (F q1) 0 = x1 → fI (F q1) 1 = x2 → fI (F q1) 4 = x3 → gB x4 (-1) 1999 → tr_RModel_setOf2 a2 x1 x2 x3 x4 → x4.toInt < 0 → a2.toInt ≠ 0 → x1.toInt = 21 → fR (F q0) 2 = (γ 9 2) → F (γ 9 2) = .inl (I .long, 32, .inr (.inl x5)) → tr_RModel_set2 x3 x5 x6 → rFr [(γ 9 2)] P F x7 → x7 (γ 9 2) = .inl (I .long, 32, .inr (.inl x6)) → RS D I P x7 γ el → R x7) →
  (∀ (x1 : Int32) (x2 : Int32) (x3 : Int32) (x4 : Int32) (x5 : Nat → Int64) (x6 : Nat → Int64) (x7 : Nat → va_E) (x8 : Int32) (x9 : Int32) (x10 : Int32) (x11 : Int32), fI (F q1) 0 = x1 → fI (F q1) 1 = x2 → fI (F q1) 4 = x3 → gB x4 (-1) 1999 → tr_RModel_setOf2 a2 x1 x2 x3 x4 → 0 ≤ x4.toInt → fR (F q0) 2 = (γ 9 2) → F (γ 9 2) = .inl (I .long, 32, .inr (.inl x5)) → tr_RModel_clear2 x4 x5 x6 → rFr [(γ 9 2)] P F x7 → x7 (γ 9 2) = .inl (I .long, 32, .inr (.inl x6)) → RS D I P x7 γ el → a2.toInt = 0 → fI (x7 q1) 0 = x1 → fI (x7 q1) 5 = x8 → gB x9 0 1 → tr_RRow_usesA2 x1 x8 x9 → x9.toInt = 0 → fI (x7 q1) 6 = x10 → gB x11 0 1 → tr_RRow_usesB2 x1 x10 x11 → x11.toInt = 0 → R x7) →
  (∀ (x1 : Int32) (x2 : Int32) (x3 : Int32) (x4 : Int32) (x5 : Nat → Int64) (x6 : Nat → Int64) (x7 : Nat → va_E) (x8 : Int32) (x9 : Int32) (x10 : Int32) (x11 : Int32) (x12 : Int32) (x13 : Nat → Int64) (x14 : Nat → va_E), fI (F q1) 0 = x1 → fI (F q1) 1 = x2 → fI (F q1) 4 = x3 → gB x4 (-1) 1999 → tr_RModel_setOf2 a2 x1 x2 x3 x4 → 0 ≤ x4.toInt → fR (F q0) 2 = (γ 9 2) → F (γ 9 2) = .inl (I .long, 32, .inr (.inl x5)) → tr_RModel_clear2 x4 x5 x6 → rFr [(γ 9 2)] P F x7 → x7 (γ 9 2) = .inl (I .long, 32, .inr (.inl x6)) → RS D I P x7 γ el → a2.toInt = 0 → fI (x7 q1) 0 = x1 → fI (x7 q1) 5 = x8 → gB x9 0 1 → tr_RRow_usesA2 x1 x8 x9 → x9.toInt = 0 → fI (x7 q1) 6 = x10 → gB x11 0 1 → tr_RRow_usesB2 x1 x10 x11 → x11.toInt ≠ 0 → fR (x7 q0) 2 = (γ 9 2) → fI (x7 q1) 3 = x12 → x7 (γ 9 2) = .inl (I .long, 32, .inr (.inl x6)) → tr_RModel_set2 x12 x6 x13 → rFr [(γ 9 2)] P x7 x14 → x14 (γ 9 2) = .inl (I .long, 32, .inr (.inl x13)) → RS D I P x14 γ el → R x14) →
  (∀ (x1 : Int32) (x2 : Int32) (x3 : Int32) (x4 : Int32) (x5 : Nat → Int64) (x6 : Nat → Int64) (x7 : Nat → va_E) (x8 : Int32) (x9 : Int32) (x10 : Int32) (x11 : Nat → Int64) (x12 : Nat → va_E) (x13 : Int32) (x14 : Int32), fI (F q1) 0 = x1 → fI (F q1) 1 = x2 → fI (F q1) 4 = x3 → gB x4 (-1) 1999 → tr_RModel_setOf2 a2 x1 x2 x3 x4 → 0 ≤ x4.toInt → fR (F q0) 2 = (γ 9 2) → F (γ 9 2) = .inl (I .long, 32, .inr (.inl x5)) → tr_RModel_clear2 x4 x5 x6 → rFr [(γ 9 2)] P F x7 → x7 (γ 9 2) = .inl (I .long, 32, .inr (.inl x6)) → RS D I P x7 γ el → a2.toInt = 0 → fI (x7 q1) 0 = x1 → fI (x7 q1) 5 = x8 → gB x9 0 1 → tr_RRow_usesA2 x1 x8 x9 → x9.toInt ≠ 0 → fR (x7 q0) 2 = (γ 9 2) → fI (x7 q1) 2 = x10 → x7 (γ 9 2) = .inl (I .long, 32, .inr (.inl x6)) → tr_RModel_set2 x10 x6 x11 → rFr [(γ 9 2)] P x7 x12 → x12 (γ 9 2) = .inl (I .long, 32, .inr (.inl x11)) → RS D I P x12 γ el → fI (x12 q1) 0 = x1 → fI (x12 q1) 6 = x13 → gB x14 0 1 → tr_RRow_usesB2 x1 x13 x14 → x14.toInt = 0 → R x12) →
  (∀ (x1 : Int32) (x2 : Int32) (x3 : Int32) (x4 : Int32) (x5 : Nat → Int64) (x6 : Nat → Int64) (x7 : Nat → va_E) (x8 : Int32) (x9 : Int32) (x10 : Int32) (x11 : Nat → Int64) (x12 : Nat → va_E) (x13 : Int32) (x14 : Int32) (x15 : Int32) (x16 : Nat → Int64) (x17 : Nat → va_E), fI (F q1) 0 = x1 → fI (F q1) 1 = x2 → fI (F q1) 4 = x3 → gB x4 (-1) 1999 → tr_RModel_setOf2 a2 x1 x2 x3 x4 → 0 ≤ x4.toInt → fR (F q0) 2 = (γ 9 2) → F (γ 9 2) = .inl (I .long, 32, .inr (.inl x5)) → tr_RModel_clear2 x4 x5 x6 → rFr [(γ 9 2)] P F x7 → x7 (γ 9 2) = .inl (I .long, 32, .inr (.inl x6)) → RS D I P x7 γ el → a2.toInt = 0 → fI (x7 q1) 0 = x1 → fI (x7 q1) 5 = x8 → gB x9 0 1 → tr_RRow_usesA2 x1 x8 x9 → x9.toInt ≠ 0 → fR (x7 q0) 2 = (γ 9 2) → fI (x7 q1) 2 = x10 → x7 (γ 9 2) = .inl (I .long, 32, .inr (.inl x6)) → tr_RModel_set2 x10 x6 x11 → rFr [(γ 9 2)] P x7 x12 → x12 (γ 9 2) = .inl (I .long, 32, .inr (.inl x11)) → RS D I P x12 γ el → fI (x12 q1) 0 = x1 → fI (x12 q1) 6 = x13 → gB x14 0 1 → tr_RRow_usesB2 x1 x13 x14 → x14.toInt ≠ 0 → fR (x12 q0) 2 = (γ 9 2) → fI (x12 q1) 3 = x15 → x12 (γ 9 2) = .inl (I .long, 32, .inr (.inl x11)) → tr_RModel_set2 x15 x11 x16 → rFr [(γ 9 2)] P x12 x17 → x17 (γ 9 2) = .inl (I .long, 32, .inr (.inl x16)) → RS D I P x17 γ el → R x17) →
  (∀ (x1 : Int32) (x2 : Int32) (x3 : Int32) (x4 : Int32) (x5 : Nat → Int64) (x6 : Nat → Int64) (x7 : Nat → va_E), fI (F q1) 0 = x1 → fI (F q1) 1 = x2 → fI (F q1) 4 = x3 → gB x4 (-1) 1999 → tr_RModel_setOf2 a2 x1 x2 x3 x4 → 0 ≤ x4.toInt → fR (F q0) 2 = (γ 9 2) → F (γ 9 2) = .inl (I .long, 32, .inr (.inl x5)) → tr_RModel_clear2 x4 x5 x6 → rFr [(γ 9 2)] P F x7 → x7 (γ 9 2) = .inl (I .long, 32, .inr (.inl x6)) → RS D I P x7 γ el → a2.toInt ≠ 0 → fI (x7 q1) 0 = x1 → x1.toInt ≠ 21 → R x7) →
  (∀ (x1 : Int32) (x2 : Int32) (x3 : Int32) (x4 : Int32) (x5 : Nat → Int64) (x6 : Nat → Int64) (x7 : Nat → va_E) (x8 : Nat → Int64) (x9 : Nat → va_E), fI (F q1) 0 = x1 → fI (F q1) 1 = x2 → fI (F q1) 4 = x3 → gB x4 (-1) 1999 → tr_RModel_setOf2 a2 x1 x2 x3 x4 → 0 ≤ x4.toInt → fR (F q0) 2 = (γ 9 2) → F (γ 9 2) = .inl (I .long, 32, .inr (.inl x5)) → tr_RModel_clear2 x4 x5 x6 → rFr [(γ 9 2)] P F x7 → x7 (γ 9 2) = .inl (I .long, 32, .inr (.inl x6)) → RS D I P x7 γ el → a2.toInt ≠ 0 → fI (x7 q1) 0 = x1 → x1.toInt = 21 → fR (x7 q0) 2 = (γ 9 2) → fI (x7 q1) 4 = x3 → x7 (γ 9 2) = .inl (I .long, 32, .inr (.inl x6)) → tr_RModel_set2 x3 x6 x8 → rFr [(γ 9 2)] P x7 x9 → x9 (γ 9 2) = .inl (I .long, 32, .inr (.inl x8)) → RS D I P x9 γ el → R x9) →
  R o1
abbrev ky_222488_SpillForgeModel_back : gKey := (cX17_back, 4, "SpillForgeModel", none, [], "back", fun _ _ => True)
def pt_222488_SpillForgeModel_back (D : va_G) (I : FieldType → ClassId) (γ el : Nat → Nat → Nat) (P222483 : List Nat) (F222484 : Nat → va_E) (q222485 : Nat) (q222486 : Nat) (p222487 : Int32) : Option Value → va_W → Nat → Nat → Prop := fun r w dc ds => ∃ (F222851 : Nat → va_E), r = none ∧ w = va_pl P222483 F222851 ∧ RS D I P222483 F222851 γ el ∧ rStr γ [] F222484 F222851 ∧ dc ≤ 0 ∧ ds ≤ 0 ∧ (∀ k : Nat, rbt (cL (F222851 (γ 9 2))) k = bkS (F222484 q222486) (decide (p222487.toInt = 1)) (rbt (cL (F222484 (γ 9 2)))) k) ∧ rLv γ F222484 F222851 ∧ (F222851 q222485 = F222484 q222485) ∧ tr_RModel_back2 D I γ el P222483 F222484 q222485 q222486 p222487 F222851
set_option maxRecDepth 100000 in
set_option maxHeartbeats 4000000 in
theorem ct_222488_SpillForgeModel_back (l : Launch) (hl0 : l.stackTraces = false) (D : va_G) (I : FieldType → ClassId) (γ el : Nat → Nat → Nat) (P222483 : List Nat) (F222484 : Nat → va_E) (q222485 : Nat) (q222486 : Nat) (p222487 : Int32) (hT : RS D I P222483 F222484 γ el) (htq222485 : rKd γ q222485 10) (htq222486 : rKd γ q222486 1) (bp222487 : gB p222487 0 1) : CtA (gV D I) l yX17_back cX17_back 4 none 2 41 0 0 [.ref q222485, .ref q222486, .int p222487] (va_pl P222483 F222484) (pt_222488_SpillForgeModel_back D I γ el P222483 F222484 q222485 q222486 p222487) gNA := by
  refine CtA_of hl0 (by decide) (Nat.le_of_ble_eq_true rfl) ?_
  have hm222489 : q222485 ∈ P222483 := RS_m hT htq222485 (by decide)
  obtain ⟨q222491, q222492, p222493, p222494, p222495, p222496, p222497, p222498, p222499, p222500, p222501, p222502, p222503, p222504, p222505, p222506, p222507, he222490, hB222534, ht222508, ht222509, ht222510, ht222511, ht222512, ht222513, ht222514, ht222515, ht222516, ht222517, ht222518, ht222519, ht222520, ht222521, ht222522, ht222523, ht222524, ht222525, ht222526, ht222527, ht222528, ht222529, ht222530, ht222531, hB222535⟩ := show rk_10 γ (F222484 q222485) from RS_o hT htq222485
  have hm222536 : (γ 9 2) ∈ P222483 := RS_m hT ht222512 (by decide)
  obtain ⟨f222538, he222537, wf222538⟩ := show rk_35 I (F222484 (γ 9 2)) from RS_o hT ht222512
  have hm222539 : q222486 ∈ P222483 := RS_m hT htq222486 (by decide)
  obtain ⟨p222541, p222542, p222543, p222544, p222545, p222546, p222547, he222540, bp222541, bp222542, bp222545, bp222546, bp222547, r222548, r222549, r222550, r222551, r222552⟩ := show rk_1 γ q222486 (F222484 q222486) from RS_o hT htq222486
  have bp222543 := gB_any p222543
  have bp222544 := gB_any p222544
  refine G_aload_n 1 dr_cX17_back_0 rfl ?_
  refine G_iload_n 2 dr_cX17_back_1 rfl ?_
  have fq222553 : fI (F222484 q222486) 0 = p222541 := by rw [he222540]; rfl
  have fq222554 : fI (F222484 q222486) 1 = p222542 := by rw [he222540]; rfl
  have fq222555 : fI (F222484 q222486) 4 = p222545 := by rw [he222540]; rfl
  refine Gw_callS (As := [.ref q222486, .int p222487]) (gV_ok D I) (cp_222464_SpillForgeModel_setOf l hl0 D I P222483 F222484 q222486 p222487 p222541 p222542 p222543 p222544 p222545 p222546 p222547 hm222539 he222540 bp222487 bp222541 bp222542 bp222545 bp222546 bp222547) dr_cX17_back_2 ⟨wr_10_178, wr_1_14, wr_10_180, by decide, rfl, (Nat.le_of_ble_eq_true rfl), (Nat.le_of_ble_eq_true rfl)⟩ wr_10_179 (show 0 + 0 ≤ 0 by first | omega | decide) (show 0 + 0 ≤ 0 by first | omega | decide) (Nat.le_of_ble_eq_true rfl) (fun r222559 w222560 dc222556 ds222557 hp222558 => ?_) (fun _ _ _ _ _ z => z.elim)
  obtain ⟨o222561, rfl, rfl, hdc, hds, bo222561, x222562, ht222563⟩ := hp222558
  change G _ _ _ _ _ _ _ (.int o222561 :: _) _ _ _
  refine G_widen (cs' := 0) (sl' := 0) (by omega) (by omega) ?_
  refine G_istore_n (L' := [(3, .int o222561), (0, .ref q222485), (1, .ref q222486), (2, .int p222487)]) dr_cX17_back_5 (Nat.le_of_ble_eq_true rfl) rfl ?_
  refine G_iload_n 0 dr_cX17_back_6 rfl ?_
  refine G_if_lt 18 dr_cX17_back_7 (by decide +kernel) (fun hc222564 => ?_) (fun hc222564 => ?_)
  · have r222565 : o222561.toInt < 0 := gj_lt hc222564 (show Int32.toInt 0 = 0 by decide)
    have bo222561' : gB o222561 (-1) (-1) := ⟨by omega, by omega⟩
    refine G_iload_n 3 dr_cX17_back_18 rfl ?_
    refine G_if_eq 43 dr_cX17_back_19 (by decide +kernel) (fun hc222566 => ?_) (fun hc222566 => ?_)
    · have r222567 : p222487.toInt = 0 := gj_eq hc222566 (show Int32.toInt 0 = 0 by decide)
      have bp222487' : gB p222487 0 0 := ⟨by omega, by omega⟩
      refine G_aload_n 2 dr_cX17_back_43 rfl ?_
      have fq222568 : fI (F222484 q222486) 5 = p222546 := by rw [he222540]; rfl
      refine Gw_callV (As := []) (gV_ok D I) (cp_222403_Row_usesA l hl0 D I P222483 F222484 q222486 p222541 p222542 p222543 p222544 p222545 p222546 p222547 hm222539 he222540 bp222541 bp222542 bp222545 bp222546 bp222547) dr_cX17_back_44 ⟨wr_10_192, wr_1_39, wr_10_195, by decide, rfl, (Nat.le_of_ble_eq_true rfl), (Nat.le_of_ble_eq_true rfl)⟩ wr_10_193 wr_10_194 hm222539 he222540 rfl (show 0 + 0 ≤ 0 by first | omega | decide) (show 0 + 0 ≤ 0 by first | omega | decide) (Nat.le_of_ble_eq_true rfl) (fun r222572 w222573 dc222569 ds222570 hp222571 => ?_) (fun _ _ _ _ _ z => z.elim)
      obtain ⟨o222574, rfl, rfl, hdc, hds, bo222574, x222575, ht222576⟩ := hp222571
      change G _ _ _ _ _ _ _ (.int o222574 :: _) _ _ _
      refine G_widen (cs' := 0) (sl' := 0) (by omega) (by omega) ?_
      refine G_if_eq 61 dr_cX17_back_47 (by decide +kernel) (fun hc222577 => ?_) (fun hc222577 => ?_)
      · have r222578 : o222574.toInt = 0 := gj_eq hc222577 (show Int32.toInt 0 = 0 by decide)
        have bo222574' : gB o222574 0 0 := ⟨by omega, by omega⟩
        refine G_aload_n 2 dr_cX17_back_61 rfl ?_
        have fq222579 : fI (F222484 q222486) 6 = p222547 := by rw [he222540]; rfl
        refine Gw_callV (As := []) (gV_ok D I) (cp_222427_Row_usesB l hl0 D I P222483 F222484 q222486 p222541 p222542 p222543 p222544 p222545 p222546 p222547 hm222539 he222540 bp222541 bp222542 bp222545 bp222546 bp222547) dr_cX17_back_62 ⟨wr_10_196, wr_1_39, wr_10_199, by decide, rfl, (Nat.le_of_ble_eq_true rfl), (Nat.le_of_ble_eq_true rfl)⟩ wr_10_197 wr_10_198 hm222539 he222540 rfl (show 0 + 0 ≤ 0 by first | omega | decide) (show 0 + 0 ≤ 0 by first | omega | decide) (Nat.le_of_ble_eq_true rfl) (fun r222583 w222584 dc222580 ds222581 hp222582 => ?_) (fun _ _ _ _ _ z => z.elim)
        obtain ⟨o222585, rfl, rfl, hdc, hds, bo222585, x222586, ht222587⟩ := hp222582
        change G _ _ _ _ _ _ _ (.int o222585 :: _) _ _ _
        refine G_widen (cs' := 0) (sl' := 0) (by omega) (by omega) ?_
        refine G_if_eq 79 dr_cX17_back_65 (by decide +kernel) (fun hc222588 => ?_) (fun hc222588 => ?_)
        · have r222589 : o222585.toInt = 0 := gj_eq hc222588 (show Int32.toInt 0 = 0 by decide)
          have bo222585' : gB o222585 0 0 := ⟨by omega, by omega⟩
          exact G_vretA dr_cX17_back_79 rfl (Nat.le_of_ble_eq_true rfl) (Nat.le_of_ble_eq_true rfl) ⟨F222484, rfl, rfl, hT, (rStr_rf (γ := γ) (W := []) (F := F222484)), (Nat.le_of_ble_eq_true rfl), (Nat.le_of_ble_eq_true rfl), (fun k => by rw [cL_of he222537, bkS_of he222540, (decide_eq_false (show ¬ (p222487.toInt = 1) by omega))]; exact bk_n false false false (decide_eq_false (show ¬ (p222541.toInt ≤ 21) by omega)) (decide_eq_false (show ¬ (p222541.toInt ≠ 20 ∧ p222541.toInt ≠ 21 ∧ p222541.toInt ≠ 30 ∧ p222546.toInt = 1) by omega)) (decide_eq_false (show ¬ (0 < p222541.toInt ∧ p222541.toInt < 20 ∧ p222547.toInt = 1) by omega)) (by simp)), (rLv_rf (γ := γ) (F := F222484)), rfl, (fun R c1 c2 c3 c4 c5 c6 c7 c8 c9 c10 c11 c12 => c1 p222541 p222542 p222545 o222561 p222546 o222574 p222547 o222585 fq222553 fq222554 fq222555 bo222561 ht222563 r222565 r222567 fq222568 bo222574 ht222576 r222578 fq222579 bo222585 ht222587 r222589)⟩
        · have r222590 : o222585.toInt ≠ 0 := gj_neq hc222588 (show Int32.toInt 0 = 0 by decide)
          have bo222585' : gB o222585 1 1 := ⟨by omega, by omega⟩
          refine G_aload_n 1 dr_cX17_back_68 rfl ?_
          have fq222591 : fR (F222484 q222485) 2 = (γ 9 2) := by rw [he222490]; rfl
          refine Gp_get 2 hm222489 he222490 dr_cX17_back_69 (gk_X17 D I) (Nat.le_of_ble_eq_true rfl) wr_7_76 rfl ?_
          refine G_aload_n 2 dr_cX17_back_72 rfl ?_
          have fq222592 : fI (F222484 q222486) 3 = p222544 := by rw [he222540]; rfl
          refine Gp_get 3 hm222539 he222540 dr_cX17_back_73 (gk_X15 D I) (Nat.le_of_ble_eq_true rfl) wr_9_190 rfl ?_
          refine Gw_callS (As := [.ref (γ 9 2), .int p222544]) (gV_ok D I) (cp_222358_SpillForgeModel_set l hl0 D I P222483 F222484 (γ 9 2) p222544 f222538 hm222536 he222537 ⟨by omega, by omega⟩ wf222538) dr_cX17_back_76 ⟨wr_10_189, wr_1_14, wr_10_191, by decide, rfl, (Nat.le_of_ble_eq_true rfl), (Nat.le_of_ble_eq_true rfl)⟩ wr_10_190 (show 0 + 0 ≤ 0 by first | omega | decide) (show 0 + 0 ≤ 0 by first | omega | decide) (Nat.le_of_ble_eq_true rfl) (fun r222596 w222597 dc222593 ds222594 hp222595 => ?_) (fun _ _ _ _ _ z => z.elim)
          obtain ⟨F222602, f222598, rfl, rfl, hfr222604, he222605, hdc, hds, x222599, x222600, ht222601⟩ := hp222595
          have he222606 : F222602 q222485 = .inr (22, [.ref (γ 9 0), .ref (γ 9 1), .ref (γ 9 2), .ref (γ 9 3), .ref (γ 9 4), .ref (γ 9 5), .ref (γ 9 6), .ref (γ 9 7), .ref (γ 9 8), .int p222493, .int p222494, .int p222495, .int p222496, .int p222497, .int p222498, .ref (γ 9 15), .ref (γ 9 16), .ref (γ 9 17), .ref (γ 9 18), .ref (γ 9 19), .ref (γ 9 20), .ref (γ 9 21), .ref (γ 9 22), .int p222499, .int p222500, .int p222501, .int p222502, .int p222503, .ref q222491, .ref (γ 9 29), .int p222504, .ref (γ 9 31), .int p222505, .int p222506, .int p222507, .ref q222492]) := (hfr222604 q222485 hm222489 (nm_c (rn_oa he222490 he222537) nm_n)).trans he222490
          have he222607 : F222602 q222486 = .inr (20, [.int p222541, .int p222542, .int p222543, .int p222544, .int p222545, .int p222546, .int p222547]) := (hfr222604 q222486 hm222539 (nm_c (rn_oa he222540 he222537) nm_n)).trans he222540
          have hfr222608 : rFr [(γ 9 2)] P222483 F222484 F222602 := rFr_call (rSub_rf (P := P222483)) (rFr_rf (W := []) (P := P222483) (F := F222484)) hfr222604 (fun b hb hn => ⟨nm_n, (nm_c (fun e => hn (e ▸ List.mem_cons_self)) nm_n)⟩)
          change G _ _ _ _ _ _ _ _ _ _ _
          refine G_widen (cs' := 0) (sl' := 0) (by omega) (by omega) ?_
          have hT222609 : RS D I P222483 F222602 γ el := RS_fr hT hfr222608 ht222512 (by decide) ⟨f222598, he222605, x222599⟩
          have hs222610 : rStr γ [] F222484 F222602 := rStr_fr hT (rStr_rf (γ := γ) (W := []) (F := F222484)) hfr222608 ht222512 (by decide)
          have lv222611 : rLv γ F222484 F222602 := rLv_fr hT ht222510 (rLv_rf (γ := γ) (F := F222484)) hfr222608 ht222512 (by decide)
          have kp222612 : F222602 q222485 = F222484 q222485 := hfr222608 q222485 (RS_m hT htq222485 (by decide)) (nm_c (rn_ty htq222485 ht222512 (by decide)) nm_n)
          exact G_vretA dr_cX17_back_79 rfl (Nat.le_of_ble_eq_true rfl) (Nat.le_of_ble_eq_true rfl) ⟨F222602, rfl, rfl, hT222609, hs222610, (Nat.le_of_ble_eq_true rfl), (Nat.le_of_ble_eq_true rfl), (fun k => by rw [cL_of he222605, cL_of he222537, bkS_of he222540, (decide_eq_false (show ¬ (p222487.toInt = 1) by omega))]; exact bk_n false false true (decide_eq_false (show ¬ (p222541.toInt ≤ 21) by omega)) (decide_eq_false (show ¬ (p222541.toInt ≠ 20 ∧ p222541.toInt ≠ 21 ∧ p222541.toInt ≠ 30 ∧ p222546.toInt = 1) by omega)) (decide_eq_true (show (0 < p222541.toInt ∧ p222541.toInt < 20 ∧ p222547.toInt = 1) by omega)) (by rw [x222600 k]; simp)), lv222611, kp222612, (fun R c1 c2 c3 c4 c5 c6 c7 c8 c9 c10 c11 c12 => c2 p222541 p222542 p222545 o222561 p222546 o222574 p222547 o222585 p222544 f222538 f222598 F222602 fq222553 fq222554 fq222555 bo222561 ht222563 r222565 r222567 fq222568 bo222574 ht222576 r222578 fq222579 bo222585 ht222587 r222590 fq222591 fq222592 he222537 ht222601 hfr222608 he222605 hT222609)⟩
      · have r222613 : o222574.toInt ≠ 0 := gj_neq hc222577 (show Int32.toInt 0 = 0 by decide)
        have bo222574' : gB o222574 1 1 := ⟨by omega, by omega⟩
        refine G_aload_n 1 dr_cX17_back_50 rfl ?_
        have fq222614 : fR (F222484 q222485) 2 = (γ 9 2) := by rw [he222490]; rfl
        refine Gp_get 2 hm222489 he222490 dr_cX17_back_51 (gk_X17 D I) (Nat.le_of_ble_eq_true rfl) wr_7_76 rfl ?_
        refine G_aload_n 2 dr_cX17_back_54 rfl ?_
        have fq222615 : fI (F222484 q222486) 2 = p222543 := by rw [he222540]; rfl
        refine Gp_get 2 hm222539 he222540 dr_cX17_back_55 (gk_X15 D I) (Nat.le_of_ble_eq_true rfl) wr_9_186 rfl ?_
        refine Gw_callS (As := [.ref (γ 9 2), .int p222543]) (gV_ok D I) (cp_222358_SpillForgeModel_set l hl0 D I P222483 F222484 (γ 9 2) p222543 f222538 hm222536 he222537 ⟨by omega, by omega⟩ wf222538) dr_cX17_back_58 ⟨wr_10_189, wr_1_14, wr_10_191, by decide, rfl, (Nat.le_of_ble_eq_true rfl), (Nat.le_of_ble_eq_true rfl)⟩ wr_10_190 (show 0 + 0 ≤ 0 by first | omega | decide) (show 0 + 0 ≤ 0 by first | omega | decide) (Nat.le_of_ble_eq_true rfl) (fun r222619 w222620 dc222616 ds222617 hp222618 => ?_) (fun _ _ _ _ _ z => z.elim)
        obtain ⟨F222625, f222621, rfl, rfl, hfr222627, he222628, hdc, hds, x222622, x222623, ht222624⟩ := hp222618
        have he222629 : F222625 q222485 = .inr (22, [.ref (γ 9 0), .ref (γ 9 1), .ref (γ 9 2), .ref (γ 9 3), .ref (γ 9 4), .ref (γ 9 5), .ref (γ 9 6), .ref (γ 9 7), .ref (γ 9 8), .int p222493, .int p222494, .int p222495, .int p222496, .int p222497, .int p222498, .ref (γ 9 15), .ref (γ 9 16), .ref (γ 9 17), .ref (γ 9 18), .ref (γ 9 19), .ref (γ 9 20), .ref (γ 9 21), .ref (γ 9 22), .int p222499, .int p222500, .int p222501, .int p222502, .int p222503, .ref q222491, .ref (γ 9 29), .int p222504, .ref (γ 9 31), .int p222505, .int p222506, .int p222507, .ref q222492]) := (hfr222627 q222485 hm222489 (nm_c (rn_oa he222490 he222537) nm_n)).trans he222490
        have he222630 : F222625 q222486 = .inr (20, [.int p222541, .int p222542, .int p222543, .int p222544, .int p222545, .int p222546, .int p222547]) := (hfr222627 q222486 hm222539 (nm_c (rn_oa he222540 he222537) nm_n)).trans he222540
        have hfr222631 : rFr [(γ 9 2)] P222483 F222484 F222625 := rFr_call (rSub_rf (P := P222483)) (rFr_rf (W := []) (P := P222483) (F := F222484)) hfr222627 (fun b hb hn => ⟨nm_n, (nm_c (fun e => hn (e ▸ List.mem_cons_self)) nm_n)⟩)
        change G _ _ _ _ _ _ _ _ _ _ _
        refine G_widen (cs' := 0) (sl' := 0) (by omega) (by omega) ?_
        have hT222632 : RS D I P222483 F222625 γ el := RS_fr hT hfr222631 ht222512 (by decide) ⟨f222621, he222628, x222622⟩
        have hs222633 : rStr γ [] F222484 F222625 := rStr_fr hT (rStr_rf (γ := γ) (W := []) (F := F222484)) hfr222631 ht222512 (by decide)
        have lv222634 : rLv γ F222484 F222625 := rLv_fr hT ht222510 (rLv_rf (γ := γ) (F := F222484)) hfr222631 ht222512 (by decide)
        have kp222635 : F222625 q222485 = F222484 q222485 := hfr222631 q222485 (RS_m hT htq222485 (by decide)) (nm_c (rn_ty htq222485 ht222512 (by decide)) nm_n)
        refine G_aload_n 2 dr_cX17_back_61 rfl ?_
        have fq222636 : fI (F222625 q222486) 0 = p222541 := by rw [he222630]; rfl
        have fq222637 : fI (F222625 q222486) 6 = p222547 := by rw [he222630]; rfl
        refine Gw_callV (As := []) (gV_ok D I) (cp_222427_Row_usesB l hl0 D I P222483 F222625 q222486 p222541 p222542 p222543 p222544 p222545 p222546 p222547 hm222539 he222630 bp222541 bp222542 bp222545 bp222546 bp222547) dr_cX17_back_62 ⟨wr_10_196, wr_1_39, wr_10_199, by decide, rfl, (Nat.le_of_ble_eq_true rfl), (Nat.le_of_ble_eq_true rfl)⟩ wr_10_197 wr_10_198 hm222539 he222630 rfl (show 0 + 0 ≤ 0 by first | omega | decide) (show 0 + 0 ≤ 0 by first | omega | decide) (Nat.le_of_ble_eq_true rfl) (fun r222641 w222642 dc222638 ds222639 hp222640 => ?_) (fun _ _ _ _ _ z => z.elim)
        obtain ⟨o222643, rfl, rfl, hdc, hds, bo222643, x222644, ht222645⟩ := hp222640
        change G _ _ _ _ _ _ _ (.int o222643 :: _) _ _ _
        refine G_widen (cs' := 0) (sl' := 0) (by omega) (by omega) ?_
        refine G_if_eq 79 dr_cX17_back_65 (by decide +kernel) (fun hc222646 => ?_) (fun hc222646 => ?_)
        · have r222647 : o222643.toInt = 0 := gj_eq hc222646 (show Int32.toInt 0 = 0 by decide)
          have bo222643' : gB o222643 0 0 := ⟨by omega, by omega⟩
          exact G_vretA dr_cX17_back_79 rfl (Nat.le_of_ble_eq_true rfl) (Nat.le_of_ble_eq_true rfl) ⟨F222625, rfl, rfl, hT222632, hs222633, (Nat.le_of_ble_eq_true rfl), (Nat.le_of_ble_eq_true rfl), (fun k => by rw [cL_of he222628, cL_of he222537, bkS_of he222540, (decide_eq_false (show ¬ (p222487.toInt = 1) by omega))]; exact bk_n false true false (decide_eq_false (show ¬ (p222541.toInt ≤ 21) by omega)) (decide_eq_true (show (p222541.toInt ≠ 20 ∧ p222541.toInt ≠ 21 ∧ p222541.toInt ≠ 30 ∧ p222546.toInt = 1) by omega)) (decide_eq_false (show ¬ (0 < p222541.toInt ∧ p222541.toInt < 20 ∧ p222547.toInt = 1) by omega)) (by rw [x222623 k]; simp)), lv222634, kp222635, (fun R c1 c2 c3 c4 c5 c6 c7 c8 c9 c10 c11 c12 => c3 p222541 p222542 p222545 o222561 p222546 o222574 p222543 f222538 f222621 F222625 p222547 o222643 fq222553 fq222554 fq222555 bo222561 ht222563 r222565 r222567 fq222568 bo222574 ht222576 r222613 fq222614 fq222615 he222537 ht222624 hfr222631 he222628 hT222632 fq222636 fq222637 bo222643 ht222645 r222647)⟩
        · have r222648 : o222643.toInt ≠ 0 := gj_neq hc222646 (show Int32.toInt 0 = 0 by decide)
          have bo222643' : gB o222643 1 1 := ⟨by omega, by omega⟩
          refine G_aload_n 1 dr_cX17_back_68 rfl ?_
          have fq222649 : fR (F222625 q222485) 2 = (γ 9 2) := by rw [he222629]; rfl
          refine Gp_get 2 hm222489 he222629 dr_cX17_back_69 (gk_X17 D I) (Nat.le_of_ble_eq_true rfl) wr_7_76 rfl ?_
          refine G_aload_n 2 dr_cX17_back_72 rfl ?_
          have fq222650 : fI (F222625 q222486) 3 = p222544 := by rw [he222630]; rfl
          refine Gp_get 3 hm222539 he222630 dr_cX17_back_73 (gk_X15 D I) (Nat.le_of_ble_eq_true rfl) wr_9_190 rfl ?_
          refine Gw_callS (As := [.ref (γ 9 2), .int p222544]) (gV_ok D I) (cp_222358_SpillForgeModel_set l hl0 D I P222483 F222625 (γ 9 2) p222544 f222621 hm222536 he222628 ⟨by omega, by omega⟩ x222622) dr_cX17_back_76 ⟨wr_10_189, wr_1_14, wr_10_191, by decide, rfl, (Nat.le_of_ble_eq_true rfl), (Nat.le_of_ble_eq_true rfl)⟩ wr_10_190 (show 0 + 0 ≤ 0 by first | omega | decide) (show 0 + 0 ≤ 0 by first | omega | decide) (Nat.le_of_ble_eq_true rfl) (fun r222654 w222655 dc222651 ds222652 hp222653 => ?_) (fun _ _ _ _ _ z => z.elim)
          obtain ⟨F222660, f222656, rfl, rfl, hfr222662, he222663, hdc, hds, x222657, x222658, ht222659⟩ := hp222653
          have he222664 : F222660 q222485 = .inr (22, [.ref (γ 9 0), .ref (γ 9 1), .ref (γ 9 2), .ref (γ 9 3), .ref (γ 9 4), .ref (γ 9 5), .ref (γ 9 6), .ref (γ 9 7), .ref (γ 9 8), .int p222493, .int p222494, .int p222495, .int p222496, .int p222497, .int p222498, .ref (γ 9 15), .ref (γ 9 16), .ref (γ 9 17), .ref (γ 9 18), .ref (γ 9 19), .ref (γ 9 20), .ref (γ 9 21), .ref (γ 9 22), .int p222499, .int p222500, .int p222501, .int p222502, .int p222503, .ref q222491, .ref (γ 9 29), .int p222504, .ref (γ 9 31), .int p222505, .int p222506, .int p222507, .ref q222492]) := (hfr222662 q222485 hm222489 (nm_c (rn_oa he222629 he222628) nm_n)).trans he222629
          have he222665 : F222660 q222486 = .inr (20, [.int p222541, .int p222542, .int p222543, .int p222544, .int p222545, .int p222546, .int p222547]) := (hfr222662 q222486 hm222539 (nm_c (rn_oa he222630 he222628) nm_n)).trans he222630
          have hfr222666 : rFr [(γ 9 2)] P222483 F222625 F222660 := rFr_call (rSub_rf (P := P222483)) (rFr_rf (W := []) (P := P222483) (F := F222625)) hfr222662 (fun b hb hn => ⟨nm_n, (nm_c (fun e => hn (e ▸ List.mem_cons_self)) nm_n)⟩)
          change G _ _ _ _ _ _ _ _ _ _ _
          refine G_widen (cs' := 0) (sl' := 0) (by omega) (by omega) ?_
          have hT222667 : RS D I P222483 F222660 γ el := RS_fr hT222632 hfr222666 ht222512 (by decide) ⟨f222656, he222663, x222657⟩
          have hs222668 : rStr γ [] F222484 F222660 := rStr_fr hT222632 hs222633 hfr222666 ht222512 (by decide)
          have lv222669 : rLv γ F222484 F222660 := rLv_fr hT222632 ht222510 lv222634 hfr222666 ht222512 (by decide)
          have kp222670 : F222660 q222485 = F222484 q222485 := (hfr222666 q222485 (RS_m hT222632 htq222485 (by decide)) (nm_c (rn_ty htq222485 ht222512 (by decide)) nm_n)).trans kp222635
          exact G_vretA dr_cX17_back_79 rfl (Nat.le_of_ble_eq_true rfl) (Nat.le_of_ble_eq_true rfl) ⟨F222660, rfl, rfl, hT222667, hs222668, (Nat.le_of_ble_eq_true rfl), (Nat.le_of_ble_eq_true rfl), (fun k => by rw [cL_of he222663, cL_of he222537, bkS_of he222540, (decide_eq_false (show ¬ (p222487.toInt = 1) by omega))]; exact bk_n false true true (decide_eq_false (show ¬ (p222541.toInt ≤ 21) by omega)) (decide_eq_true (show (p222541.toInt ≠ 20 ∧ p222541.toInt ≠ 21 ∧ p222541.toInt ≠ 30 ∧ p222546.toInt = 1) by omega)) (decide_eq_true (show (0 < p222541.toInt ∧ p222541.toInt < 20 ∧ p222547.toInt = 1) by omega)) (by rw [x222658 k, x222623 k]; simp)), lv222669, kp222670, (fun R c1 c2 c3 c4 c5 c6 c7 c8 c9 c10 c11 c12 => c4 p222541 p222542 p222545 o222561 p222546 o222574 p222543 f222538 f222621 F222625 p222547 o222643 p222544 f222656 F222660 fq222553 fq222554 fq222555 bo222561 ht222563 r222565 r222567 fq222568 bo222574 ht222576 r222613 fq222614 fq222615 he222537 ht222624 hfr222631 he222628 hT222632 fq222636 fq222637 bo222643 ht222645 r222648 fq222649 fq222650 he222628 ht222659 hfr222666 he222663 hT222667)⟩
    · have r222671 : p222487.toInt ≠ 0 := gj_neq hc222566 (show Int32.toInt 0 = 0 by decide)
      have bp222487' : gB p222487 1 1 := ⟨by omega, by omega⟩
      refine G_aload_n 2 dr_cX17_back_22 rfl ?_
      refine Gp_get 0 hm222539 he222540 dr_cX17_back_23 (gk_X15 D I) (Nat.le_of_ble_eq_true rfl) wr_9_177 rfl ?_
      refine G_bipush 21 dr_cX17_back_26 (by decide +kernel) ?_
      refine G_icmp_ne 42 dr_cX17_back_28 (by decide +kernel) (fun hc222672 => ?_) (fun hc222672 => ?_)
      · have r222673 : p222541.toInt ≠ 21 := gj_neq hc222672 (show Int32.toInt 21 = 21 by decide)
        exact G_vretA dr_cX17_back_42 rfl (Nat.le_of_ble_eq_true rfl) (Nat.le_of_ble_eq_true rfl) ⟨F222484, rfl, rfl, hT, (rStr_rf (γ := γ) (W := []) (F := F222484)), (Nat.le_of_ble_eq_true rfl), (Nat.le_of_ble_eq_true rfl), (fun k => by rw [cL_of he222537, bkS_of he222540, (decide_eq_true (show (p222487.toInt = 1) by omega))]; exact bk_s false false (decide_eq_false (show ¬ (p222541.toInt = 23) by omega)) (decide_eq_false (show ¬ (p222541.toInt = 21) by omega)) (by simp)), (rLv_rf (γ := γ) (F := F222484)), rfl, (fun R c1 c2 c3 c4 c5 c6 c7 c8 c9 c10 c11 c12 => c5 p222541 p222542 p222545 o222561 fq222553 fq222554 fq222555 bo222561 ht222563 r222565 r222671 r222673)⟩
      · have r222674 : p222541.toInt = 21 := gj_eq hc222672 (show Int32.toInt 21 = 21 by decide)
        have bp222541' : gB p222541 21 21 := ⟨by omega, by omega⟩
        refine G_aload_n 1 dr_cX17_back_31 rfl ?_
        have fq222675 : fR (F222484 q222485) 2 = (γ 9 2) := by rw [he222490]; rfl
        refine Gp_get 2 hm222489 he222490 dr_cX17_back_32 (gk_X17 D I) (Nat.le_of_ble_eq_true rfl) wr_7_76 rfl ?_
        refine G_aload_n 2 dr_cX17_back_35 rfl ?_
        refine Gp_get 4 hm222539 he222540 dr_cX17_back_36 (gk_X15 D I) (Nat.le_of_ble_eq_true rfl) wr_9_193 rfl ?_
        refine Gw_callS (As := [.ref (γ 9 2), .int p222545]) (gV_ok D I) (cp_222358_SpillForgeModel_set l hl0 D I P222483 F222484 (γ 9 2) p222545 f222538 hm222536 he222537 bp222545 wf222538) dr_cX17_back_39 ⟨wr_10_189, wr_1_14, wr_10_191, by decide, rfl, (Nat.le_of_ble_eq_true rfl), (Nat.le_of_ble_eq_true rfl)⟩ wr_10_190 (show 0 + 0 ≤ 0 by first | omega | decide) (show 0 + 0 ≤ 0 by first | omega | decide) (Nat.le_of_ble_eq_true rfl) (fun r222679 w222680 dc222676 ds222677 hp222678 => ?_) (fun _ _ _ _ _ z => z.elim)
        obtain ⟨F222685, f222681, rfl, rfl, hfr222687, he222688, hdc, hds, x222682, x222683, ht222684⟩ := hp222678
        have he222689 : F222685 q222485 = .inr (22, [.ref (γ 9 0), .ref (γ 9 1), .ref (γ 9 2), .ref (γ 9 3), .ref (γ 9 4), .ref (γ 9 5), .ref (γ 9 6), .ref (γ 9 7), .ref (γ 9 8), .int p222493, .int p222494, .int p222495, .int p222496, .int p222497, .int p222498, .ref (γ 9 15), .ref (γ 9 16), .ref (γ 9 17), .ref (γ 9 18), .ref (γ 9 19), .ref (γ 9 20), .ref (γ 9 21), .ref (γ 9 22), .int p222499, .int p222500, .int p222501, .int p222502, .int p222503, .ref q222491, .ref (γ 9 29), .int p222504, .ref (γ 9 31), .int p222505, .int p222506, .int p222507, .ref q222492]) := (hfr222687 q222485 hm222489 (nm_c (rn_oa he222490 he222537) nm_n)).trans he222490
        have he222690 : F222685 q222486 = .inr (20, [.int p222541, .int p222542, .int p222543, .int p222544, .int p222545, .int p222546, .int p222547]) := (hfr222687 q222486 hm222539 (nm_c (rn_oa he222540 he222537) nm_n)).trans he222540
        have hfr222691 : rFr [(γ 9 2)] P222483 F222484 F222685 := rFr_call (rSub_rf (P := P222483)) (rFr_rf (W := []) (P := P222483) (F := F222484)) hfr222687 (fun b hb hn => ⟨nm_n, (nm_c (fun e => hn (e ▸ List.mem_cons_self)) nm_n)⟩)
        change G _ _ _ _ _ _ _ _ _ _ _
        refine G_widen (cs' := 0) (sl' := 0) (by omega) (by omega) ?_
        have hT222692 : RS D I P222483 F222685 γ el := RS_fr hT hfr222691 ht222512 (by decide) ⟨f222681, he222688, x222682⟩
        have hs222693 : rStr γ [] F222484 F222685 := rStr_fr hT (rStr_rf (γ := γ) (W := []) (F := F222484)) hfr222691 ht222512 (by decide)
        have lv222694 : rLv γ F222484 F222685 := rLv_fr hT ht222510 (rLv_rf (γ := γ) (F := F222484)) hfr222691 ht222512 (by decide)
        have kp222695 : F222685 q222485 = F222484 q222485 := hfr222691 q222485 (RS_m hT htq222485 (by decide)) (nm_c (rn_ty htq222485 ht222512 (by decide)) nm_n)
        exact G_vretA dr_cX17_back_42 rfl (Nat.le_of_ble_eq_true rfl) (Nat.le_of_ble_eq_true rfl) ⟨F222685, rfl, rfl, hT222692, hs222693, (Nat.le_of_ble_eq_true rfl), (Nat.le_of_ble_eq_true rfl), (fun k => by rw [cL_of he222688, cL_of he222537, bkS_of he222540, (decide_eq_true (show (p222487.toInt = 1) by omega))]; exact bk_s false true (decide_eq_false (show ¬ (p222541.toInt = 23) by omega)) (decide_eq_true (show (p222541.toInt = 21) by omega)) (by rw [x222683 k]; simp)), lv222694, kp222695, (fun R c1 c2 c3 c4 c5 c6 c7 c8 c9 c10 c11 c12 => c6 p222541 p222542 p222545 o222561 f222538 f222681 F222685 fq222553 fq222554 fq222555 bo222561 ht222563 r222565 r222671 r222674 fq222675 he222537 ht222684 hfr222691 he222688 hT222692)⟩
  · have r222696 : 0 ≤ o222561.toInt := gj_nlt hc222564 (show Int32.toInt 0 = 0 by decide)
    have bo222561' : gB o222561 0 1999 := ⟨by omega, by omega⟩
    refine G_aload_n 1 dr_cX17_back_10 rfl ?_
    have fq222697 : fR (F222484 q222485) 2 = (γ 9 2) := by rw [he222490]; rfl
    refine Gp_get 2 hm222489 he222490 dr_cX17_back_11 (gk_X17 D I) (Nat.le_of_ble_eq_true rfl) wr_7_76 rfl ?_
    refine G_iload_n 0 dr_cX17_back_14 rfl ?_
    refine Gw_callS (As := [.ref (γ 9 2), .int o222561]) (gV_ok D I) (cp_222378_SpillForgeModel_clear l hl0 D I P222483 F222484 (γ 9 2) o222561 f222538 hm222536 he222537 bo222561' wf222538) dr_cX17_back_15 ⟨wr_10_185, wr_1_14, wr_10_187, by decide, rfl, (Nat.le_of_ble_eq_true rfl), (Nat.le_of_ble_eq_true rfl)⟩ wr_10_186 (show 0 + 0 ≤ 0 by first | omega | decide) (show 0 + 0 ≤ 0 by first | omega | decide) (Nat.le_of_ble_eq_true rfl) (fun r222701 w222702 dc222698 ds222699 hp222700 => ?_) (fun _ _ _ _ _ z => z.elim)
    obtain ⟨F222707, f222703, rfl, rfl, hfr222709, he222710, hdc, hds, x222704, x222705, ht222706⟩ := hp222700
    have he222711 : F222707 q222485 = .inr (22, [.ref (γ 9 0), .ref (γ 9 1), .ref (γ 9 2), .ref (γ 9 3), .ref (γ 9 4), .ref (γ 9 5), .ref (γ 9 6), .ref (γ 9 7), .ref (γ 9 8), .int p222493, .int p222494, .int p222495, .int p222496, .int p222497, .int p222498, .ref (γ 9 15), .ref (γ 9 16), .ref (γ 9 17), .ref (γ 9 18), .ref (γ 9 19), .ref (γ 9 20), .ref (γ 9 21), .ref (γ 9 22), .int p222499, .int p222500, .int p222501, .int p222502, .int p222503, .ref q222491, .ref (γ 9 29), .int p222504, .ref (γ 9 31), .int p222505, .int p222506, .int p222507, .ref q222492]) := (hfr222709 q222485 hm222489 (nm_c (rn_oa he222490 he222537) nm_n)).trans he222490
    have he222712 : F222707 q222486 = .inr (20, [.int p222541, .int p222542, .int p222543, .int p222544, .int p222545, .int p222546, .int p222547]) := (hfr222709 q222486 hm222539 (nm_c (rn_oa he222540 he222537) nm_n)).trans he222540
    have hfr222713 : rFr [(γ 9 2)] P222483 F222484 F222707 := rFr_call (rSub_rf (P := P222483)) (rFr_rf (W := []) (P := P222483) (F := F222484)) hfr222709 (fun b hb hn => ⟨nm_n, (nm_c (fun e => hn (e ▸ List.mem_cons_self)) nm_n)⟩)
    change G _ _ _ _ _ _ _ _ _ _ _
    refine G_widen (cs' := 0) (sl' := 0) (by omega) (by omega) ?_
    have hT222714 : RS D I P222483 F222707 γ el := RS_fr hT hfr222713 ht222512 (by decide) ⟨f222703, he222710, x222704⟩
    have hs222715 : rStr γ [] F222484 F222707 := rStr_fr hT (rStr_rf (γ := γ) (W := []) (F := F222484)) hfr222713 ht222512 (by decide)
    have lv222716 : rLv γ F222484 F222707 := rLv_fr hT ht222510 (rLv_rf (γ := γ) (F := F222484)) hfr222713 ht222512 (by decide)
    have kp222717 : F222707 q222485 = F222484 q222485 := hfr222713 q222485 (RS_m hT htq222485 (by decide)) (nm_c (rn_ty htq222485 ht222512 (by decide)) nm_n)
    refine G_iload_n 3 dr_cX17_back_18 rfl ?_
    refine G_if_eq 43 dr_cX17_back_19 (by decide +kernel) (fun hc222718 => ?_) (fun hc222718 => ?_)
    · have r222719 : p222487.toInt = 0 := gj_eq hc222718 (show Int32.toInt 0 = 0 by decide)
      have bp222487' : gB p222487 0 0 := ⟨by omega, by omega⟩
      refine G_aload_n 2 dr_cX17_back_43 rfl ?_
      have fq222720 : fI (F222707 q222486) 0 = p222541 := by rw [he222712]; rfl
      have fq222721 : fI (F222707 q222486) 5 = p222546 := by rw [he222712]; rfl
      refine Gw_callV (As := []) (gV_ok D I) (cp_222403_Row_usesA l hl0 D I P222483 F222707 q222486 p222541 p222542 p222543 p222544 p222545 p222546 p222547 hm222539 he222712 bp222541 bp222542 bp222545 bp222546 bp222547) dr_cX17_back_44 ⟨wr_10_192, wr_1_39, wr_10_195, by decide, rfl, (Nat.le_of_ble_eq_true rfl), (Nat.le_of_ble_eq_true rfl)⟩ wr_10_193 wr_10_194 hm222539 he222712 rfl (show 0 + 0 ≤ 0 by first | omega | decide) (show 0 + 0 ≤ 0 by first | omega | decide) (Nat.le_of_ble_eq_true rfl) (fun r222725 w222726 dc222722 ds222723 hp222724 => ?_) (fun _ _ _ _ _ z => z.elim)
      obtain ⟨o222727, rfl, rfl, hdc, hds, bo222727, x222728, ht222729⟩ := hp222724
      change G _ _ _ _ _ _ _ (.int o222727 :: _) _ _ _
      refine G_widen (cs' := 0) (sl' := 0) (by omega) (by omega) ?_
      refine G_if_eq 61 dr_cX17_back_47 (by decide +kernel) (fun hc222730 => ?_) (fun hc222730 => ?_)
      · have r222731 : o222727.toInt = 0 := gj_eq hc222730 (show Int32.toInt 0 = 0 by decide)
        have bo222727' : gB o222727 0 0 := ⟨by omega, by omega⟩
        refine G_aload_n 2 dr_cX17_back_61 rfl ?_
        have fq222732 : fI (F222707 q222486) 6 = p222547 := by rw [he222712]; rfl
        refine Gw_callV (As := []) (gV_ok D I) (cp_222427_Row_usesB l hl0 D I P222483 F222707 q222486 p222541 p222542 p222543 p222544 p222545 p222546 p222547 hm222539 he222712 bp222541 bp222542 bp222545 bp222546 bp222547) dr_cX17_back_62 ⟨wr_10_196, wr_1_39, wr_10_199, by decide, rfl, (Nat.le_of_ble_eq_true rfl), (Nat.le_of_ble_eq_true rfl)⟩ wr_10_197 wr_10_198 hm222539 he222712 rfl (show 0 + 0 ≤ 0 by first | omega | decide) (show 0 + 0 ≤ 0 by first | omega | decide) (Nat.le_of_ble_eq_true rfl) (fun r222736 w222737 dc222733 ds222734 hp222735 => ?_) (fun _ _ _ _ _ z => z.elim)
        obtain ⟨o222738, rfl, rfl, hdc, hds, bo222738, x222739, ht222740⟩ := hp222735
        change G _ _ _ _ _ _ _ (.int o222738 :: _) _ _ _
        refine G_widen (cs' := 0) (sl' := 0) (by omega) (by omega) ?_
        refine G_if_eq 79 dr_cX17_back_65 (by decide +kernel) (fun hc222741 => ?_) (fun hc222741 => ?_)
        · have r222742 : o222738.toInt = 0 := gj_eq hc222741 (show Int32.toInt 0 = 0 by decide)
          have bo222738' : gB o222738 0 0 := ⟨by omega, by omega⟩
          exact G_vretA dr_cX17_back_79 rfl (Nat.le_of_ble_eq_true rfl) (Nat.le_of_ble_eq_true rfl) ⟨F222707, rfl, rfl, hT222714, hs222715, (Nat.le_of_ble_eq_true rfl), (Nat.le_of_ble_eq_true rfl), (fun k => by rw [cL_of he222710, cL_of he222537, bkS_of he222540, (decide_eq_false (show ¬ (p222487.toInt = 1) by omega))]; exact bk_n true false false (decide_eq_true (show (p222541.toInt ≤ 21) by omega)) (decide_eq_false (show ¬ (p222541.toInt ≠ 20 ∧ p222541.toInt ≠ 21 ∧ p222541.toInt ≠ 30 ∧ p222546.toInt = 1) by omega)) (decide_eq_false (show ¬ (0 < p222541.toInt ∧ p222541.toInt < 20 ∧ p222547.toInt = 1) by omega)) (by rw [x222705 k, show o222561.toInt = p222542.toInt by omega]; simp)), lv222716, kp222717, (fun R c1 c2 c3 c4 c5 c6 c7 c8 c9 c10 c11 c12 => c7 p222541 p222542 p222545 o222561 f222538 f222703 F222707 p222546 o222727 p222547 o222738 fq222553 fq222554 fq222555 bo222561 ht222563 r222696 fq222697 he222537 ht222706 hfr222713 he222710 hT222714 r222719 fq222720 fq222721 bo222727 ht222729 r222731 fq222732 bo222738 ht222740 r222742)⟩
        · have r222743 : o222738.toInt ≠ 0 := gj_neq hc222741 (show Int32.toInt 0 = 0 by decide)
          have bo222738' : gB o222738 1 1 := ⟨by omega, by omega⟩
          refine G_aload_n 1 dr_cX17_back_68 rfl ?_
          have fq222744 : fR (F222707 q222485) 2 = (γ 9 2) := by rw [he222711]; rfl
          refine Gp_get 2 hm222489 he222711 dr_cX17_back_69 (gk_X17 D I) (Nat.le_of_ble_eq_true rfl) wr_7_76 rfl ?_
          refine G_aload_n 2 dr_cX17_back_72 rfl ?_
          have fq222745 : fI (F222707 q222486) 3 = p222544 := by rw [he222712]; rfl
          refine Gp_get 3 hm222539 he222712 dr_cX17_back_73 (gk_X15 D I) (Nat.le_of_ble_eq_true rfl) wr_9_190 rfl ?_
          refine Gw_callS (As := [.ref (γ 9 2), .int p222544]) (gV_ok D I) (cp_222358_SpillForgeModel_set l hl0 D I P222483 F222707 (γ 9 2) p222544 f222703 hm222536 he222710 ⟨by omega, by omega⟩ x222704) dr_cX17_back_76 ⟨wr_10_189, wr_1_14, wr_10_191, by decide, rfl, (Nat.le_of_ble_eq_true rfl), (Nat.le_of_ble_eq_true rfl)⟩ wr_10_190 (show 0 + 0 ≤ 0 by first | omega | decide) (show 0 + 0 ≤ 0 by first | omega | decide) (Nat.le_of_ble_eq_true rfl) (fun r222749 w222750 dc222746 ds222747 hp222748 => ?_) (fun _ _ _ _ _ z => z.elim)
          obtain ⟨F222755, f222751, rfl, rfl, hfr222757, he222758, hdc, hds, x222752, x222753, ht222754⟩ := hp222748
          have he222759 : F222755 q222485 = .inr (22, [.ref (γ 9 0), .ref (γ 9 1), .ref (γ 9 2), .ref (γ 9 3), .ref (γ 9 4), .ref (γ 9 5), .ref (γ 9 6), .ref (γ 9 7), .ref (γ 9 8), .int p222493, .int p222494, .int p222495, .int p222496, .int p222497, .int p222498, .ref (γ 9 15), .ref (γ 9 16), .ref (γ 9 17), .ref (γ 9 18), .ref (γ 9 19), .ref (γ 9 20), .ref (γ 9 21), .ref (γ 9 22), .int p222499, .int p222500, .int p222501, .int p222502, .int p222503, .ref q222491, .ref (γ 9 29), .int p222504, .ref (γ 9 31), .int p222505, .int p222506, .int p222507, .ref q222492]) := (hfr222757 q222485 hm222489 (nm_c (rn_oa he222711 he222710) nm_n)).trans he222711
          have he222760 : F222755 q222486 = .inr (20, [.int p222541, .int p222542, .int p222543, .int p222544, .int p222545, .int p222546, .int p222547]) := (hfr222757 q222486 hm222539 (nm_c (rn_oa he222712 he222710) nm_n)).trans he222712
          have hfr222761 : rFr [(γ 9 2)] P222483 F222707 F222755 := rFr_call (rSub_rf (P := P222483)) (rFr_rf (W := []) (P := P222483) (F := F222707)) hfr222757 (fun b hb hn => ⟨nm_n, (nm_c (fun e => hn (e ▸ List.mem_cons_self)) nm_n)⟩)
          change G _ _ _ _ _ _ _ _ _ _ _
          refine G_widen (cs' := 0) (sl' := 0) (by omega) (by omega) ?_
          have hT222762 : RS D I P222483 F222755 γ el := RS_fr hT222714 hfr222761 ht222512 (by decide) ⟨f222751, he222758, x222752⟩
          have hs222763 : rStr γ [] F222484 F222755 := rStr_fr hT222714 hs222715 hfr222761 ht222512 (by decide)
          have lv222764 : rLv γ F222484 F222755 := rLv_fr hT222714 ht222510 lv222716 hfr222761 ht222512 (by decide)
          have kp222765 : F222755 q222485 = F222484 q222485 := (hfr222761 q222485 (RS_m hT222714 htq222485 (by decide)) (nm_c (rn_ty htq222485 ht222512 (by decide)) nm_n)).trans kp222717
          exact G_vretA dr_cX17_back_79 rfl (Nat.le_of_ble_eq_true rfl) (Nat.le_of_ble_eq_true rfl) ⟨F222755, rfl, rfl, hT222762, hs222763, (Nat.le_of_ble_eq_true rfl), (Nat.le_of_ble_eq_true rfl), (fun k => by rw [cL_of he222758, cL_of he222537, bkS_of he222540, (decide_eq_false (show ¬ (p222487.toInt = 1) by omega))]; exact bk_n true false true (decide_eq_true (show (p222541.toInt ≤ 21) by omega)) (decide_eq_false (show ¬ (p222541.toInt ≠ 20 ∧ p222541.toInt ≠ 21 ∧ p222541.toInt ≠ 30 ∧ p222546.toInt = 1) by omega)) (decide_eq_true (show (0 < p222541.toInt ∧ p222541.toInt < 20 ∧ p222547.toInt = 1) by omega)) (by rw [x222753 k, x222705 k, show o222561.toInt = p222542.toInt by omega]; simp)), lv222764, kp222765, (fun R c1 c2 c3 c4 c5 c6 c7 c8 c9 c10 c11 c12 => c8 p222541 p222542 p222545 o222561 f222538 f222703 F222707 p222546 o222727 p222547 o222738 p222544 f222751 F222755 fq222553 fq222554 fq222555 bo222561 ht222563 r222696 fq222697 he222537 ht222706 hfr222713 he222710 hT222714 r222719 fq222720 fq222721 bo222727 ht222729 r222731 fq222732 bo222738 ht222740 r222743 fq222744 fq222745 he222710 ht222754 hfr222761 he222758 hT222762)⟩
      · have r222766 : o222727.toInt ≠ 0 := gj_neq hc222730 (show Int32.toInt 0 = 0 by decide)
        have bo222727' : gB o222727 1 1 := ⟨by omega, by omega⟩
        refine G_aload_n 1 dr_cX17_back_50 rfl ?_
        have fq222767 : fR (F222707 q222485) 2 = (γ 9 2) := by rw [he222711]; rfl
        refine Gp_get 2 hm222489 he222711 dr_cX17_back_51 (gk_X17 D I) (Nat.le_of_ble_eq_true rfl) wr_7_76 rfl ?_
        refine G_aload_n 2 dr_cX17_back_54 rfl ?_
        have fq222768 : fI (F222707 q222486) 2 = p222543 := by rw [he222712]; rfl
        refine Gp_get 2 hm222539 he222712 dr_cX17_back_55 (gk_X15 D I) (Nat.le_of_ble_eq_true rfl) wr_9_186 rfl ?_
        refine Gw_callS (As := [.ref (γ 9 2), .int p222543]) (gV_ok D I) (cp_222358_SpillForgeModel_set l hl0 D I P222483 F222707 (γ 9 2) p222543 f222703 hm222536 he222710 ⟨by omega, by omega⟩ x222704) dr_cX17_back_58 ⟨wr_10_189, wr_1_14, wr_10_191, by decide, rfl, (Nat.le_of_ble_eq_true rfl), (Nat.le_of_ble_eq_true rfl)⟩ wr_10_190 (show 0 + 0 ≤ 0 by first | omega | decide) (show 0 + 0 ≤ 0 by first | omega | decide) (Nat.le_of_ble_eq_true rfl) (fun r222772 w222773 dc222769 ds222770 hp222771 => ?_) (fun _ _ _ _ _ z => z.elim)
        obtain ⟨F222778, f222774, rfl, rfl, hfr222780, he222781, hdc, hds, x222775, x222776, ht222777⟩ := hp222771
        have he222782 : F222778 q222485 = .inr (22, [.ref (γ 9 0), .ref (γ 9 1), .ref (γ 9 2), .ref (γ 9 3), .ref (γ 9 4), .ref (γ 9 5), .ref (γ 9 6), .ref (γ 9 7), .ref (γ 9 8), .int p222493, .int p222494, .int p222495, .int p222496, .int p222497, .int p222498, .ref (γ 9 15), .ref (γ 9 16), .ref (γ 9 17), .ref (γ 9 18), .ref (γ 9 19), .ref (γ 9 20), .ref (γ 9 21), .ref (γ 9 22), .int p222499, .int p222500, .int p222501, .int p222502, .int p222503, .ref q222491, .ref (γ 9 29), .int p222504, .ref (γ 9 31), .int p222505, .int p222506, .int p222507, .ref q222492]) := (hfr222780 q222485 hm222489 (nm_c (rn_oa he222711 he222710) nm_n)).trans he222711
        have he222783 : F222778 q222486 = .inr (20, [.int p222541, .int p222542, .int p222543, .int p222544, .int p222545, .int p222546, .int p222547]) := (hfr222780 q222486 hm222539 (nm_c (rn_oa he222712 he222710) nm_n)).trans he222712
        have hfr222784 : rFr [(γ 9 2)] P222483 F222707 F222778 := rFr_call (rSub_rf (P := P222483)) (rFr_rf (W := []) (P := P222483) (F := F222707)) hfr222780 (fun b hb hn => ⟨nm_n, (nm_c (fun e => hn (e ▸ List.mem_cons_self)) nm_n)⟩)
        change G _ _ _ _ _ _ _ _ _ _ _
        refine G_widen (cs' := 0) (sl' := 0) (by omega) (by omega) ?_
        have hT222785 : RS D I P222483 F222778 γ el := RS_fr hT222714 hfr222784 ht222512 (by decide) ⟨f222774, he222781, x222775⟩
        have hs222786 : rStr γ [] F222484 F222778 := rStr_fr hT222714 hs222715 hfr222784 ht222512 (by decide)
        have lv222787 : rLv γ F222484 F222778 := rLv_fr hT222714 ht222510 lv222716 hfr222784 ht222512 (by decide)
        have kp222788 : F222778 q222485 = F222484 q222485 := (hfr222784 q222485 (RS_m hT222714 htq222485 (by decide)) (nm_c (rn_ty htq222485 ht222512 (by decide)) nm_n)).trans kp222717
        refine G_aload_n 2 dr_cX17_back_61 rfl ?_
        have fq222789 : fI (F222778 q222486) 0 = p222541 := by rw [he222783]; rfl
        have fq222790 : fI (F222778 q222486) 6 = p222547 := by rw [he222783]; rfl
        refine Gw_callV (As := []) (gV_ok D I) (cp_222427_Row_usesB l hl0 D I P222483 F222778 q222486 p222541 p222542 p222543 p222544 p222545 p222546 p222547 hm222539 he222783 bp222541 bp222542 bp222545 bp222546 bp222547) dr_cX17_back_62 ⟨wr_10_196, wr_1_39, wr_10_199, by decide, rfl, (Nat.le_of_ble_eq_true rfl), (Nat.le_of_ble_eq_true rfl)⟩ wr_10_197 wr_10_198 hm222539 he222783 rfl (show 0 + 0 ≤ 0 by first | omega | decide) (show 0 + 0 ≤ 0 by first | omega | decide) (Nat.le_of_ble_eq_true rfl) (fun r222794 w222795 dc222791 ds222792 hp222793 => ?_) (fun _ _ _ _ _ z => z.elim)
        obtain ⟨o222796, rfl, rfl, hdc, hds, bo222796, x222797, ht222798⟩ := hp222793
        change G _ _ _ _ _ _ _ (.int o222796 :: _) _ _ _
        refine G_widen (cs' := 0) (sl' := 0) (by omega) (by omega) ?_
        refine G_if_eq 79 dr_cX17_back_65 (by decide +kernel) (fun hc222799 => ?_) (fun hc222799 => ?_)
        · have r222800 : o222796.toInt = 0 := gj_eq hc222799 (show Int32.toInt 0 = 0 by decide)
          have bo222796' : gB o222796 0 0 := ⟨by omega, by omega⟩
          exact G_vretA dr_cX17_back_79 rfl (Nat.le_of_ble_eq_true rfl) (Nat.le_of_ble_eq_true rfl) ⟨F222778, rfl, rfl, hT222785, hs222786, (Nat.le_of_ble_eq_true rfl), (Nat.le_of_ble_eq_true rfl), (fun k => by rw [cL_of he222781, cL_of he222537, bkS_of he222540, (decide_eq_false (show ¬ (p222487.toInt = 1) by omega))]; exact bk_n true true false (decide_eq_true (show (p222541.toInt ≤ 21) by omega)) (decide_eq_true (show (p222541.toInt ≠ 20 ∧ p222541.toInt ≠ 21 ∧ p222541.toInt ≠ 30 ∧ p222546.toInt = 1) by omega)) (decide_eq_false (show ¬ (0 < p222541.toInt ∧ p222541.toInt < 20 ∧ p222547.toInt = 1) by omega)) (by rw [x222776 k, x222705 k, show o222561.toInt = p222542.toInt by omega]; simp)), lv222787, kp222788, (fun R c1 c2 c3 c4 c5 c6 c7 c8 c9 c10 c11 c12 => c9 p222541 p222542 p222545 o222561 f222538 f222703 F222707 p222546 o222727 p222543 f222774 F222778 p222547 o222796 fq222553 fq222554 fq222555 bo222561 ht222563 r222696 fq222697 he222537 ht222706 hfr222713 he222710 hT222714 r222719 fq222720 fq222721 bo222727 ht222729 r222766 fq222767 fq222768 he222710 ht222777 hfr222784 he222781 hT222785 fq222789 fq222790 bo222796 ht222798 r222800)⟩
        · have r222801 : o222796.toInt ≠ 0 := gj_neq hc222799 (show Int32.toInt 0 = 0 by decide)
          have bo222796' : gB o222796 1 1 := ⟨by omega, by omega⟩
          refine G_aload_n 1 dr_cX17_back_68 rfl ?_
          have fq222802 : fR (F222778 q222485) 2 = (γ 9 2) := by rw [he222782]; rfl
          refine Gp_get 2 hm222489 he222782 dr_cX17_back_69 (gk_X17 D I) (Nat.le_of_ble_eq_true rfl) wr_7_76 rfl ?_
          refine G_aload_n 2 dr_cX17_back_72 rfl ?_
          have fq222803 : fI (F222778 q222486) 3 = p222544 := by rw [he222783]; rfl
          refine Gp_get 3 hm222539 he222783 dr_cX17_back_73 (gk_X15 D I) (Nat.le_of_ble_eq_true rfl) wr_9_190 rfl ?_
          refine Gw_callS (As := [.ref (γ 9 2), .int p222544]) (gV_ok D I) (cp_222358_SpillForgeModel_set l hl0 D I P222483 F222778 (γ 9 2) p222544 f222774 hm222536 he222781 ⟨by omega, by omega⟩ x222775) dr_cX17_back_76 ⟨wr_10_189, wr_1_14, wr_10_191, by decide, rfl, (Nat.le_of_ble_eq_true rfl), (Nat.le_of_ble_eq_true rfl)⟩ wr_10_190 (show 0 + 0 ≤ 0 by first | omega | decide) (show 0 + 0 ≤ 0 by first | omega | decide) (Nat.le_of_ble_eq_true rfl) (fun r222807 w222808 dc222804 ds222805 hp222806 => ?_) (fun _ _ _ _ _ z => z.elim)
          obtain ⟨F222813, f222809, rfl, rfl, hfr222815, he222816, hdc, hds, x222810, x222811, ht222812⟩ := hp222806
          have he222817 : F222813 q222485 = .inr (22, [.ref (γ 9 0), .ref (γ 9 1), .ref (γ 9 2), .ref (γ 9 3), .ref (γ 9 4), .ref (γ 9 5), .ref (γ 9 6), .ref (γ 9 7), .ref (γ 9 8), .int p222493, .int p222494, .int p222495, .int p222496, .int p222497, .int p222498, .ref (γ 9 15), .ref (γ 9 16), .ref (γ 9 17), .ref (γ 9 18), .ref (γ 9 19), .ref (γ 9 20), .ref (γ 9 21), .ref (γ 9 22), .int p222499, .int p222500, .int p222501, .int p222502, .int p222503, .ref q222491, .ref (γ 9 29), .int p222504, .ref (γ 9 31), .int p222505, .int p222506, .int p222507, .ref q222492]) := (hfr222815 q222485 hm222489 (nm_c (rn_oa he222782 he222781) nm_n)).trans he222782
          have he222818 : F222813 q222486 = .inr (20, [.int p222541, .int p222542, .int p222543, .int p222544, .int p222545, .int p222546, .int p222547]) := (hfr222815 q222486 hm222539 (nm_c (rn_oa he222783 he222781) nm_n)).trans he222783
          have hfr222819 : rFr [(γ 9 2)] P222483 F222778 F222813 := rFr_call (rSub_rf (P := P222483)) (rFr_rf (W := []) (P := P222483) (F := F222778)) hfr222815 (fun b hb hn => ⟨nm_n, (nm_c (fun e => hn (e ▸ List.mem_cons_self)) nm_n)⟩)
          change G _ _ _ _ _ _ _ _ _ _ _
          refine G_widen (cs' := 0) (sl' := 0) (by omega) (by omega) ?_
          have hT222820 : RS D I P222483 F222813 γ el := RS_fr hT222785 hfr222819 ht222512 (by decide) ⟨f222809, he222816, x222810⟩
          have hs222821 : rStr γ [] F222484 F222813 := rStr_fr hT222785 hs222786 hfr222819 ht222512 (by decide)
          have lv222822 : rLv γ F222484 F222813 := rLv_fr hT222785 ht222510 lv222787 hfr222819 ht222512 (by decide)
          have kp222823 : F222813 q222485 = F222484 q222485 := (hfr222819 q222485 (RS_m hT222785 htq222485 (by decide)) (nm_c (rn_ty htq222485 ht222512 (by decide)) nm_n)).trans kp222788
          exact G_vretA dr_cX17_back_79 rfl (Nat.le_of_ble_eq_true rfl) (Nat.le_of_ble_eq_true rfl) ⟨F222813, rfl, rfl, hT222820, hs222821, (Nat.le_of_ble_eq_true rfl), (Nat.le_of_ble_eq_true rfl), (fun k => by rw [cL_of he222816, cL_of he222537, bkS_of he222540, (decide_eq_false (show ¬ (p222487.toInt = 1) by omega))]; exact bk_n true true true (decide_eq_true (show (p222541.toInt ≤ 21) by omega)) (decide_eq_true (show (p222541.toInt ≠ 20 ∧ p222541.toInt ≠ 21 ∧ p222541.toInt ≠ 30 ∧ p222546.toInt = 1) by omega)) (decide_eq_true (show (0 < p222541.toInt ∧ p222541.toInt < 20 ∧ p222547.toInt = 1) by omega)) (by rw [x222811 k, x222776 k, x222705 k, show o222561.toInt = p222542.toInt by omega]; simp)), lv222822, kp222823, (fun R c1 c2 c3 c4 c5 c6 c7 c8 c9 c10 c11 c12 => c10 p222541 p222542 p222545 o222561 f222538 f222703 F222707 p222546 o222727 p222543 f222774 F222778 p222547 o222796 p222544 f222809 F222813 fq222553 fq222554 fq222555 bo222561 ht222563 r222696 fq222697 he222537 ht222706 hfr222713 he222710 hT222714 r222719 fq222720 fq222721 bo222727 ht222729 r222766 fq222767 fq222768 he222710 ht222777 hfr222784 he222781 hT222785 fq222789 fq222790 bo222796 ht222798 r222801 fq222802 fq222803 he222781 ht222812 hfr222819 he222816 hT222820)⟩
    · have r222824 : p222487.toInt ≠ 0 := gj_neq hc222718 (show Int32.toInt 0 = 0 by decide)
      have bp222487' : gB p222487 1 1 := ⟨by omega, by omega⟩
      refine G_aload_n 2 dr_cX17_back_22 rfl ?_
      have fq222825 : fI (F222707 q222486) 0 = p222541 := by rw [he222712]; rfl
      refine Gp_get 0 hm222539 he222712 dr_cX17_back_23 (gk_X15 D I) (Nat.le_of_ble_eq_true rfl) wr_9_177 rfl ?_
      refine G_bipush 21 dr_cX17_back_26 (by decide +kernel) ?_
      refine G_icmp_ne 42 dr_cX17_back_28 (by decide +kernel) (fun hc222826 => ?_) (fun hc222826 => ?_)
      · have r222827 : p222541.toInt ≠ 21 := gj_neq hc222826 (show Int32.toInt 21 = 21 by decide)
        exact G_vretA dr_cX17_back_42 rfl (Nat.le_of_ble_eq_true rfl) (Nat.le_of_ble_eq_true rfl) ⟨F222707, rfl, rfl, hT222714, hs222715, (Nat.le_of_ble_eq_true rfl), (Nat.le_of_ble_eq_true rfl), (fun k => by rw [cL_of he222710, cL_of he222537, bkS_of he222540, (decide_eq_true (show (p222487.toInt = 1) by omega))]; exact bk_s true false (decide_eq_true (show (p222541.toInt = 23) by omega)) (decide_eq_false (show ¬ (p222541.toInt = 21) by omega)) (by rw [x222705 k, show o222561.toInt = p222545.toInt by omega]; simp)), lv222716, kp222717, (fun R c1 c2 c3 c4 c5 c6 c7 c8 c9 c10 c11 c12 => c11 p222541 p222542 p222545 o222561 f222538 f222703 F222707 fq222553 fq222554 fq222555 bo222561 ht222563 r222696 fq222697 he222537 ht222706 hfr222713 he222710 hT222714 r222824 fq222825 r222827)⟩
      · have r222828 : p222541.toInt = 21 := gj_eq hc222826 (show Int32.toInt 21 = 21 by decide)
        have bp222541' : gB p222541 21 21 := ⟨by omega, by omega⟩
        refine G_aload_n 1 dr_cX17_back_31 rfl ?_
        have fq222829 : fR (F222707 q222485) 2 = (γ 9 2) := by rw [he222711]; rfl
        refine Gp_get 2 hm222489 he222711 dr_cX17_back_32 (gk_X17 D I) (Nat.le_of_ble_eq_true rfl) wr_7_76 rfl ?_
        refine G_aload_n 2 dr_cX17_back_35 rfl ?_
        have fq222830 : fI (F222707 q222486) 4 = p222545 := by rw [he222712]; rfl
        refine Gp_get 4 hm222539 he222712 dr_cX17_back_36 (gk_X15 D I) (Nat.le_of_ble_eq_true rfl) wr_9_193 rfl ?_
        refine Gw_callS (As := [.ref (γ 9 2), .int p222545]) (gV_ok D I) (cp_222358_SpillForgeModel_set l hl0 D I P222483 F222707 (γ 9 2) p222545 f222703 hm222536 he222710 bp222545 x222704) dr_cX17_back_39 ⟨wr_10_189, wr_1_14, wr_10_191, by decide, rfl, (Nat.le_of_ble_eq_true rfl), (Nat.le_of_ble_eq_true rfl)⟩ wr_10_190 (show 0 + 0 ≤ 0 by first | omega | decide) (show 0 + 0 ≤ 0 by first | omega | decide) (Nat.le_of_ble_eq_true rfl) (fun r222834 w222835 dc222831 ds222832 hp222833 => ?_) (fun _ _ _ _ _ z => z.elim)
        obtain ⟨F222840, f222836, rfl, rfl, hfr222842, he222843, hdc, hds, x222837, x222838, ht222839⟩ := hp222833
        have he222844 : F222840 q222485 = .inr (22, [.ref (γ 9 0), .ref (γ 9 1), .ref (γ 9 2), .ref (γ 9 3), .ref (γ 9 4), .ref (γ 9 5), .ref (γ 9 6), .ref (γ 9 7), .ref (γ 9 8), .int p222493, .int p222494, .int p222495, .int p222496, .int p222497, .int p222498, .ref (γ 9 15), .ref (γ 9 16), .ref (γ 9 17), .ref (γ 9 18), .ref (γ 9 19), .ref (γ 9 20), .ref (γ 9 21), .ref (γ 9 22), .int p222499, .int p222500, .int p222501, .int p222502, .int p222503, .ref q222491, .ref (γ 9 29), .int p222504, .ref (γ 9 31), .int p222505, .int p222506, .int p222507, .ref q222492]) := (hfr222842 q222485 hm222489 (nm_c (rn_oa he222711 he222710) nm_n)).trans he222711
        have he222845 : F222840 q222486 = .inr (20, [.int p222541, .int p222542, .int p222543, .int p222544, .int p222545, .int p222546, .int p222547]) := (hfr222842 q222486 hm222539 (nm_c (rn_oa he222712 he222710) nm_n)).trans he222712
        have hfr222846 : rFr [(γ 9 2)] P222483 F222707 F222840 := rFr_call (rSub_rf (P := P222483)) (rFr_rf (W := []) (P := P222483) (F := F222707)) hfr222842 (fun b hb hn => ⟨nm_n, (nm_c (fun e => hn (e ▸ List.mem_cons_self)) nm_n)⟩)
        change G _ _ _ _ _ _ _ _ _ _ _
        refine G_widen (cs' := 0) (sl' := 0) (by omega) (by omega) ?_
        have hT222847 : RS D I P222483 F222840 γ el := RS_fr hT222714 hfr222846 ht222512 (by decide) ⟨f222836, he222843, x222837⟩
        have hs222848 : rStr γ [] F222484 F222840 := rStr_fr hT222714 hs222715 hfr222846 ht222512 (by decide)
        have lv222849 : rLv γ F222484 F222840 := rLv_fr hT222714 ht222510 lv222716 hfr222846 ht222512 (by decide)
        have kp222850 : F222840 q222485 = F222484 q222485 := (hfr222846 q222485 (RS_m hT222714 htq222485 (by decide)) (nm_c (rn_ty htq222485 ht222512 (by decide)) nm_n)).trans kp222717
        exact G_vretA dr_cX17_back_42 rfl (Nat.le_of_ble_eq_true rfl) (Nat.le_of_ble_eq_true rfl) ⟨F222840, rfl, rfl, hT222847, hs222848, (Nat.le_of_ble_eq_true rfl), (Nat.le_of_ble_eq_true rfl), (fun k => by rw [cL_of he222843, cL_of he222537, bkS_of he222540, (decide_eq_true (show (p222487.toInt = 1) by omega))]; exact bk_s true true (decide_eq_true (show (p222541.toInt = 23) by omega)) (decide_eq_true (show (p222541.toInt = 21) by omega)) (by rw [x222838 k, x222705 k, show o222561.toInt = p222545.toInt by omega]; simp)), lv222849, kp222850, (fun R c1 c2 c3 c4 c5 c6 c7 c8 c9 c10 c11 c12 => c12 p222541 p222542 p222545 o222561 f222538 f222703 F222707 f222836 F222840 fq222553 fq222554 fq222555 bo222561 ht222563 r222696 fq222697 he222537 ht222706 hfr222713 he222710 hT222714 r222824 fq222825 r222828 fq222829 fq222830 he222710 ht222839 hfr222846 he222843 hT222847)⟩
/- tr_RBlock_ways2: result -/
def tr_RBlock_ways2 (a0_first : Int32) (a0_second : Int32) (a0_end_op : Int32) (o1 : Int32) : Prop := ∀ R : (Int32) → Prop,
  (a0_end_op.toInt ≠ 32 → a0_end_op.toInt = 30 → R (1 : Int32)) →
  (a0_end_op.toInt ≠ 32 → a0_end_op.toInt ≠ 30 → a0_first.toInt ≠ a0_second.toInt → R (2 : Int32)) →
  (a0_end_op.toInt ≠ 32 → a0_end_op.toInt ≠ 30 → a0_first.toInt = a0_second.toInt → R (1 : Int32)) →
  (a0_end_op.toInt = 32 → R (0 : Int32)) →
  R o1
