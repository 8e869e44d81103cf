abbrev ky_3444_ArrayList_add : gKey := (cJx4a65c_add_72be8, 4, "java/util/ArrayList", none, [], "add", fun _ _ => True)
def pp_3444_ArrayList_add (D : va_G) (I : FieldType → ClassId) (P3415 : List Nat) (F3416 : Nat → va_E) (q3417 : Nat) (q3418 : Nat) (q3419 : Nat) (q3420 : Nat) (q3421 : Nat) (p3422 : Int32) (p3423 : Int32) (p3424 : Int32) (p3425 : Int32) (p3426 : Int32) (f3427 : Nat → Option Nat) (n3428 : Nat) (p3429 : Int32) (p3430 : Int32) (p3431 : Int32) (p3432 : Int32) (p3433 : Int32) (p3434 : Int32) (p3435 : Int32) (p3436 : Int32) (p3437 : Int32) : Option Value → va_W → Nat → Nat → Prop := fun r w dc ds => ∃ (P3506 : List Nat) (F3507 : Nat → va_E) (o3502 : Int32) (q3503 : Nat) (n3504 : Nat) (f3505 : Nat → Option Nat), r = none ∧ w = va_pl P3506 F3507 ∧ rSub P3415 P3506 ∧ rFr [q3417] P3415 F3416 F3507 ∧ F3507 q3418 = .inr (17, [.ref q3420, .ref q3421, .int p3425, .int p3426]) ∧ F3507 q3419 = .inl (I (.object "java/lang/Object"), n3428, .inr (.inr (.inr (.inr f3427)))) ∧ F3507 q3420 = .inr (4, [.int p3429, .ref (D.2 1002 1), .int p3430]) ∧ F3507 q3421 = .inr (20, [.int p3431, .int p3432, .int p3433, .int p3434, .int p3435, .int p3436, .int p3437]) ∧ F3507 q3417 = .inr (4, [.int p3423, .ref q3503, .int o3502]) ∧ F3507 q3503 = .inl (I (.object "java/lang/Object"), n3504, .inr (.inr (.inr (.inr f3505)))) ∧ q3503 ∈ P3506 ∧ q3503 ∉ P3415 ∧ dc ≤ 1 ∧ ds ≤ n3428 + n3428 / 2 + 1 ∧ gB o3502 1 16777217 ∧ o3502.toInt = p3424.toInt + 1 ∧ ((∀ j : Nat, (j : Int) < p3424.toInt → f3505 j = f3427 j) ∧ f3505 p3422.toInt.toNat = some q3418) ∧ rSrcX f3505 f3427 q3418 ∧ ((n3504 : Int) ≤ (n3428 : Int) + (n3428 : Int) / 2 + 1 ∧ (n3428 : Int) + 1 ≤ (n3504 : Int) ∧ (n3428 : Int) + (n3428 : Int) / 2 ≤ (n3504 : Int))
set_option maxRecDepth 100000 in
set_option maxHeartbeats 4000000 in
theorem cp_3444_ArrayList_add (l : Launch) (hl0 : l.stackTraces = false) (D : va_G) (I : FieldType → ClassId) (P3415 : List Nat) (F3416 : Nat → va_E) (q3417 : Nat) (q3418 : Nat) (q3419 : Nat) (q3420 : Nat) (q3421 : Nat) (p3422 : Int32) (p3423 : Int32) (p3424 : Int32) (p3425 : Int32) (p3426 : Int32) (f3427 : Nat → Option Nat) (n3428 : Nat) (p3429 : Int32) (p3430 : Int32) (p3431 : Int32) (p3432 : Int32) (p3433 : Int32) (p3434 : Int32) (p3435 : Int32) (p3436 : Int32) (p3437 : Int32) (hmq3417 : q3417 ∈ P3415) (hmq3418 : q3418 ∈ P3415) (hmq3419 : q3419 ∈ P3415) (hmq3420 : q3420 ∈ P3415) (hmq3421 : q3421 ∈ P3415) (heq3417 : F3416 q3417 = .inr (4, [.int p3423, .ref q3419, .int p3424])) (heq3418 : F3416 q3418 = .inr (17, [.ref q3420, .ref q3421, .int p3425, .int p3426])) (heq3419 : F3416 q3419 = .inl (I (.object "java/lang/Object"), n3428, .inr (.inr (.inr (.inr f3427))))) (heq3420 : F3416 q3420 = .inr (4, [.int p3429, .ref (D.2 1002 1), .int p3430])) (heq3421 : F3416 q3421 = .inr (20, [.int p3431, .int p3432, .int p3433, .int p3434, .int p3435, .int p3436, .int p3437])) (hneq3417q3420 : q3417 ≠ q3420) (bp3422 : gB p3422 0 16777216) (bp3424 : gB p3424 0 16777216) (bp3425 : gB p3425 0 39) (bp3426 : gB p3426 0 39) (bp3430 : gB p3430 0 16777216) (bp3431 : gB p3431 0 32) (bp3432 : gB p3432 0 1999) (bp3435 : gB p3435 0 1999) (bp3436 : gB p3436 0 1) (bp3437 : gB p3437 0 1) (x3438 : 0 < (n3428 : Int)) (x3439 : (n3428 : Int) ≤ 1000000) (x3440 : p3424.toInt = (n3428 : Int)) (x3441 : p3422.toInt = p3424.toInt) (x3442 : rEl P3415 F3416 f3427) (x3443 : ((n3428 : Int) ≤ 16777216)) : CtA (gV D I) l yJx4a65c_add_72be8 cJx4a65c_add_72be8 4 none 5 105 1 (n3428 + n3428 / 2 + 1) [.ref q3417, .ref q3418, .ref q3419, .int p3422] (va_pl P3415 F3416) (pp_3444_ArrayList_add D I P3415 F3416 q3417 q3418 q3419 q3420 q3421 p3422 p3423 p3424 p3425 p3426 f3427 n3428 p3429 p3430 p3431 p3432 p3433 p3434 p3435 p3436 p3437) gNA := by
  refine CtA_ofF hl0 (by decide +kernel) (Nat.le_of_ble_eq_true rfl) ?_
  have bp3423 := gB_any p3423
  have bp3429 := gB_any p3429
  have bp3433 := gB_any p3433
  have bp3434 := gB_any p3434
  refine G_iload_n 3 dr_cJx4a65c_add_72be8_0 rfl ?_
  refine G_aload_n 2 dr_cJx4a65c_add_72be8_1 rfl ?_
  refine Gp_alen (Int32.ofNat n3428) 4 hmq3419 heq3419 dr_cJx4a65c_add_72be8_2 rfl rfl (G_nam fun z3445 hz3445 => ?_)
  have ez3445 : z3445.toInt = (n3428 : Nat) := gI_ofM hz3445 (by omega)
  have bz3445 : gB z3445 0 16777216 := ⟨by omega, by omega⟩
  refine G_icmp_ne 11 dr_cJx4a65c_add_72be8_3 (by decide +kernel) (fun hc => absurd (show False by have := gC_ne hc; omega) not_false) (fun hc3446 => ?_)
  have r3448 : p3422.toInt = z3445.toInt := gC_eq hc3446
  refine G_aload_n 0 dr_cJx4a65c_add_72be8_6 rfl ?_
  refine Gw_callV (As := []) (gV_ok D I) (cp_326_ArrayList_grow l hl0 D I P3415 F3416 q3417 q3419 p3423 p3424 f3427 n3428 hmq3417 hmq3419 heq3417 heq3419 bp3424 (by omega) (by omega) (by omega) (rEl_frG (rEl_src x3442 rSrc_rf) (rSub_rf (P := P3415)) (rFr_rf (W := []) (P := P3415) (F := F3416)) rNg_n) (by omega)) dr_cJx4a65c_add_72be8_7 ⟨wr_10_11, wr_1_18, wr_10_14, by decide, rfl, (Nat.le_of_ble_eq_true rfl), (Nat.le_of_ble_eq_true rfl)⟩ wr_10_13 wr_p_86 hmq3417 heq3417 rfl (show 0 + 1 ≤ 1 by first | omega | decide) (show 0 + (n3428 + n3428 / 2 + 1) ≤ (n3428 + n3428 / 2 + 1) by first | omega | decide) (Nat.le_of_ble_eq_true rfl) (fun r3452 w3453 dc3449 ds3450 hp3451 => ?_) (fun _ _ _ _ _ z => z.elim)
  obtain ⟨P3460, F3461, q3454, n3455, f3456, rfl, rfl, hsb3462, hfr3463, he3464, he3465, hm3466, hq3467, hdc, hds, x3457, x3458, x3459⟩ := hp3451
  have hm3468 : q3417 ∈ P3460 := hsb3462 q3417 hmq3417
  have hm3469 : q3418 ∈ P3460 := hsb3462 q3418 hmq3418
  have hm3470 : q3419 ∈ P3460 := hsb3462 q3419 hmq3419
  have hm3471 : q3420 ∈ P3460 := hsb3462 q3420 hmq3420
  have hm3472 : q3421 ∈ P3460 := hsb3462 q3421 hmq3421
  have hq3473 : q3454 ∉ P3415 := fun z => hq3467 ((rSub_rf (P := P3415)) q3454 z)
  have hsb3474 : rSub P3415 P3460 := rSub_tr (rSub_rf (P := P3415)) hsb3462
  have he3475 : F3461 q3418 = .inr (17, [.ref q3420, .ref q3421, .int p3425, .int p3426]) := (hfr3463 q3418 hmq3418 (nm_c (rn_oo heq3418 heq3417 (by decide)) nm_n)).trans heq3418
  have he3476 : F3461 q3419 = .inl (I (.object "java/lang/Object"), n3428, .inr (.inr (.inr (.inr f3427)))) := (hfr3463 q3419 hmq3419 (nm_c (rn_ao heq3419 heq3417) nm_n)).trans heq3419
  have he3477 : F3461 q3420 = .inr (4, [.int p3429, .ref (D.2 1002 1), .int p3430]) := (hfr3463 q3420 hmq3420 (nm_c (Ne.symm hneq3417q3420) nm_n)).trans heq3420
  have he3478 : F3461 q3421 = .inr (20, [.int p3431, .int p3432, .int p3433, .int p3434, .int p3435, .int p3436, .int p3437]) := (hfr3463 q3421 hmq3421 (nm_c (rn_oo heq3421 heq3417 (by decide)) nm_n)).trans heq3421
  have hfr3479 : rFr [q3417] P3415 F3416 F3461 := rFr_call (rSub_rf (P := P3415)) (rFr_rf (W := []) (P := P3415) (F := F3416)) hfr3463 (fun b hb hn => ⟨nm_n, (nm_c (fun e => hn (e ▸ List.mem_cons_self)) nm_n)⟩)
  change G _ _ _ _ _ _ _ (.ref q3454 :: _) _ _ _
  refine G_widen (cs' := 1) (sl' := n3428 + n3428 / 2 + 1) (by omega) (by omega) ?_
  refine G_astore_n (L' := [(2, .ref q3454), (0, .ref q3417), (1, .ref q3418), (3, .int p3422)]) dr_cJx4a65c_add_72be8_10 (Nat.le_of_ble_eq_true rfl) rfl ?_
  refine G_aload_n 0 dr_cJx4a65c_add_72be8_11 rfl ?_
  refine G_iload_n 3 dr_cJx4a65c_add_72be8_12 rfl ?_
  refine G_aload_n 2 dr_cJx4a65c_add_72be8_13 rfl ?_
  refine Gp_aast 4 hm3466 he3465 dr_cJx4a65c_add_72be8_14 rfl ⟨hm3469, _, _, _, _, _, he3475, rfl, gr_cast 2 rfl⟩ (gB_inr (by omega) (by omega)) (fun F3480 e3481 n3482 => ?_)
  obtain ⟨f3483, hf3483⟩ : ∃ z, z = va_up f3456 p3422.toNatClampNeg (some q3418) := ⟨_, rfl⟩
  rw [← hf3483] at e3481
  have he3484 : F3480 q3418 = .inr (17, [.ref q3420, .ref q3421, .int p3425, .int p3426]) := (n3482 q3418 (fun h => hq3473 (h ▸ hmq3418))).trans he3475
  have he3485 : F3480 q3419 = .inl (I (.object "java/lang/Object"), n3428, .inr (.inr (.inr (.inr f3427)))) := (n3482 q3419 (fun h => hq3473 (h ▸ hmq3419))).trans he3476
  have he3486 : F3480 q3420 = .inr (4, [.int p3429, .ref (D.2 1002 1), .int p3430]) := (n3482 q3420 (fun h => hq3473 (h ▸ hmq3420))).trans he3477
  have he3487 : F3480 q3421 = .inr (20, [.int p3431, .int p3432, .int p3433, .int p3434, .int p3435, .int p3436, .int p3437]) := (n3482 q3421 (fun h => hq3473 (h ▸ hmq3421))).trans he3478
  have he3488 : F3480 q3417 = .inr (4, [.int p3423, .ref q3454, .int p3424]) := (n3482 q3417 (fun h => hq3473 (h ▸ hmq3417))).trans he3464
  have he3489 : F3480 q3454 = .inl (I (.object "java/lang/Object"), n3455, .inr (.inr (.inr (.inr f3483)))) := e3481
  have hfr3490 : rFr [q3417] P3415 F3416 F3480 := rFr_newp hq3473 hfr3479 n3482
  refine G_aload_n 1 dr_cJx4a65c_add_72be8_15 rfl ?_
  refine G_iload_n 3 dr_cJx4a65c_add_72be8_16 rfl ?_
  refine G_iconst 1 dr_cJx4a65c_add_72be8_17 (by decide +kernel) ?_
  refine G_iadd dr_cJx4a65c_add_72be8_18 (G_nam fun z3491 hz3491 => ?_)
  have ez3491 : z3491.toInt = p3422.toInt + 1 := by rw [gI_add hz3491 bp3422 (gBl (show Int32.toInt 1 = 1 by decide)) (by decide) (by decide), show Int32.toInt 1 = 1 from by decide]
  have bz3491 : gB z3491 1 16777217 := gB_add (gI_add hz3491 bp3422 (gBl (show Int32.toInt 1 = 1 by decide)) (by decide) (by decide)) bp3422 (gBl (show Int32.toInt 1 = 1 by decide)) (by decide) (by decide)
  refine Gp_put 2 hm3468 he3488 dr_cJx4a65c_add_72be8_19 (gk_Jx4a65c D I) (Nat.le_of_ble_eq_true rfl) wr_7_18 rfl rfl rfl (Nat.le_of_ble_eq_true rfl) (fun F3492 e3493 n3494 => ?_)
  have he3495 : F3492 q3418 = .inr (17, [.ref q3420, .ref q3421, .int p3425, .int p3426]) := (n3494 q3418 (rn_oo he3484 he3488 (by decide))).trans he3484
  have he3496 : F3492 q3419 = .inl (I (.object "java/lang/Object"), n3428, .inr (.inr (.inr (.inr f3427)))) := (n3494 q3419 (rn_ao he3485 he3488)).trans he3485
  have he3497 : F3492 q3420 = .inr (4, [.int p3429, .ref (D.2 1002 1), .int p3430]) := (n3494 q3420 (Ne.symm hneq3417q3420)).trans he3486
  have he3498 : F3492 q3421 = .inr (20, [.int p3431, .int p3432, .int p3433, .int p3434, .int p3435, .int p3436, .int p3437]) := (n3494 q3421 (rn_oo he3487 he3488 (by decide))).trans he3487
  have he3499 : F3492 q3454 = .inl (I (.object "java/lang/Object"), n3455, .inr (.inr (.inr (.inr f3483)))) := (n3494 q3454 (fun h => hq3473 (h ▸ hmq3417))).trans he3489
  have he3500 : F3492 q3417 = .inr (4, [.int p3423, .ref q3454, .int z3491]) := e3493
  have hfr3501 : rFr [q3417] P3415 F3416 F3492 := rFr_put' List.mem_cons_self hfr3490 n3494
  exact G_vretA dr_cJx4a65c_add_72be8_22 rfl (Nat.le_of_ble_eq_true rfl) (show n3428 + n3428 / 2 + 1 ≤ (n3428 + n3428 / 2 + 1) by omega) ⟨P3460, F3492, z3491, q3454, n3455, f3483, rfl, rfl, hsb3474, hfr3501, he3495, he3496, he3497, he3498, he3500, he3499, hm3466, hq3473, (Nat.le_of_ble_eq_true rfl), (by omega), bz3491, (by omega), (rI_add (fun j hj => x3457 j (by omega)) hf3483 (by omega) (by omega)), (rSrcX_up hf3483 (rSrc_tr x3458 rSrc_rf)), (by omega)⟩
abbrev ky_3404_ArrayList_add : gKey := (cJx4a65c_add_9ea2d, 2, "java/util/ArrayList", (some FieldType.boolean), [], "add", fun _ _ => True)
def pp_3404_ArrayList_add (D : va_G) (I : FieldType → ClassId) (P3377 : List Nat) (F3378 : Nat → va_E) (q3379 : Nat) (q3380 : Nat) (q3381 : Nat) (q3382 : Nat) (q3383 : Nat) (p3384 : Int32) (p3385 : Int32) (p3386 : Int32) (p3387 : Int32) (f3388 : Nat → Option Nat) (n3389 : Nat) (p3390 : Int32) (p3391 : Int32) (p3392 : Int32) (p3393 : Int32) (p3394 : Int32) (p3395 : Int32) (p3396 : Int32) (p3397 : Int32) (p3398 : Int32) : Option Value → va_W → Nat → Nat → Prop := fun r w dc ds => ∃ (P3546 : List Nat) (F3547 : Nat → va_E) (o3541 : Int32) (o3542 : Int32) (q3543 : Nat) (n3544 : Nat) (f3545 : Nat → Option Nat), r = some (.int 1) ∧ w = va_pl P3546 F3547 ∧ rSub P3377 P3546 ∧ rFr [q3379] P3377 F3378 F3547 ∧ F3547 q3380 = .inr (17, [.ref q3382, .ref q3383, .int p3386, .int p3387]) ∧ F3547 q3382 = .inr (4, [.int p3390, .ref (D.2 1002 1), .int p3391]) ∧ F3547 q3383 = .inr (20, [.int p3392, .int p3393, .int p3394, .int p3395, .int p3396, .int p3397, .int p3398]) ∧ F3547 q3379 = .inr (4, [.int o3541, .ref q3543, .int o3542]) ∧ F3547 q3543 = .inl (I (.object "java/lang/Object"), n3544, .inr (.inr (.inr (.inr f3545)))) ∧ q3543 ∈ P3546 ∧ q3543 ∉ P3377 ∧ dc ≤ 1 ∧ ds ≤ n3389 + n3389 / 2 + 1 ∧ gB o3542 1 16777217 ∧ o3542.toInt = p3385.toInt + 1 ∧ ((∀ j : Nat, (j : Int) < p3385.toInt → f3545 j = f3388 j) ∧ f3545 p3385.toInt.toNat = some q3380) ∧ rSrcX f3545 f3388 q3380 ∧ ((n3544 : Int) ≤ (n3389 : Int) + (n3389 : Int) / 2 + 1 ∧ (n3389 : Int) + 1 ≤ (n3544 : Int) ∧ (n3389 : Int) + (n3389 : Int) / 2 ≤ (n3544 : Int))
set_option maxRecDepth 100000 in
set_option maxHeartbeats 4000000 in
theorem cp_3404_ArrayList_add (l : Launch) (hl0 : l.stackTraces = false) (D : va_G) (I : FieldType → ClassId) (P3377 : List Nat) (F3378 : Nat → va_E) (q3379 : Nat) (q3380 : Nat) (q3381 : Nat) (q3382 : Nat) (q3383 : Nat) (p3384 : Int32) (p3385 : Int32) (p3386 : Int32) (p3387 : Int32) (f3388 : Nat → Option Nat) (n3389 : Nat) (p3390 : Int32) (p3391 : Int32) (p3392 : Int32) (p3393 : Int32) (p3394 : Int32) (p3395 : Int32) (p3396 : Int32) (p3397 : Int32) (p3398 : Int32) (hmq3379 : q3379 ∈ P3377) (hmq3380 : q3380 ∈ P3377) (hmq3381 : q3381 ∈ P3377) (hmq3382 : q3382 ∈ P3377) (hmq3383 : q3383 ∈ P3377) (heq3379 : F3378 q3379 = .inr (4, [.int p3384, .ref q3381, .int p3385])) (heq3380 : F3378 q3380 = .inr (17, [.ref q3382, .ref q3383, .int p3386, .int p3387])) (heq3381 : F3378 q3381 = .inl (I (.object "java/lang/Object"), n3389, .inr (.inr (.inr (.inr f3388))))) (heq3382 : F3378 q3382 = .inr (4, [.int p3390, .ref (D.2 1002 1), .int p3391])) (heq3383 : F3378 q3383 = .inr (20, [.int p3392, .int p3393, .int p3394, .int p3395, .int p3396, .int p3397, .int p3398])) (hneq3379q3382 : q3379 ≠ q3382) (bp3385 : gB p3385 0 16777216) (bp3386 : gB p3386 0 39) (bp3387 : gB p3387 0 39) (bp3391 : gB p3391 0 16777216) (bp3392 : gB p3392 0 32) (bp3393 : gB p3393 0 1999) (bp3396 : gB p3396 0 1999) (bp3397 : gB p3397 0 1) (bp3398 : gB p3398 0 1) (x3399 : 0 < (n3389 : Int)) (x3400 : (n3389 : Int) ≤ 1000000) (x3401 : p3385.toInt = (n3389 : Int)) (x3402 : rEl P3377 F3378 f3388) (x3403 : ((n3389 : Int) ≤ 16777216)) : CtA (gV D I) l yJx4a65c_add_9ea2d cJx4a65c_add_9ea2d 2 (some FieldType.boolean) 6 128 1 (n3389 + n3389 / 2 + 1) [.ref q3379, .ref q3380] (va_pl P3377 F3378) (pp_3404_ArrayList_add D I P3377 F3378 q3379 q3380 q3381 q3382 q3383 p3384 p3385 p3386 p3387 f3388 n3389 p3390 p3391 p3392 p3393 p3394 p3395 p3396 p3397 p3398) gNA := by
  refine CtA_ofF hl0 (by decide +kernel) (Nat.le_of_ble_eq_true rfl) ?_
  have bp3384 := gB_any p3384
  have bp3390 := gB_any p3390
  have bp3394 := gB_any p3394
  have bp3395 := gB_any p3395
  refine G_aload_n 0 dr_cJx4a65c_add_9ea2d_0 rfl ?_
  refine G_dup dr_cJx4a65c_add_9ea2d_1 rfl ?_
  refine Gp_getS 0 hmq3379 heq3379 dr_cJx4a65c_add_9ea2d_2 (gk_Jx4a65c D I) (Nat.le_of_ble_eq_true rfl) wr_7_20 wr_7_21 rfl ?_
  refine G_iconst 1 dr_cJx4a65c_add_9ea2d_5 (by decide +kernel) ?_
  refine G_iadd dr_cJx4a65c_add_9ea2d_6 (G_nam fun z3405 hz3405 => ?_)
  have bz3405 : gB z3405 (-2147483648) 2147483647 := gB_any z3405
  refine Gp_putS 0 hmq3379 heq3379 dr_cJx4a65c_add_9ea2d_7 (gk_Jx4a65c D I) (Nat.le_of_ble_eq_true rfl) wr_7_20 wr_7_21 rfl rfl rfl (Nat.le_of_ble_eq_true rfl) (fun F3406 e3407 n3408 => ?_)
  have he3409 : F3406 q3380 = .inr (17, [.ref q3382, .ref q3383, .int p3386, .int p3387]) := (n3408 q3380 (rn_oo heq3380 heq3379 (by decide))).trans heq3380
  have he3410 : F3406 q3381 = .inl (I (.object "java/lang/Object"), n3389, .inr (.inr (.inr (.inr f3388)))) := (n3408 q3381 (rn_ao heq3381 heq3379)).trans heq3381
  have he3411 : F3406 q3382 = .inr (4, [.int p3390, .ref (D.2 1002 1), .int p3391]) := (n3408 q3382 (Ne.symm hneq3379q3382)).trans heq3382
  have he3412 : F3406 q3383 = .inr (20, [.int p3392, .int p3393, .int p3394, .int p3395, .int p3396, .int p3397, .int p3398]) := (n3408 q3383 (rn_oo heq3383 heq3379 (by decide))).trans heq3383
  have he3413 : F3406 q3379 = .inr (4, [.int z3405, .ref q3381, .int p3385]) := e3407
  have hfr3414 : rFr [q3379] P3377 F3378 F3406 := rFr_put (rFr_rf (W := []) (P := P3377) (F := F3378)) n3408
  refine G_aload_n 0 dr_cJx4a65c_add_9ea2d_10 rfl ?_
  refine G_aload_n 1 dr_cJx4a65c_add_9ea2d_11 rfl ?_
  refine G_aload_n 0 dr_cJx4a65c_add_9ea2d_12 rfl ?_
  refine Gp_get 1 hmq3379 he3413 dr_cJx4a65c_add_9ea2d_13 (gk_Jx4a65c D I) (Nat.le_of_ble_eq_true rfl) wr_7_17 rfl ?_
  refine G_aload_n 0 dr_cJx4a65c_add_9ea2d_16 rfl ?_
  refine Gp_get 2 hmq3379 he3413 dr_cJx4a65c_add_9ea2d_17 (gk_Jx4a65c D I) (Nat.le_of_ble_eq_true rfl) wr_7_18 rfl ?_
  refine Gw_callV (As := [.ref q3380, .ref q3381, .int p3385]) (gV_ok D I) (cp_3444_ArrayList_add l hl0 D I P3377 F3406 q3379 q3380 q3381 q3382 q3383 p3385 z3405 p3385 p3386 p3387 f3388 n3389 p3390 p3391 p3392 p3393 p3394 p3395 p3396 p3397 p3398 hmq3379 hmq3380 hmq3381 hmq3382 hmq3383 he3413 he3409 he3410 he3411 he3412 hneq3379q3382 bp3385 bp3385 bp3386 bp3387 bp3391 bp3392 bp3393 bp3396 bp3397 bp3398 (by omega) (by omega) (by omega) (by omega) (rEl_frG (rEl_src x3402 rSrc_rf) (rSub_rf (P := P3377)) hfr3414 (rNg_c (rNg_o heq3379 (by decide) (by decide)) rNg_n)) (by omega)) dr_cJx4a65c_add_9ea2d_20 ⟨wr_10_7, wr_1_18, wr_10_10, by decide, rfl, (Nat.le_of_ble_eq_true rfl), (Nat.le_of_ble_eq_true rfl)⟩ wr_10_9 wr_p_85 hmq3379 he3413 rfl (show 0 + 1 ≤ 1 by first | omega | decide) (show 0 + (n3389 + n3389 / 2 + 1) ≤ (n3389 + n3389 / 2 + 1) by first | omega | decide) (Nat.le_of_ble_eq_true rfl) (fun r3511 w3512 dc3508 ds3509 hp3510 => ?_) (fun _ _ _ _ _ z => z.elim)
  obtain ⟨P3521, F3522, o3513, q3514, n3515, f3516, rfl, rfl, hsb3523, hfr3524, he3525, he3526, he3527, he3528, he3529, he3530, hm3531, hq3532, hdc, hds, bo3513, x3517, x3518, x3519, x3520⟩ := hp3510
  have hm3533 : q3379 ∈ P3521 := hsb3523 q3379 hmq3379
  have hm3534 : q3380 ∈ P3521 := hsb3523 q3380 hmq3380
  have hm3535 : q3381 ∈ P3521 := hsb3523 q3381 hmq3381
  have hm3536 : q3382 ∈ P3521 := hsb3523 q3382 hmq3382
  have hm3537 : q3383 ∈ P3521 := hsb3523 q3383 hmq3383
  have hq3538 : q3514 ∉ P3377 := fun z => hq3532 ((rSub_rf (P := P3377)) q3514 z)
  have hsb3539 : rSub P3377 P3521 := rSub_tr (rSub_rf (P := P3377)) hsb3523
  have hfr3540 : rFr [q3379] P3377 F3378 F3522 := rFr_call (rSub_rf (P := P3377)) hfr3414 hfr3524 (fun b hb hn => ⟨(nm_c (fun e => hn (e ▸ List.mem_cons_self)) nm_n), (nm_c (fun e => hn (e ▸ List.mem_cons_self)) nm_n)⟩)
  change G _ _ _ _ _ _ _ _ _ _ _
  refine G_widen (cs' := 1) (sl' := n3389 + n3389 / 2 + 1) (by omega) (by omega) ?_
  refine G_iconst 1 dr_cJx4a65c_add_9ea2d_23 (by decide +kernel) ?_
  exact G_zretA FieldType.boolean dr_cJx4a65c_add_9ea2d_24 rfl rfl (Nat.le_of_ble_eq_true rfl) (show n3389 + n3389 / 2 + 1 ≤ (n3389 + n3389 / 2 + 1) by omega) ⟨P3521, F3522, z3405, o3513, q3514, n3515, f3516, rfl, rfl, hsb3539, hfr3540, he3525, he3527, he3528, he3529, he3530, hm3531, hq3538, (Nat.le_of_ble_eq_true rfl), (by omega), bo3513, (by omega), (by assumption), (by assumption), (by omega)⟩
abbrev ky_3321_Code_block : gKey := (cX13_block, 2, "SpillForgeModel$Code", (some (FieldType.object "SpillForgeModel$Block")), [], "block", fun _ _ => True)
def pp_3321_Code_block (D : va_G) (I : FieldType → ClassId) (P3303 : List Nat) (F3304 : Nat → va_E) (q3305 : Nat) (q3306 : Nat) (q3307 : Nat) (qo3308 : Nat) (p3309 : Int32) (p3310 : Int32) (p3311 : Int32) (p3312 : Int32) (f3313 : Nat → Option Nat) (n3314 : Nat) : Option Value → va_W → Nat → Nat → Prop := fun r w dc ds => ∃ (P3630 : List Nat) (F3631 : Nat → va_E) (o3620 : Int32) (q3621 : Nat) (o3622 : Int32) (o3623 : Int32) (q3624 : Nat) (o3625 : Int32) (q3626 : Nat) (q3627 : Nat) (n3628 : Nat) (f3629 : Nat → Option Nat), r = some (.ref q3621) ∧ w = va_pl P3630 F3631 ∧ rSub P3303 P3630 ∧ rFr [q3305, q3306] P3303 F3304 F3631 ∧ F3631 q3305 = .inr (18, [.ref q3306, .ref qo3308, .int p3309, .int o3620]) ∧ F3631 q3621 = .inr (17, [.ref q3624, .ref q3626, .int 0, .int 0]) ∧ F3631 q3626 = .inr (20, [.int 0, .int 0, .int 0, .int 0, .int 0, .int 0, .int 0]) ∧ F3631 q3306 = .inr (4, [.int o3622, .ref q3627, .int o3623]) ∧ F3631 q3627 = .inl (I (.object "java/lang/Object"), n3628, .inr (.inr (.inr (.inr f3629)))) ∧ F3631 q3624 = .inr (4, [.int o3625, .ref (D.2 1002 1), .int 0]) ∧ q3621 ∈ P3630 ∧ q3621 ∉ P3303 ∧ q3624 ∈ P3630 ∧ q3624 ∉ P3303 ∧ q3626 ∈ P3630 ∧ q3626 ∉ P3303 ∧ q3627 ∈ P3630 ∧ q3627 ∉ P3303 ∧ dc ≤ 4 ∧ ds ≤ n3314 + n3314 / 2 + 1 + 14 ∧ gB o3620 1 1000001 ∧ gB o3623 1 16777217 ∧ o3620.toInt = p3310.toInt + 1 ∧ o3623.toInt = p3312.toInt + 1 ∧ ((∀ j : Nat, (j : Int) < p3312.toInt → f3629 j = f3313 j) ∧ f3629 p3312.toInt.toNat = some q3621) ∧ rSrcX f3629 f3313 q3621 ∧ ((n3628 : Int) ≤ (n3314 : Int) + (n3314 : Int) / 2 + 1 ∧ (n3314 : Int) + 1 ≤ (n3628 : Int) ∧ (n3314 : Int) + (n3314 : Int) / 2 ≤ (n3628 : Int))
set_option maxRecDepth 100000 in
set_option maxHeartbeats 4000000 in
theorem cp_3321_Code_block (l : Launch) (hl0 : l.stackTraces = false) (D : va_G) (I : FieldType → ClassId) (P3303 : List Nat) (F3304 : Nat → va_E) (q3305 : Nat) (q3306 : Nat) (q3307 : Nat) (qo3308 : Nat) (p3309 : Int32) (p3310 : Int32) (p3311 : Int32) (p3312 : Int32) (f3313 : Nat → Option Nat) (n3314 : Nat) (hmq3305 : q3305 ∈ P3303) (hmq3306 : q3306 ∈ P3303) (hmq3307 : q3307 ∈ P3303) (heq3305 : F3304 q3305 = .inr (18, [.ref q3306, .ref qo3308, .int p3309, .int p3310])) (heq3306 : F3304 q3306 = .inr (4, [.int p3311, .ref q3307, .int p3312])) (heq3307 : F3304 q3307 = .inl (I (.object "java/lang/Object"), n3314, .inr (.inr (.inr (.inr f3313))))) (bp3309 : gB p3309 0 1000000) (bp3310 : gB p3310 0 1000000) (bp3312 : gB p3312 0 1000000) (x3315 : p3310.toInt = p3312.toInt) (x3316 : 0 < (n3314 : Int)) (x3317 : (n3314 : Int) ≤ 1000000) (x3318 : p3312.toInt = (n3314 : Int)) (x3319 : rEl P3303 F3304 f3313) (x3320 : ((n3314 : Int) ≤ 16777216)) : CtA (gV D I) l yX13_block cX13_block 2 (some (FieldType.object "SpillForgeModel$Block")) 7 149 4 (n3314 + n3314 / 2 + 1 + 14) [.ref q3305] (va_pl P3303 F3304) (pp_3321_Code_block D I P3303 F3304 q3305 q3306 q3307 qo3308 p3309 p3310 p3311 p3312 f3313 n3314) gNA := by
  refine CtA_of hl0 (by decide) (Nat.le_of_ble_eq_true rfl) ?_
  have bp3311 := gB_any p3311
  refine G_aload_n 0 dr_cX13_block_0 rfl ?_
  refine Gp_get 3 hmq3305 heq3305 dr_cX13_block_1 (gk_X13 D I) (Nat.le_of_ble_eq_true rfl) wr_7_33 rfl ?_
  refine G_aload_n 0 dr_cX13_block_4 rfl ?_
  refine Gp_get 0 hmq3305 heq3305 dr_cX13_block_5 (gk_X13 D I) (Nat.le_of_ble_eq_true rfl) wr_7_30 rfl ?_
  refine Gw_callV (As := []) (gV_ok D I) (cp_2299_ArrayList_size l hl0 D I P3303 F3304 q3306 q3307 p3311 p3312 f3313 n3314 hmq3306 hmq3307 heq3306 heq3307 (gB_w bp3312 (by decide) (by decide)) (by omega)) dr_cX13_block_8 ⟨wr_9_157, wr_1_18, wr_9_160, by decide, rfl, (Nat.le_of_ble_eq_true rfl), (Nat.le_of_ble_eq_true rfl)⟩ wr_9_158 wr_9_159 hmq3306 heq3306 rfl (show 0 + 0 ≤ 4 by first | omega | decide) (show 0 + 0 ≤ (n3314 + n3314 / 2 + 1 + 14) by first | omega | decide) (Nat.le_of_ble_eq_true rfl) (fun r3325 w3326 dc3322 ds3323 hp3324 => ?_) (fun _ _ _ _ _ z => z.elim)
  obtain ⟨rfl, rfl, hdc, hds⟩ := hp3324
  change G _ _ _ _ _ _ _ (.int p3312 :: _) _ _ _
  refine G_widen (cs' := 0) (sl' := 0) (by omega) (by omega) ?_
  refine G_icmp_ne 29 dr_cX13_block_11 (by decide +kernel) (fun hc => absurd (show False by have := gC_ne hc; omega) not_false) (fun hc3327 => ?_)
  have r3329 : p3310.toInt = p3312.toInt := gC_eq hc3327
  refine G_aload_n 0 dr_cX13_block_14 rfl ?_
  refine Gp_get 0 hmq3305 heq3305 dr_cX13_block_15 (gk_X13 D I) (Nat.le_of_ble_eq_true rfl) wr_7_30 rfl ?_
  refine G_new [.null, .null, .int 0, .int 0] dr_cX13_block_18 (gk_X12 D I) wr_9_161 wr_9_162 wr_1_38 (gfs_X12) (show 0 + 1 ≤ 4 by first | omega | decide) (show 0 + 4 ≤ (n3314 + n3314 / 2 + 1 + 14) by first | omega | decide) (fun q3330 => Gp_in (fun P3331 F3332 hq3333 hP3334 e3335 n3336 => ?_))
  refine G_widen (cs' := 1) (sl' := 4) (by omega) (by omega) ?_
  have he3337 : F3332 q3305 = .inr (18, [.ref q3306, .ref qo3308, .int p3309, .int p3310]) := (n3336 q3305 (fun h => hq3333 (h ▸ hmq3305))).trans heq3305
  have he3338 : F3332 q3306 = .inr (4, [.int p3311, .ref q3307, .int p3312]) := (n3336 q3306 (fun h => hq3333 (h ▸ hmq3306))).trans heq3306
  have he3339 : F3332 q3307 = .inl (I (.object "java/lang/Object"), n3314, .inr (.inr (.inr (.inr f3313)))) := (n3336 q3307 (fun h => hq3333 (h ▸ hmq3307))).trans heq3307
  have he3340 : F3332 q3330 = .inr (17, [.null, .null, .int 0, .int 0]) := e3335
  have hm3341 : q3305 ∈ P3331 := (hP3334 q3305).mpr (Or.inl hmq3305)
  have hm3342 : q3306 ∈ P3331 := (hP3334 q3306).mpr (Or.inl hmq3306)
  have hm3343 : q3307 ∈ P3331 := (hP3334 q3307).mpr (Or.inl hmq3307)
  have hm3344 : q3330 ∈ P3331 := (hP3334 q3330).mpr (Or.inr rfl)
  have hq3345 : q3330 ∉ P3303 := fun z => hq3333 ((rSub_rf (P := P3303)) q3330 z)
  have hfr3346 : rFr [] P3303 F3304 F3332 := rFr_new (rSub_rf (P := P3303)) hq3333 (rFr_rf (W := []) (P := P3303) (F := F3304)) n3336
  have hsb3347 : rSub P3303 P3331 := rSub_new (rSub_rf (P := P3303)) hP3334
  refine G_dup dr_cX13_block_21 rfl ?_
  refine Gw_callIN (As := []) (gV_ok D I) (cp_3029_Block_init l hl0 D I P3331 F3332 q3330 0 0 hm3344 he3340 (gB_w (gBl (show Int32.toInt 0 = 0 by decide)) (by decide) (by decide)) (gB_w (gBl (show Int32.toInt 0 = 0 by decide)) (by decide) (by decide))) dr_cX13_block_22 ⟨(fun _ _ _ h => gn_w 78 rfl h), wr_1_38, wr_9_165, by decide, rfl, (Nat.le_of_ble_eq_true rfl), (Nat.le_of_ble_eq_true rfl)⟩ wr_9_164 rfl (show 1 + 2 ≤ 4 by first | omega | decide) (show 4 + 10 ≤ (n3314 + n3314 / 2 + 1 + 14) by first | omega | decide) (Nat.le_of_ble_eq_true rfl) (fun r3351 w3352 dc3348 ds3349 hp3350 => ?_)
  obtain ⟨P3355, F3356, q3353, q3354, rfl, rfl, hsb3357, hfr3358, he3359, he3360, he3361, hm3362, hq3363, hm3364, hq3365, hdc, hds⟩ := hp3350
  have hm3366 : q3305 ∈ P3355 := hsb3357 q3305 hm3341
  have hm3367 : q3306 ∈ P3355 := hsb3357 q3306 hm3342
  have hm3368 : q3307 ∈ P3355 := hsb3357 q3307 hm3343
  have hm3369 : q3330 ∈ P3355 := hsb3357 q3330 hm3344
  have hq3370 : q3353 ∉ P3303 := fun z => hq3363 (hsb3347 q3353 z)
  have hq3371 : q3354 ∉ P3303 := fun z => hq3365 (hsb3347 q3354 z)
  have hsb3372 : rSub P3303 P3355 := rSub_tr hsb3347 hsb3357
  have he3373 : F3356 q3305 = .inr (18, [.ref q3306, .ref qo3308, .int p3309, .int p3310]) := (hfr3358 q3305 hm3341 (nm_c (fun h => hq3345 (h ▸ hmq3305)) nm_n)).trans he3337
  have he3374 : F3356 q3306 = .inr (4, [.int p3311, .ref q3307, .int p3312]) := (hfr3358 q3306 hm3342 (nm_c (fun h => hq3345 (h ▸ hmq3306)) nm_n)).trans he3338
  have he3375 : F3356 q3307 = .inl (I (.object "java/lang/Object"), n3314, .inr (.inr (.inr (.inr f3313)))) := (hfr3358 q3307 hm3343 (nm_c (fun h => hq3345 (h ▸ hmq3307)) nm_n)).trans he3339
  have hfr3376 : rFr [] P3303 F3304 F3356 := rFr_call hsb3347 hfr3346 hfr3358 (fun b hb hn => ⟨nm_n, (nm_c (fun e => hq3345 (e ▸ hb)) nm_n)⟩)
  change G _ _ _ _ _ _ _ _ _ _ _
  refine G_widen (cs' := 3) (sl' := 14) (by omega) (by omega) ?_
  refine Gw_callV (As := [.ref q3330]) (gV_ok D I) (cp_3404_ArrayList_add l hl0 D I P3355 F3356 q3306 q3330 q3307 q3353 q3354 p3311 p3312 0 0 f3313 n3314 0 0 0 0 0 0 0 0 0 hm3367 hm3369 hm3368 hm3362 hm3364 he3374 he3359 he3375 he3360 he3361 (fun h => hq3370 (h ▸ hmq3306)) (gB_w bp3312 (by decide) (by decide)) (gB_w (gBl (show Int32.toInt 0 = 0 by decide)) (by decide) (by decide)) (gB_w (gBl (show Int32.toInt 0 = 0 by decide)) (by decide) (by decide)) (gB_w (gBl (show Int32.toInt 0 = 0 by decide)) (by decide) (by decide)) (gB_w (gBl (show Int32.toInt 0 = 0 by decide)) (by decide) (by decide)) (gB_w (gBl (show Int32.toInt 0 = 0 by decide)) (by decide) (by decide)) (gB_w (gBl (show Int32.toInt 0 = 0 by decide)) (by decide) (by decide)) (gB_w (gBl (show Int32.toInt 0 = 0 by decide)) (by decide) (by decide)) (gB_w (gBl (show Int32.toInt 0 = 0 by decide)) (by decide) (by decide)) (by have qa0 : Int32.toInt 0 = 0 := (by decide); omega) (by have qa0 : Int32.toInt 0 = 0 := (by decide); omega) (by have qa0 : Int32.toInt 0 = 0 := (by decide); omega) (rEl_frG (rEl_src x3319 rSrc_rf) hsb3372 hfr3376 rNg_n) (by have qa0 : Int32.toInt 0 = 0 := (by decide); omega)) dr_cX13_block_25 ⟨wr_10_3, wr_1_18, wr_10_6, by decide, rfl, (Nat.le_of_ble_eq_true rfl), (Nat.le_of_ble_eq_true rfl)⟩ wr_10_4 wr_10_5 hm3367 he3374 rfl (show 3 + 1 ≤ 4 by first | omega | decide) (show 14 + (n3314 + n3314 / 2 + 1) ≤ (n3314 + n3314 / 2 + 1 + 14) by first | omega | decide) (Nat.le_of_ble_eq_true rfl) (fun r3551 w3552 dc3548 ds3549 hp3550 => ?_) (fun _ _ _ _ _ z => z.elim)
  obtain ⟨P3562, F3563, o3553, o3554, q3555, n3556, f3557, rfl, rfl, hsb3564, hfr3565, he3566, he3567, he3568, he3569, he3570, hm3571, hq3572, hdc, hds, bo3554, x3558, x3559, x3560, x3561⟩ := hp3550
  have hm3573 : q3305 ∈ P3562 := hsb3564 q3305 hm3366
  have hm3574 : q3306 ∈ P3562 := hsb3564 q3306 hm3367
  have hm3575 : q3307 ∈ P3562 := hsb3564 q3307 hm3368
  have hm3576 : q3330 ∈ P3562 := hsb3564 q3330 hm3369
  have hm3577 : q3353 ∈ P3562 := hsb3564 q3353 hm3362
  have hm3578 : q3354 ∈ P3562 := hsb3564 q3354 hm3364
  have hq3579 : q3555 ∉ P3303 := fun z => hq3572 (hsb3372 q3555 z)
  have hsb3580 : rSub P3303 P3562 := rSub_tr hsb3372 hsb3564
  have he3581 : F3563 q3305 = .inr (18, [.ref q3306, .ref qo3308, .int p3309, .int p3310]) := (hfr3565 q3305 hm3366 (nm_c (rn_oo he3373 he3374 (by decide)) nm_n)).trans he3373
  have he3582 : F3563 q3307 = .inl (I (.object "java/lang/Object"), n3314, .inr (.inr (.inr (.inr f3313)))) := (hfr3565 q3307 hm3368 (nm_c (rn_ao he3375 he3374) nm_n)).trans he3375
  have hfr3583 : rFr [q3306] P3303 F3304 F3563 := rFr_call hsb3372 hfr3376 hfr3565 (fun b hb hn => ⟨nm_n, (nm_c (fun e => hn (e ▸ List.mem_cons_self)) nm_n)⟩)
  have bo3553 := gB_any o3553
  change G _ _ _ _ _ _ _ (.int 1 :: _) _ _ _
  refine G_widen (cs' := 4) (sl' := 14 + (n3314 + n3314 / 2 + 1)) (by omega) (by omega) ?_
  have hx3584 : f3557 p3310.toNatClampNeg = some q3330 := by show f3557 p3310.toInt.toNat = _; rw [show p3310.toInt = p3312.toInt by omega]; exact x3559.2
  refine G_pop dr_cX13_block_28 rfl ?_
  refine G_aload_n 0 dr_cX13_block_29 rfl ?_
  refine Gp_get 0 hm3573 he3581 dr_cX13_block_30 (gk_X13 D I) (Nat.le_of_ble_eq_true rfl) wr_7_30 rfl ?_
  refine G_aload_n 0 dr_cX13_block_33 rfl ?_
  refine Gp_get 3 hm3573 he3581 dr_cX13_block_34 (gk_X13 D I) (Nat.le_of_ble_eq_true rfl) wr_7_33 rfl ?_
  refine Gw_callV (As := [.int p3310]) (gV_ok D I) (cp_22_ArrayList_get l hl0 D I P3562 F3563 q3306 q3555 p3310 o3553 o3554 f3557 n3556 q3330 hm3574 hm3571 he3569 he3570 (gB_w bp3310 (by decide) (by decide)) ⟨by omega, by omega⟩ (by have qa0 : Int32.toInt 0 = 0 := (by decide); omega) (by have qa0 : Int32.toInt 0 = 0 := (by decide); omega) (by assumption) (by have qa0 : Int32.toInt 0 = 0 := (by decide); omega)) dr_cX13_block_37 ⟨wr_10_62, wr_1_18, wr_10_65, by decide, rfl, (Nat.le_of_ble_eq_true rfl), (Nat.le_of_ble_eq_true rfl)⟩ wr_10_63 wr_10_64 hm3574 he3569 rfl (show 4 + 0 ≤ 4 by first | omega | decide) (show 14 + (n3314 + n3314 / 2 + 1) + 0 ≤ (n3314 + n3314 / 2 + 1 + 14) by first | omega | decide) (Nat.le_of_ble_eq_true rfl) (fun r3588 w3589 dc3585 ds3586 hp3587 => ?_) (fun _ _ _ _ _ z => z.elim)
  obtain ⟨rfl, rfl, hdc, hds, ht3590⟩ := hp3587
  change G _ _ _ _ _ _ _ (.ref q3330 :: _) _ _ _
  refine G_widen (cs' := 4) (sl' := 14 + (n3314 + n3314 / 2 + 1) + 0) (by omega) (by omega) ?_
  refine Gp_cast hm3576 he3566 rfl dr_cX13_block_40 wr_9_161 (gr_cast 0 rfl) ?_
  refine G_astore_n (L' := [(1, .ref q3330), (0, .ref q3305)]) dr_cX13_block_43 (Nat.le_of_ble_eq_true rfl) rfl ?_
  refine G_aload_n 1 dr_cX13_block_44 rfl ?_
  refine G_dup dr_cX13_block_45 rfl ?_
  refine Gp_get 3 hm3573 he3581 dr_cX13_block_46 (gk_X13 D I) (Nat.le_of_ble_eq_true rfl) wr_7_33 rfl ?_
  refine G_iconst 1 dr_cX13_block_49 (by decide +kernel) ?_
  refine G_iadd dr_cX13_block_50 (G_nam fun z3591 hz3591 => ?_)
  have ez3591 : z3591.toInt = p3310.toInt + 1 := by rw [gI_add hz3591 bp3310 (gBl (show Int32.toInt 1 = 1 by decide)) (by decide) (by decide), show Int32.toInt 1 = 1 from by decide]
  have bz3591 : gB z3591 1 1000001 := gB_add (gI_add hz3591 bp3310 (gBl (show Int32.toInt 1 = 1 by decide)) (by decide) (by decide)) bp3310 (gBl (show Int32.toInt 1 = 1 by decide)) (by decide) (by decide)
  refine Gp_put 3 hm3573 he3581 dr_cX13_block_51 (gk_X13 D I) (Nat.le_of_ble_eq_true rfl) wr_7_33 rfl rfl rfl (Nat.le_of_ble_eq_true rfl) (fun F3592 e3593 n3594 => ?_)
  have he3595 : F3592 q3307 = .inl (I (.object "java/lang/Object"), n3314, .inr (.inr (.inr (.inr f3313)))) := (n3594 q3307 (rn_ao he3582 he3581)).trans he3582
  have he3596 : F3592 q3330 = .inr (17, [.ref q3353, .ref q3354, .int 0, .int 0]) := (n3594 q3330 (fun h => hq3345 (h ▸ hmq3305))).trans he3566
  have he3597 : F3592 q3353 = .inr (4, [.int 0, .ref (D.2 1002 1), .int 0]) := (n3594 q3353 (fun h => hq3370 (h ▸ hmq3305))).trans he3567
  have he3598 : F3592 q3354 = .inr (20, [.int 0, .int 0, .int 0, .int 0, .int 0, .int 0, .int 0]) := (n3594 q3354 (fun h => hq3371 (h ▸ hmq3305))).trans he3568
  have he3599 : F3592 q3306 = .inr (4, [.int o3553, .ref q3555, .int o3554]) := (n3594 q3306 (rn_oo he3569 he3581 (by decide))).trans he3569
  have he3600 : F3592 q3555 = .inl (I (.object "java/lang/Object"), n3556, .inr (.inr (.inr (.inr f3557)))) := (n3594 q3555 (fun h => hq3579 (h ▸ hmq3305))).trans he3570
  have he3601 : F3592 q3305 = .inr (18, [.ref q3306, .ref qo3308, .int p3309, .int z3591]) := e3593
  have hfr3602 : rFr [q3305, q3306] P3303 F3304 F3592 := rFr_put hfr3583 n3594
  refine G_aload_n 0 dr_cX13_block_54 rfl ?_
  refine Gp_get 0 hm3576 he3596 dr_cX13_block_55 (gk_X12 D I) (Nat.le_of_ble_eq_true rfl) wr_9_219 rfl ?_
  refine Gw_callV (As := []) (gV_ok D I) (cp_1471_ArrayList_clear l hl0 D I P3562 F3592 q3353 0 0 hm3577 he3597 (gB_w (gBl (show Int32.toInt 0 = 0 by decide)) (by decide) (by decide)) (by have qa0 : Int32.toInt 0 = 0 := (by decide); omega)) dr_cX13_block_58 ⟨wr_10_74, wr_1_18, wr_10_77, by decide, rfl, (Nat.le_of_ble_eq_true rfl), (Nat.le_of_ble_eq_true rfl)⟩ wr_10_75 wr_10_76 hm3577 he3597 rfl (show 4 + 0 ≤ 4 by first | omega | decide) (show 14 + (n3314 + n3314 / 2 + 1) + 0 + 0 ≤ (n3314 + n3314 / 2 + 1 + 14) by first | omega | decide) (Nat.le_of_ble_eq_true rfl) (fun r3606 w3607 dc3603 ds3604 hp3605 => ?_) (fun _ _ _ _ _ z => z.elim)
  obtain ⟨F3609, o3608, rfl, rfl, hfr3611, he3612, hdc, hds⟩ := hp3605
  have he3613 : F3609 q3305 = .inr (18, [.ref q3306, .ref qo3308, .int p3309, .int z3591]) := (hfr3611 q3305 hm3573 (nm_c (fun h => hq3370 (h ▸ hmq3305)) nm_n)).trans he3601
  have he3614 : F3609 q3307 = .inl (I (.object "java/lang/Object"), n3314, .inr (.inr (.inr (.inr f3313)))) := (hfr3611 q3307 hm3575 (nm_c (fun h => hq3370 (h ▸ hmq3307)) nm_n)).trans he3595
  have he3615 : F3609 q3330 = .inr (17, [.ref q3353, .ref q3354, .int 0, .int 0]) := (hfr3611 q3330 hm3576 (nm_c (rn_oo he3596 he3597 (by decide)) nm_n)).trans he3596
  have he3616 : F3609 q3354 = .inr (20, [.int 0, .int 0, .int 0, .int 0, .int 0, .int 0, .int 0]) := (hfr3611 q3354 hm3578 (nm_c (rn_oo he3598 he3597 (by decide)) nm_n)).trans he3598
  have he3617 : F3609 q3306 = .inr (4, [.int o3553, .ref q3555, .int o3554]) := (hfr3611 q3306 hm3574 (nm_c (fun h => hq3370 (h ▸ hmq3306)) nm_n)).trans he3599
  have he3618 : F3609 q3555 = .inl (I (.object "java/lang/Object"), n3556, .inr (.inr (.inr (.inr f3557)))) := (hfr3611 q3555 hm3571 (nm_c (rn_ao he3600 he3597) nm_n)).trans he3600
  have hfr3619 : rFr [q3305, q3306] P3303 F3304 F3609 := rFr_call hsb3580 hfr3602 hfr3611 (fun b hb hn => ⟨(nm_c (fun e => hn (e ▸ List.mem_cons_self)) (nm_c (fun e => hn (e ▸ (List.mem_cons_of_mem _ List.mem_cons_self))) nm_n)), (nm_c (fun e => hq3370 (e ▸ hb)) nm_n)⟩)
  have bo3608 := gB_any o3608
  change G _ _ _ _ _ _ _ _ _ _ _
  refine G_widen (cs' := 4) (sl' := 14 + (n3314 + n3314 / 2 + 1) + 0 + 0) (by omega) (by omega) ?_
  refine G_aload_n 0 dr_cX13_block_61 rfl ?_
  exact G_aretA (FieldType.object "SpillForgeModel$Block") dr_cX13_block_62 rfl (by first | exact Or.inl ⟨_, rfl⟩ | exact Or.inr ⟨_, rfl⟩) (Or.inr ⟨_, rfl⟩) (Nat.le_of_ble_eq_true rfl) (show 14 + (n3314 + n3314 / 2 + 1) + 0 + 0 ≤ (n3314 + n3314 / 2 + 1 + 14) by omega) ⟨P3562, F3609, z3591, q3330, o3553, o3554, q3353, o3608, q3354, q3555, n3556, f3557, rfl, rfl, hsb3580, hfr3619, he3613, he3615, he3616, he3617, he3618, he3612, hm3576, hq3345, hm3577, hq3370, hm3578, hq3371, hm3571, hq3579, (Nat.le_of_ble_eq_true rfl), (by omega), bz3591, bo3554, (by have qa0 : Int32.toInt 0 = 0 := (by decide); omega), (by have qa0 : Int32.toInt 0 = 0 := (by decide); omega), (by assumption), (by assumption), (by have qa0 : Int32.toInt 0 = 0 := (by decide); omega)⟩
abbrev ky_3747_ArrayList_add : gKey := (cJx4a65c_add_72be8, 4, "java/util/ArrayList", none, [], "add", fun _ _ => True)
def pp_3747_ArrayList_add (D : va_G) (I : FieldType → ClassId) (P3725 : List Nat) (F3726 : Nat → va_E) (q3727 : Nat) (q3728 : Nat) (q3729 : Nat) (q3730 : Nat) (p3731 : Int32) (p3732 : Int32) (p3733 : Int32) (p3734 : Int32) (p3735 : Int32) (p3736 : Int32) (p3737 : Int32) (p3738 : Int32) (p3739 : Int32) (p3740 : Int32) (p3741 : Int32) (p3742 : Int32) (p3743 : Int32) (p3744 : Int32) : Option Value → va_W → Nat → Nat → Prop := fun r w dc ds => ∃ (P3801 : List Nat) (F3802 : Nat → va_E) (o3797 : Int32) (q3798 : Nat) (n3799 : Nat) (f3800 : Nat → Option Nat), r = none ∧ w = va_pl P3801 F3802 ∧ rSub P3725 P3801 ∧ rFr [q3727] P3725 F3726 F3802 ∧ F3802 q3728 = .inr (17, [.ref q3729, .ref q3730, .int p3734, .int p3735]) ∧ F3802 q3729 = .inr (4, [.int p3736, .ref (D.2 1002 1), .int p3737]) ∧ F3802 q3730 = .inr (20, [.int p3738, .int p3739, .int p3740, .int p3741, .int p3742, .int p3743, .int p3744]) ∧ F3802 q3727 = .inr (4, [.int p3732, .ref q3798, .int o3797]) ∧ F3802 q3798 = .inl (I (.object "java/lang/Object"), n3799, .inr (.inr (.inr (.inr f3800)))) ∧ q3798 ∈ P3801 ∧ q3798 ∉ P3725 ∧ dc ≤ 1 ∧ ds ≤ 10 ∧ gB o3797 1 1 ∧ o3797.toInt = p3733.toInt + 1 ∧ f3800 p3731.toInt.toNat = some q3728 ∧ (∀ j w, f3800 j = some w → w = q3728) ∧ (n3799 : Int) = 10
set_option maxRecDepth 100000 in
set_option maxHeartbeats 4000000 in
theorem cp_3747_ArrayList_add (l : Launch) (hl0 : l.stackTraces = false) (D : va_G) (I : FieldType → ClassId) (P3725 : List Nat) (F3726 : Nat → va_E) (q3727 : Nat) (q3728 : Nat) (q3729 : Nat) (q3730 : Nat) (p3731 : Int32) (p3732 : Int32) (p3733 : Int32) (p3734 : Int32) (p3735 : Int32) (p3736 : Int32) (p3737 : Int32) (p3738 : Int32) (p3739 : Int32) (p3740 : Int32) (p3741 : Int32) (p3742 : Int32) (p3743 : Int32) (p3744 : Int32) (hmq3727 : q3727 ∈ P3725) (hmq3728 : q3728 ∈ P3725) (hmq3729 : q3729 ∈ P3725) (hmq3730 : q3730 ∈ P3725) (heq3727 : F3726 q3727 = .inr (4, [.int p3732, .ref (D.2 1002 1), .int p3733])) (heq3728 : F3726 q3728 = .inr (17, [.ref q3729, .ref q3730, .int p3734, .int p3735])) (heq3729 : F3726 q3729 = .inr (4, [.int p3736, .ref (D.2 1002 1), .int p3737])) (heq3730 : F3726 q3730 = .inr (20, [.int p3738, .int p3739, .int p3740, .int p3741, .int p3742, .int p3743, .int p3744])) (hneq3727q3729 : q3727 ≠ q3729) (bp3731 : gB p3731 0 16777216) (bp3733 : gB p3733 0 16777216) (bp3734 : gB p3734 0 39) (bp3735 : gB p3735 0 39) (bp3737 : gB p3737 0 16777216) (bp3738 : gB p3738 0 32) (bp3739 : gB p3739 0 1999) (bp3742 : gB p3742 0 1999) (bp3743 : gB p3743 0 1) (bp3744 : gB p3744 0 1) (x3745 : p3733.toInt = 0) (x3746 : p3731.toInt = p3733.toInt) : CtA (gV D I) l yJx4a65c_add_72be8 cJx4a65c_add_72be8 4 none 3 57 1 10 [.ref q3727, .ref q3728, .ref (D.2 1002 1), .int p3731] (va_pl P3725 F3726) (pp_3747_ArrayList_add D I P3725 F3726 q3727 q3728 q3729 q3730 p3731 p3732 p3733 p3734 p3735 p3736 p3737 p3738 p3739 p3740 p3741 p3742 p3743 p3744) gNA := by
  refine CtA_ofF hl0 (by decide +kernel) (Nat.le_of_ble_eq_true rfl) ?_
  have bp3732 := gB_any p3732
  have bp3736 := gB_any p3736
  have bp3740 := gB_any p3740
  have bp3741 := gB_any p3741
  refine G_iload_n 3 dr_cJx4a65c_add_72be8_0 rfl ?_
  refine G_aload_n 2 dr_cJx4a65c_add_72be8_1 rfl ?_
  refine G_klen dr_cJx4a65c_add_72be8_2 gr_dt ?_
  refine G_icmp_ne 11 dr_cJx4a65c_add_72be8_3 (by decide +kernel) (fun hc => absurd (show False by have := gj_neq hc (show Int32.toInt 0 = 0 by decide); omega) not_false) (fun hc3748 => ?_)
  have r3750 : p3731.toInt = 0 := gj_eq hc3748 (show Int32.toInt 0 = 0 by decide)
  have bp3731' : gB p3731 0 0 := ⟨by omega, by omega⟩
  refine G_aload_n 0 dr_cJx4a65c_add_72be8_6 rfl ?_
  refine Gw_callV (As := []) (gV_ok D I) (cp_780_ArrayList_grow l hl0 D I P3725 F3726 q3727 p3732 p3733 hmq3727 heq3727 bp3733 (by omega)) dr_cJx4a65c_add_72be8_7 ⟨wr_10_11, wr_1_18, wr_10_14, by decide, rfl, (Nat.le_of_ble_eq_true rfl), (Nat.le_of_ble_eq_true rfl)⟩ wr_10_13 wr_p_86 hmq3727 heq3727 rfl (show 0 + 1 ≤ 1 by first | omega | decide) (show 0 + 10 ≤ 10 by first | omega | decide) (Nat.le_of_ble_eq_true rfl) (fun r3754 w3755 dc3751 ds3752 hp3753 => ?_) (fun _ _ _ _ _ z => z.elim)
  obtain ⟨P3759, F3760, q3756, n3757, rfl, rfl, hsb3761, hfr3762, he3763, he3764, hm3765, hq3766, hdc, hds, x3758⟩ := hp3753
  have hm3767 : q3727 ∈ P3759 := hsb3761 q3727 hmq3727
  have hm3768 : q3728 ∈ P3759 := hsb3761 q3728 hmq3728
  have hm3769 : q3729 ∈ P3759 := hsb3761 q3729 hmq3729
  have hm3770 : q3730 ∈ P3759 := hsb3761 q3730 hmq3730
  have hq3771 : q3756 ∉ P3725 := fun z => hq3766 ((rSub_rf (P := P3725)) q3756 z)
  have hsb3772 : rSub P3725 P3759 := rSub_tr (rSub_rf (P := P3725)) hsb3761
  have he3773 : F3760 q3728 = .inr (17, [.ref q3729, .ref q3730, .int p3734, .int p3735]) := (hfr3762 q3728 hmq3728 (nm_c (rn_oo heq3728 heq3727 (by decide)) nm_n)).trans heq3728
  have he3774 : F3760 q3729 = .inr (4, [.int p3736, .ref (D.2 1002 1), .int p3737]) := (hfr3762 q3729 hmq3729 (nm_c (Ne.symm hneq3727q3729) nm_n)).trans heq3729
  have he3775 : F3760 q3730 = .inr (20, [.int p3738, .int p3739, .int p3740, .int p3741, .int p3742, .int p3743, .int p3744]) := (hfr3762 q3730 hmq3730 (nm_c (rn_oo heq3730 heq3727 (by decide)) nm_n)).trans heq3730
  have hfr3776 : rFr [q3727] P3725 F3726 F3760 := rFr_call (rSub_rf (P := P3725)) (rFr_rf (W := []) (P := P3725) (F := F3726)) hfr3762 (fun b hb hn => ⟨nm_n, (nm_c (fun e => hn (e ▸ List.mem_cons_self)) nm_n)⟩)
  change G _ _ _ _ _ _ _ (.ref q3756 :: _) _ _ _
  refine G_widen (cs' := 1) (sl' := 10) (by omega) (by omega) ?_
  refine G_astore_n (L' := [(2, .ref q3756), (0, .ref q3727), (1, .ref q3728), (3, .int p3731)]) dr_cJx4a65c_add_72be8_10 (Nat.le_of_ble_eq_true rfl) rfl ?_
  refine G_aload_n 0 dr_cJx4a65c_add_72be8_11 rfl ?_
  refine G_iload_n 3 dr_cJx4a65c_add_72be8_12 rfl ?_
  refine G_aload_n 2 dr_cJx4a65c_add_72be8_13 rfl ?_
  refine Gp_aast 4 hm3765 he3764 dr_cJx4a65c_add_72be8_14 rfl ⟨hm3768, _, _, _, _, _, he3773, rfl, gr_cast 2 rfl⟩ (gB_inr (by omega) (by omega)) (fun F3777 e3778 n3779 => ?_)
  obtain ⟨f3780, hf3780⟩ : ∃ z, z = va_up (fun _ => none) p3731.toNatClampNeg (some q3728) := ⟨_, rfl⟩
  rw [← hf3780] at e3778
  have he3781 : F3777 q3728 = .inr (17, [.ref q3729, .ref q3730, .int p3734, .int p3735]) := (n3779 q3728 (fun h => hq3771 (h ▸ hmq3728))).trans he3773
  have he3782 : F3777 q3729 = .inr (4, [.int p3736, .ref (D.2 1002 1), .int p3737]) := (n3779 q3729 (fun h => hq3771 (h ▸ hmq3729))).trans he3774
  have he3783 : F3777 q3730 = .inr (20, [.int p3738, .int p3739, .int p3740, .int p3741, .int p3742, .int p3743, .int p3744]) := (n3779 q3730 (fun h => hq3771 (h ▸ hmq3730))).trans he3775
  have he3784 : F3777 q3727 = .inr (4, [.int p3732, .ref q3756, .int p3733]) := (n3779 q3727 (fun h => hq3771 (h ▸ hmq3727))).trans he3763
  have he3785 : F3777 q3756 = .inl (I (.object "java/lang/Object"), n3757, .inr (.inr (.inr (.inr f3780)))) := e3778
  have hfr3786 : rFr [q3727] P3725 F3726 F3777 := rFr_newp hq3771 hfr3776 n3779
  refine G_aload_n 1 dr_cJx4a65c_add_72be8_15 rfl ?_
  refine G_iload_n 3 dr_cJx4a65c_add_72be8_16 rfl ?_
  refine G_iconst 1 dr_cJx4a65c_add_72be8_17 (by decide +kernel) ?_
  refine G_iadd dr_cJx4a65c_add_72be8_18 (G_nam fun z3787 hz3787 => ?_)
  have ez3787 : z3787.toInt = p3731.toInt + 1 := by rw [gI_add hz3787 bp3731' (gBl (show Int32.toInt 1 = 1 by decide)) (by decide) (by decide), show Int32.toInt 1 = 1 from by decide]
  have bz3787 : gB z3787 1 1 := gB_add (gI_add hz3787 bp3731' (gBl (show Int32.toInt 1 = 1 by decide)) (by decide) (by decide)) bp3731' (gBl (show Int32.toInt 1 = 1 by decide)) (by decide) (by decide)
  refine Gp_put 2 hm3767 he3784 dr_cJx4a65c_add_72be8_19 (gk_Jx4a65c D I) (Nat.le_of_ble_eq_true rfl) wr_7_18 rfl rfl rfl (Nat.le_of_ble_eq_true rfl) (fun F3788 e3789 n3790 => ?_)
  have he3791 : F3788 q3728 = .inr (17, [.ref q3729, .ref q3730, .int p3734, .int p3735]) := (n3790 q3728 (rn_oo he3781 he3784 (by decide))).trans he3781
  have he3792 : F3788 q3729 = .inr (4, [.int p3736, .ref (D.2 1002 1), .int p3737]) := (n3790 q3729 (Ne.symm hneq3727q3729)).trans he3782
  have he3793 : F3788 q3730 = .inr (20, [.int p3738, .int p3739, .int p3740, .int p3741, .int p3742, .int p3743, .int p3744]) := (n3790 q3730 (rn_oo he3783 he3784 (by decide))).trans he3783
  have he3794 : F3788 q3756 = .inl (I (.object "java/lang/Object"), n3757, .inr (.inr (.inr (.inr f3780)))) := (n3790 q3756 (fun h => hq3771 (h ▸ hmq3727))).trans he3785
  have he3795 : F3788 q3727 = .inr (4, [.int p3732, .ref q3756, .int z3787]) := e3789
  have hfr3796 : rFr [q3727] P3725 F3726 F3788 := rFr_put' List.mem_cons_self hfr3786 n3790
  exact G_vretA dr_cJx4a65c_add_72be8_22 rfl (Nat.le_of_ble_eq_true rfl) (Nat.le_of_ble_eq_true rfl) ⟨P3759, F3788, z3787, q3756, n3757, f3780, rfl, rfl, hsb3772, hfr3796, he3791, he3792, he3793, he3795, he3794, hm3765, hq3771, (Nat.le_of_ble_eq_true rfl), (Nat.le_of_ble_eq_true rfl), bz3787, (by omega), (rI_add (f := fun _ => none) (m := 0) (fun _ _ => rfl) hf3780 (by omega) (by omega)).2, (rX_none (rSrcX_up hf3780 rSrc_none)), (by omega)⟩
abbrev ky_3715_ArrayList_add : gKey := (cJx4a65c_add_9ea2d, 2, "java/util/ArrayList", (some FieldType.boolean), [], "add", fun _ _ => True)
def pp_3715_ArrayList_add (D : va_G) (I : FieldType → ClassId) (P3695 : List Nat) (F3696 : Nat → va_E) (q3697 : Nat) (q3698 : Nat) (q3699 : Nat) (q3700 : Nat) (p3701 : Int32) (p3702 : Int32) (p3703 : Int32) (p3704 : Int32) (p3705 : Int32) (p3706 : Int32) (p3707 : Int32) (p3708 : Int32) (p3709 : Int32) (p3710 : Int32) (p3711 : Int32) (p3712 : Int32) (p3713 : Int32) : Option Value → va_W → Nat → Nat → Prop := fun r w dc ds => ∃ (P3839 : List Nat) (F3840 : Nat → va_E) (o3834 : Int32) (o3835 : Int32) (q3836 : Nat) (n3837 : Nat) (f3838 : Nat → Option Nat), r = some (.int 1) ∧ w = va_pl P3839 F3840 ∧ rSub P3695 P3839 ∧ rFr [q3697] P3695 F3696 F3840 ∧ F3840 q3698 = .inr (17, [.ref q3699, .ref q3700, .int p3703, .int p3704]) ∧ F3840 q3699 = .inr (4, [.int p3705, .ref (D.2 1002 1), .int p3706]) ∧ F3840 q3700 = .inr (20, [.int p3707, .int p3708, .int p3709, .int p3710, .int p3711, .int p3712, .int p3713]) ∧ F3840 q3697 = .inr (4, [.int o3834, .ref q3836, .int o3835]) ∧ F3840 q3836 = .inl (I (.object "java/lang/Object"), n3837, .inr (.inr (.inr (.inr f3838)))) ∧ q3836 ∈ P3839 ∧ q3836 ∉ P3695 ∧ dc ≤ 1 ∧ ds ≤ 10 ∧ gB o3835 1 1 ∧ o3835.toInt = p3702.toInt + 1 ∧ f3838 p3702.toInt.toNat = some q3698 ∧ (∀ j w, f3838 j = some w → w = q3698) ∧ (n3837 : Int) = 10
set_option maxRecDepth 100000 in
set_option maxHeartbeats 4000000 in
theorem cp_3715_ArrayList_add (l : Launch) (hl0 : l.stackTraces = false) (D : va_G) (I : FieldType → ClassId) (P3695 : List Nat) (F3696 : Nat → va_E) (q3697 : Nat) (q3698 : Nat) (q3699 : Nat) (q3700 : Nat) (p3701 : Int32) (p3702 : Int32) (p3703 : Int32) (p3704 : Int32) (p3705 : Int32) (p3706 : Int32) (p3707 : Int32) (p3708 : Int32) (p3709 : Int32) (p3710 : Int32) (p3711 : Int32) (p3712 : Int32) (p3713 : Int32) (hmq3697 : q3697 ∈ P3695) (hmq3698 : q3698 ∈ P3695) (hmq3699 : q3699 ∈ P3695) (hmq3700 : q3700 ∈ P3695) (heq3697 : F3696 q3697 = .inr (4, [.int p3701, .ref (D.2 1002 1), .int p3702])) (heq3698 : F3696 q3698 = .inr (17, [.ref q3699, .ref q3700, .int p3703, .int p3704])) (heq3699 : F3696 q3699 = .inr (4, [.int p3705, .ref (D.2 1002 1), .int p3706])) (heq3700 : F3696 q3700 = .inr (20, [.int p3707, .int p3708, .int p3709, .int p3710, .int p3711, .int p3712, .int p3713])) (hneq3697q3699 : q3697 ≠ q3699) (bp3702 : gB p3702 0 16777216) (bp3703 : gB p3703 0 39) (bp3704 : gB p3704 0 39) (bp3706 : gB p3706 0 16777216) (bp3707 : gB p3707 0 32) (bp3708 : gB p3708 0 1999) (bp3711 : gB p3711 0 1999) (bp3712 : gB p3712 0 1) (bp3713 : gB p3713 0 1) (x3714 : p3702.toInt = 0) : CtA (gV D I) l yJx4a65c_add_9ea2d cJx4a65c_add_9ea2d 2 (some FieldType.boolean) 4 80 1 10 [.ref q3697, .ref q3698] (va_pl P3695 F3696) (pp_3715_ArrayList_add D I P3695 F3696 q3697 q3698 q3699 q3700 p3701 p3702 p3703 p3704 p3705 p3706 p3707 p3708 p3709 p3710 p3711 p3712 p3713) gNA := by
  refine CtA_ofF hl0 (by decide +kernel) (Nat.le_of_ble_eq_true rfl) ?_
  have bp3701 := gB_any p3701
  have bp3705 := gB_any p3705
  have bp3709 := gB_any p3709
  have bp3710 := gB_any p3710
  refine G_aload_n 0 dr_cJx4a65c_add_9ea2d_0 rfl ?_
  refine G_dup dr_cJx4a65c_add_9ea2d_1 rfl ?_
  refine Gp_getS 0 hmq3697 heq3697 dr_cJx4a65c_add_9ea2d_2 (gk_Jx4a65c D I) (Nat.le_of_ble_eq_true rfl) wr_7_20 wr_7_21 rfl ?_
  refine G_iconst 1 dr_cJx4a65c_add_9ea2d_5 (by decide +kernel) ?_
  refine G_iadd dr_cJx4a65c_add_9ea2d_6 (G_nam fun z3716 hz3716 => ?_)
  have bz3716 : gB z3716 (-2147483648) 2147483647 := gB_any z3716
  refine Gp_putS 0 hmq3697 heq3697 dr_cJx4a65c_add_9ea2d_7 (gk_Jx4a65c D I) (Nat.le_of_ble_eq_true rfl) wr_7_20 wr_7_21 rfl rfl rfl (Nat.le_of_ble_eq_true rfl) (fun F3717 e3718 n3719 => ?_)
  have he3720 : F3717 q3698 = .inr (17, [.ref q3699, .ref q3700, .int p3703, .int p3704]) := (n3719 q3698 (rn_oo heq3698 heq3697 (by decide))).trans heq3698
  have he3721 : F3717 q3699 = .inr (4, [.int p3705, .ref (D.2 1002 1), .int p3706]) := (n3719 q3699 (Ne.symm hneq3697q3699)).trans heq3699
  have he3722 : F3717 q3700 = .inr (20, [.int p3707, .int p3708, .int p3709, .int p3710, .int p3711, .int p3712, .int p3713]) := (n3719 q3700 (rn_oo heq3700 heq3697 (by decide))).trans heq3700
  have he3723 : F3717 q3697 = .inr (4, [.int z3716, .ref (D.2 1002 1), .int p3702]) := e3718
  have hfr3724 : rFr [q3697] P3695 F3696 F3717 := rFr_put (rFr_rf (W := []) (P := P3695) (F := F3696)) n3719
  refine G_aload_n 0 dr_cJx4a65c_add_9ea2d_10 rfl ?_
  refine G_aload_n 1 dr_cJx4a65c_add_9ea2d_11 rfl ?_
  refine G_aload_n 0 dr_cJx4a65c_add_9ea2d_12 rfl ?_
  refine Gp_get 1 hmq3697 he3723 dr_cJx4a65c_add_9ea2d_13 (gk_Jx4a65c D I) (Nat.le_of_ble_eq_true rfl) wr_7_17 rfl ?_
  refine G_aload_n 0 dr_cJx4a65c_add_9ea2d_16 rfl ?_
  refine Gp_get 2 hmq3697 he3723 dr_cJx4a65c_add_9ea2d_17 (gk_Jx4a65c D I) (Nat.le_of_ble_eq_true rfl) wr_7_18 rfl ?_
  refine Gw_callV (As := [.ref q3698, .ref (D.2 1002 1), .int p3702]) (gV_ok D I) (cp_3747_ArrayList_add l hl0 D I P3695 F3717 q3697 q3698 q3699 q3700 p3702 z3716 p3702 p3703 p3704 p3705 p3706 p3707 p3708 p3709 p3710 p3711 p3712 p3713 hmq3697 hmq3698 hmq3699 hmq3700 he3723 he3720 he3721 he3722 hneq3697q3699 bp3702 bp3702 bp3703 bp3704 bp3706 bp3707 bp3708 bp3711 bp3712 bp3713 (by omega) (by omega)) dr_cJx4a65c_add_9ea2d_20 ⟨wr_10_7, wr_1_18, wr_10_10, by decide, rfl, (Nat.le_of_ble_eq_true rfl), (Nat.le_of_ble_eq_true rfl)⟩ wr_10_9 wr_p_85 hmq3697 he3723 rfl (show 0 + 1 ≤ 1 by first | omega | decide) (show 0 + 10 ≤ 10 by first | omega | decide) (Nat.le_of_ble_eq_true rfl) (fun r3806 w3807 dc3803 ds3804 hp3805 => ?_) (fun _ _ _ _ _ z => z.elim)
  obtain ⟨P3816, F3817, o3808, q3809, n3810, f3811, rfl, rfl, hsb3818, hfr3819, he3820, he3821, he3822, he3823, he3824, hm3825, hq3826, hdc, hds, bo3808, x3812, x3813, x3814, x3815⟩ := hp3805
  have hm3827 : q3697 ∈ P3816 := hsb3818 q3697 hmq3697
  have hm3828 : q3698 ∈ P3816 := hsb3818 q3698 hmq3698
  have hm3829 : q3699 ∈ P3816 := hsb3818 q3699 hmq3699
  have hm3830 : q3700 ∈ P3816 := hsb3818 q3700 hmq3700
  have hq3831 : q3809 ∉ P3695 := fun z => hq3826 ((rSub_rf (P := P3695)) q3809 z)
  have hsb3832 : rSub P3695 P3816 := rSub_tr (rSub_rf (P := P3695)) hsb3818
  have hfr3833 : rFr [q3697] P3695 F3696 F3817 := rFr_call (rSub_rf (P := P3695)) hfr3724 hfr3819 (fun b hb hn => ⟨(nm_c (fun e => hn (e ▸ List.mem_cons_self)) nm_n), (nm_c (fun e => hn (e ▸ List.mem_cons_self)) nm_n)⟩)
  change G _ _ _ _ _ _ _ _ _ _ _
  refine G_widen (cs' := 1) (sl' := 10) (by omega) (by omega) ?_
  refine G_iconst 1 dr_cJx4a65c_add_9ea2d_23 (by decide +kernel) ?_
  exact G_zretA FieldType.boolean dr_cJx4a65c_add_9ea2d_24 rfl rfl (Nat.le_of_ble_eq_true rfl) (Nat.le_of_ble_eq_true rfl) ⟨P3816, F3817, z3716, o3808, q3809, n3810, f3811, rfl, rfl, hsb3832, hfr3833, he3820, he3821, he3822, he3823, he3824, hm3825, hq3831, (Nat.le_of_ble_eq_true rfl), (Nat.le_of_ble_eq_true rfl), bo3808, (by omega), (by assumption), (by assumption), (by omega)⟩
abbrev ky_3643_Code_block : gKey := (cX13_block, 2, "SpillForgeModel$Code", (some (FieldType.object "SpillForgeModel$Block")), [], "block", fun _ _ => True)
def pp_3643_Code_block (D : va_G) (I : FieldType → ClassId) (P3632 : List Nat) (F3633 : Nat → va_E) (q3634 : Nat) (q3635 : Nat) (qo3636 : Nat) (p3637 : Int32) (p3638 : Int32) (p3639 : Int32) (p3640 : Int32) : Option Value → va_W → Nat → Nat → Prop := fun r w dc ds => ∃ (P3919 : List Nat) (F3920 : Nat → va_E) (o3909 : Int32) (q3910 : Nat) (o3911 : Int32) (o3912 : Int32) (q3913 : Nat) (o3914 : Int32) (q3915 : Nat) (q3916 : Nat) (n3917 : Nat) (f3918 : Nat → Option Nat), r = some (.ref q3910) ∧ w = va_pl P3919 F3920 ∧ rSub P3632 P3919 ∧ rFr [q3634, q3635] P3632 F3633 F3920 ∧ F3920 q3634 = .inr (18, [.ref q3635, .ref qo3636, .int p3637, .int o3909]) ∧ F3920 q3910 = .inr (17, [.ref q3913, .ref q3915, .int 0, .int 0]) ∧ F3920 q3915 = .inr (20, [.int 0, .int 0, .int 0, .int 0, .int 0, .int 0, .int 0]) ∧ F3920 q3635 = .inr (4, [.int o3911, .ref q3916, .int o3912]) ∧ F3920 q3916 = .inl (I (.object "java/lang/Object"), n3917, .inr (.inr (.inr (.inr f3918)))) ∧ F3920 q3913 = .inr (4, [.int o3914, .ref (D.2 1002 1), .int 0]) ∧ q3910 ∈ P3919 ∧ q3910 ∉ P3632 ∧ q3913 ∈ P3919 ∧ q3913 ∉ P3632 ∧ q3915 ∈ P3919 ∧ q3915 ∉ P3632 ∧ q3916 ∈ P3919 ∧ q3916 ∉ P3632 ∧ dc ≤ 4 ∧ ds ≤ 24 ∧ gB o3909 1 1000001 ∧ gB o3912 1 1 ∧ o3909.toInt = p3638.toInt + 1 ∧ o3912.toInt = p3640.toInt + 1 ∧ f3918 p3640.toInt.toNat = some q3910 ∧ (∀ j w, f3918 j = some w → w = q3910) ∧ (n3917 : Int) = 10
set_option maxRecDepth 100000 in
set_option maxHeartbeats 4000000 in
theorem cp_3643_Code_block (l : Launch) (hl0 : l.stackTraces = false) (D : va_G) (I : FieldType → ClassId) (P3632 : List Nat) (F3633 : Nat → va_E) (q3634 : Nat) (q3635 : Nat) (qo3636 : Nat) (p3637 : Int32) (p3638 : Int32) (p3639 : Int32) (p3640 : Int32) (hmq3634 : q3634 ∈ P3632) (hmq3635 : q3635 ∈ P3632) (heq3634 : F3633 q3634 = .inr (18, [.ref q3635, .ref qo3636, .int p3637, .int p3638])) (heq3635 : F3633 q3635 = .inr (4, [.int p3639, .ref (D.2 1002 1), .int p3640])) (bp3637 : gB p3637 0 1000000) (bp3638 : gB p3638 0 1000000) (bp3640 : gB p3640 0 1000000) (x3641 : p3638.toInt = p3640.toInt) (x3642 : p3640.toInt = 0) : CtA (gV D I) l yX13_block cX13_block 2 (some (FieldType.object "SpillForgeModel$Block")) 5 101 4 24 [.ref q3634] (va_pl P3632 F3633) (pp_3643_Code_block D I P3632 F3633 q3634 q3635 qo3636 p3637 p3638 p3639 p3640) gNA := by
  refine CtA_of hl0 (by decide) (Nat.le_of_ble_eq_true rfl) ?_
  have bp3639 := gB_any p3639
  refine G_aload_n 0 dr_cX13_block_0 rfl ?_
  refine Gp_get 3 hmq3634 heq3634 dr_cX13_block_1 (gk_X13 D I) (Nat.le_of_ble_eq_true rfl) wr_7_33 rfl ?_
  refine G_aload_n 0 dr_cX13_block_4 rfl ?_
  refine Gp_get 0 hmq3634 heq3634 dr_cX13_block_5 (gk_X13 D I) (Nat.le_of_ble_eq_true rfl) wr_7_30 rfl ?_
  refine Gw_callV (As := []) (gV_ok D I) (cp_2702_ArrayList_size l hl0 D I P3632 F3633 q3635 p3639 p3640 hmq3635 heq3635 (gB_w bp3640 (by decide) (by decide))) dr_cX13_block_8 ⟨wr_9_157, wr_1_18, wr_9_160, by decide, rfl, (Nat.le_of_ble_eq_true rfl), (Nat.le_of_ble_eq_true rfl)⟩ wr_9_158 wr_9_159 hmq3635 heq3635 rfl (show 0 + 0 ≤ 4 by first | omega | decide) (show 0 + 0 ≤ 24 by first | omega | decide) (Nat.le_of_ble_eq_true rfl) (fun r3647 w3648 dc3644 ds3645 hp3646 => ?_) (fun _ _ _ _ _ z => z.elim)
  obtain ⟨rfl, rfl, hdc, hds⟩ := hp3646
  change G _ _ _ _ _ _ _ (.int p3640 :: _) _ _ _
  refine G_widen (cs' := 0) (sl' := 0) (by omega) (by omega) ?_
  refine G_icmp_ne 29 dr_cX13_block_11 (by decide +kernel) (fun hc => absurd (show False by have := gC_ne hc; omega) not_false) (fun hc3649 => ?_)
  have r3651 : p3638.toInt = p3640.toInt := gC_eq hc3649
  refine G_aload_n 0 dr_cX13_block_14 rfl ?_
  refine Gp_get 0 hmq3634 heq3634 dr_cX13_block_15 (gk_X13 D I) (Nat.le_of_ble_eq_true rfl) wr_7_30 rfl ?_
  refine G_new [.null, .null, .int 0, .int 0] dr_cX13_block_18 (gk_X12 D I) wr_9_161 wr_9_162 wr_1_38 (gfs_X12) (show 0 + 1 ≤ 4 by first | omega | decide) (show 0 + 4 ≤ 24 by first | omega | decide) (fun q3652 => Gp_in (fun P3653 F3654 hq3655 hP3656 e3657 n3658 => ?_))
  refine G_widen (cs' := 1) (sl' := 4) (by omega) (by omega) ?_
  have he3659 : F3654 q3634 = .inr (18, [.ref q3635, .ref qo3636, .int p3637, .int p3638]) := (n3658 q3634 (fun h => hq3655 (h ▸ hmq3634))).trans heq3634
  have he3660 : F3654 q3635 = .inr (4, [.int p3639, .ref (D.2 1002 1), .int p3640]) := (n3658 q3635 (fun h => hq3655 (h ▸ hmq3635))).trans heq3635
  have he3661 : F3654 q3652 = .inr (17, [.null, .null, .int 0, .int 0]) := e3657
  have hm3662 : q3634 ∈ P3653 := (hP3656 q3634).mpr (Or.inl hmq3634)
  have hm3663 : q3635 ∈ P3653 := (hP3656 q3635).mpr (Or.inl hmq3635)
  have hm3664 : q3652 ∈ P3653 := (hP3656 q3652).mpr (Or.inr rfl)
  have hq3665 : q3652 ∉ P3632 := fun z => hq3655 ((rSub_rf (P := P3632)) q3652 z)
  have hfr3666 : rFr [] P3632 F3633 F3654 := rFr_new (rSub_rf (P := P3632)) hq3655 (rFr_rf (W := []) (P := P3632) (F := F3633)) n3658
  have hsb3667 : rSub P3632 P3653 := rSub_new (rSub_rf (P := P3632)) hP3656
  refine G_dup dr_cX13_block_21 rfl ?_
  refine Gw_callIN (As := []) (gV_ok D I) (cp_3029_Block_init l hl0 D I P3653 F3654 q3652 0 0 hm3664 he3661 (gB_w (gBl (show Int32.toInt 0 = 0 by decide)) (by decide) (by decide)) (gB_w (gBl (show Int32.toInt 0 = 0 by decide)) (by decide) (by decide))) dr_cX13_block_22 ⟨(fun _ _ _ h => gn_w 78 rfl h), wr_1_38, wr_9_165, by decide, rfl, (Nat.le_of_ble_eq_true rfl), (Nat.le_of_ble_eq_true rfl)⟩ wr_9_164 rfl (show 1 + 2 ≤ 4 by first | omega | decide) (show 4 + 10 ≤ 24 by first | omega | decide) (Nat.le_of_ble_eq_true rfl) (fun r3671 w3672 dc3668 ds3669 hp3670 => ?_)
  obtain ⟨P3675, F3676, q3673, q3674, rfl, rfl, hsb3677, hfr3678, he3679, he3680, he3681, hm3682, hq3683, hm3684, hq3685, hdc, hds⟩ := hp3670
  have hm3686 : q3634 ∈ P3675 := hsb3677 q3634 hm3662
  have hm3687 : q3635 ∈ P3675 := hsb3677 q3635 hm3663
  have hm3688 : q3652 ∈ P3675 := hsb3677 q3652 hm3664
  have hq3689 : q3673 ∉ P3632 := fun z => hq3683 (hsb3667 q3673 z)
  have hq3690 : q3674 ∉ P3632 := fun z => hq3685 (hsb3667 q3674 z)
  have hsb3691 : rSub P3632 P3675 := rSub_tr hsb3667 hsb3677
  have he3692 : F3676 q3634 = .inr (18, [.ref q3635, .ref qo3636, .int p3637, .int p3638]) := (hfr3678 q3634 hm3662 (nm_c (fun h => hq3665 (h ▸ hmq3634)) nm_n)).trans he3659
  have he3693 : F3676 q3635 = .inr (4, [.int p3639, .ref (D.2 1002 1), .int p3640]) := (hfr3678 q3635 hm3663 (nm_c (fun h => hq3665 (h ▸ hmq3635)) nm_n)).trans he3660
  have hfr3694 : rFr [] P3632 F3633 F3676 := rFr_call hsb3667 hfr3666 hfr3678 (fun b hb hn => ⟨nm_n, (nm_c (fun e => hq3665 (e ▸ hb)) nm_n)⟩)
  change G _ _ _ _ _ _ _ _ _ _ _
  refine G_widen (cs' := 3) (sl' := 14) (by omega) (by omega) ?_
  refine Gw_callV (As := [.ref q3652]) (gV_ok D I) (cp_3715_ArrayList_add l hl0 D I P3675 F3676 q3635 q3652 q3673 q3674 p3639 p3640 0 0 0 0 0 0 0 0 0 0 0 hm3687 hm3688 hm3682 hm3684 he3693 he3679 he3680 he3681 (fun h => hq3689 (h ▸ hmq3635)) (gB_w bp3640 (by decide) (by decide)) (gB_w (gBl (show Int32.toInt 0 = 0 by decide)) (by decide) (by decide)) (gB_w (gBl (show Int32.toInt 0 = 0 by decide)) (by decide) (by decide)) (gB_w (gBl (show Int32.toInt 0 = 0 by decide)) (by decide) (by decide)) (gB_w (gBl (show Int32.toInt 0 = 0 by decide)) (by decide) (by decide)) (gB_w (gBl (show Int32.toInt 0 = 0 by decide)) (by decide) (by decide)) (gB_w (gBl (show Int32.toInt 0 = 0 by decide)) (by decide) (by decide)) (gB_w (gBl (show Int32.toInt 0 = 0 by decide)) (by decide) (by decide)) (gB_w (gBl (show Int32.toInt 0 = 0 by decide)) (by decide) (by decide)) (by have qa0 : Int32.toInt 0 = 0 := (by decide); omega)) dr_cX13_block_25 ⟨wr_10_3, wr_1_18, wr_10_6, by decide, rfl, (Nat.le_of_ble_eq_true rfl), (Nat.le_of_ble_eq_true rfl)⟩ wr_10_4 wr_10_5 hm3687 he3693 rfl (show 3 + 1 ≤ 4 by first | omega | decide) (show 14 + 10 ≤ 24 by first | omega | decide) (Nat.le_of_ble_eq_true rfl) (fun r3844 w3845 dc3841 ds3842 hp3843 => ?_) (fun _ _ _ _ _ z => z.elim)
  obtain ⟨P3855, F3856, o3846, o3847, q3848, n3849, f3850, rfl, rfl, hsb3857, hfr3858, he3859, he3860, he3861, he3862, he3863, hm3864, hq3865, hdc, hds, bo3847, x3851, x3852, x3853, x3854⟩ := hp3843
  have hm3866 : q3634 ∈ P3855 := hsb3857 q3634 hm3686
  have hm3867 : q3635 ∈ P3855 := hsb3857 q3635 hm3687
  have hm3868 : q3652 ∈ P3855 := hsb3857 q3652 hm3688
  have hm3869 : q3673 ∈ P3855 := hsb3857 q3673 hm3682
  have hm3870 : q3674 ∈ P3855 := hsb3857 q3674 hm3684
  have hq3871 : q3848 ∉ P3632 := fun z => hq3865 (hsb3691 q3848 z)
  have hsb3872 : rSub P3632 P3855 := rSub_tr hsb3691 hsb3857
  have he3873 : F3856 q3634 = .inr (18, [.ref q3635, .ref qo3636, .int p3637, .int p3638]) := (hfr3858 q3634 hm3686 (nm_c (rn_oo he3692 he3693 (by decide)) nm_n)).trans he3692
  have hfr3874 : rFr [q3635] P3632 F3633 F3856 := rFr_call hsb3691 hfr3694 hfr3858 (fun b hb hn => ⟨nm_n, (nm_c (fun e => hn (e ▸ List.mem_cons_self)) nm_n)⟩)
  have bo3846 := gB_any o3846
  change G _ _ _ _ _ _ _ (.int 1 :: _) _ _ _
  refine G_widen (cs' := 4) (sl' := 24) (by omega) (by omega) ?_
  have hx3875 : f3850 p3638.toNatClampNeg = some q3652 := by show f3850 p3638.toInt.toNat = _; rw [show p3638.toInt = p3640.toInt by omega]; exact x3852
  refine G_pop dr_cX13_block_28 rfl ?_
  refine G_aload_n 0 dr_cX13_block_29 rfl ?_
  refine Gp_get 0 hm3866 he3873 dr_cX13_block_30 (gk_X13 D I) (Nat.le_of_ble_eq_true rfl) wr_7_30 rfl ?_
  refine G_aload_n 0 dr_cX13_block_33 rfl ?_
  refine Gp_get 3 hm3866 he3873 dr_cX13_block_34 (gk_X13 D I) (Nat.le_of_ble_eq_true rfl) wr_7_33 rfl ?_
  refine Gw_callV (As := [.int p3638]) (gV_ok D I) (cp_22_ArrayList_get l hl0 D I P3855 F3856 q3635 q3848 p3638 o3846 o3847 f3850 n3849 q3652 hm3867 hm3864 he3862 he3863 (gB_w bp3638 (by decide) (by decide)) (gB_w bo3847 (by decide) (by decide)) (by have qa0 : Int32.toInt 0 = 0 := (by decide); omega) (by have qa0 : Int32.toInt 0 = 0 := (by decide); omega) (by assumption) (by have qa0 : Int32.toInt 0 = 0 := (by decide); omega)) dr_cX13_block_37 ⟨wr_10_62, wr_1_18, wr_10_65, by decide, rfl, (Nat.le_of_ble_eq_true rfl), (Nat.le_of_ble_eq_true rfl)⟩ wr_10_63 wr_10_64 hm3867 he3862 rfl (show 4 + 0 ≤ 4 by first | omega | decide) (show 24 + 0 ≤ 24 by first | omega | decide) (Nat.le_of_ble_eq_true rfl) (fun r3879 w3880 dc3876 ds3877 hp3878 => ?_) (fun _ _ _ _ _ z => z.elim)
  obtain ⟨rfl, rfl, hdc, hds, ht3881⟩ := hp3878
  change G _ _ _ _ _ _ _ (.ref q3652 :: _) _ _ _
  refine G_widen (cs' := 4) (sl' := 24) (by omega) (by omega) ?_
  refine Gp_cast hm3868 he3859 rfl dr_cX13_block_40 wr_9_161 (gr_cast 0 rfl) ?_
  refine G_astore_n (L' := [(1, .ref q3652), (0, .ref q3634)]) dr_cX13_block_43 (Nat.le_of_ble_eq_true rfl) rfl ?_
  refine G_aload_n 1 dr_cX13_block_44 rfl ?_
  refine G_dup dr_cX13_block_45 rfl ?_
  refine Gp_get 3 hm3866 he3873 dr_cX13_block_46 (gk_X13 D I) (Nat.le_of_ble_eq_true rfl) wr_7_33 rfl ?_
  refine G_iconst 1 dr_cX13_block_49 (by decide +kernel) ?_
  refine G_iadd dr_cX13_block_50 (G_nam fun z3882 hz3882 => ?_)
  have ez3882 : z3882.toInt = p3638.toInt + 1 := by rw [gI_add hz3882 bp3638 (gBl (show Int32.toInt 1 = 1 by decide)) (by decide) (by decide), show Int32.toInt 1 = 1 from by decide]
  have bz3882 : gB z3882 1 1000001 := gB_add (gI_add hz3882 bp3638 (gBl (show Int32.toInt 1 = 1 by decide)) (by decide) (by decide)) bp3638 (gBl (show Int32.toInt 1 = 1 by decide)) (by decide) (by decide)
  refine Gp_put 3 hm3866 he3873 dr_cX13_block_51 (gk_X13 D I) (Nat.le_of_ble_eq_true rfl) wr_7_33 rfl rfl rfl (Nat.le_of_ble_eq_true rfl) (fun F3883 e3884 n3885 => ?_)
  have he3886 : F3883 q3652 = .inr (17, [.ref q3673, .ref q3674, .int 0, .int 0]) := (n3885 q3652 (fun h => hq3665 (h ▸ hmq3634))).trans he3859
  have he3887 : F3883 q3673 = .inr (4, [.int 0, .ref (D.2 1002 1), .int 0]) := (n3885 q3673 (fun h => hq3689 (h ▸ hmq3634))).trans he3860
  have he3888 : F3883 q3674 = .inr (20, [.int 0, .int 0, .int 0, .int 0, .int 0, .int 0, .int 0]) := (n3885 q3674 (fun h => hq3690 (h ▸ hmq3634))).trans he3861
  have he3889 : F3883 q3635 = .inr (4, [.int o3846, .ref q3848, .int o3847]) := (n3885 q3635 (rn_oo he3862 he3873 (by decide))).trans he3862
  have he3890 : F3883 q3848 = .inl (I (.object "java/lang/Object"), n3849, .inr (.inr (.inr (.inr f3850)))) := (n3885 q3848 (fun h => hq3871 (h ▸ hmq3634))).trans he3863
  have he3891 : F3883 q3634 = .inr (18, [.ref q3635, .ref qo3636, .int p3637, .int z3882]) := e3884
  have hfr3892 : rFr [q3634, q3635] P3632 F3633 F3883 := rFr_put hfr3874 n3885
  refine G_aload_n 0 dr_cX13_block_54 rfl ?_
  refine Gp_get 0 hm3868 he3886 dr_cX13_block_55 (gk_X12 D I) (Nat.le_of_ble_eq_true rfl) wr_9_219 rfl ?_
  refine Gw_callV (As := []) (gV_ok D I) (cp_1471_ArrayList_clear l hl0 D I P3855 F3883 q3673 0 0 hm3869 he3887 (gB_w (gBl (show Int32.toInt 0 = 0 by decide)) (by decide) (by decide)) (by have qa0 : Int32.toInt 0 = 0 := (by decide); omega)) dr_cX13_block_58 ⟨wr_10_74, wr_1_18, wr_10_77, by decide, rfl, (Nat.le_of_ble_eq_true rfl), (Nat.le_of_ble_eq_true rfl)⟩ wr_10_75 wr_10_76 hm3869 he3887 rfl (show 4 + 0 ≤ 4 by first | omega | decide) (show 24 + 0 ≤ 24 by first | omega | decide) (Nat.le_of_ble_eq_true rfl) (fun r3896 w3897 dc3893 ds3894 hp3895 => ?_) (fun _ _ _ _ _ z => z.elim)
  obtain ⟨F3899, o3898, rfl, rfl, hfr3901, he3902, hdc, hds⟩ := hp3895
  have he3903 : F3899 q3634 = .inr (18, [.ref q3635, .ref qo3636, .int p3637, .int z3882]) := (hfr3901 q3634 hm3866 (nm_c (fun h => hq3689 (h ▸ hmq3634)) nm_n)).trans he3891
  have he3904 : F3899 q3652 = .inr (17, [.ref q3673, .ref q3674, .int 0, .int 0]) := (hfr3901 q3652 hm3868 (nm_c (rn_oo he3886 he3887 (by decide)) nm_n)).trans he3886
  have he3905 : F3899 q3674 = .inr (20, [.int 0, .int 0, .int 0, .int 0, .int 0, .int 0, .int 0]) := (hfr3901 q3674 hm3870 (nm_c (rn_oo he3888 he3887 (by decide)) nm_n)).trans he3888
  have he3906 : F3899 q3635 = .inr (4, [.int o3846, .ref q3848, .int o3847]) := (hfr3901 q3635 hm3867 (nm_c (fun h => hq3689 (h ▸ hmq3635)) nm_n)).trans he3889
  have he3907 : F3899 q3848 = .inl (I (.object "java/lang/Object"), n3849, .inr (.inr (.inr (.inr f3850)))) := (hfr3901 q3848 hm3864 (nm_c (rn_ao he3890 he3887) nm_n)).trans he3890
  have hfr3908 : rFr [q3634, q3635] P3632 F3633 F3899 := rFr_call hsb3872 hfr3892 hfr3901 (fun b hb hn => ⟨(nm_c (fun e => hn (e ▸ List.mem_cons_self)) (nm_c (fun e => hn (e ▸ (List.mem_cons_of_mem _ List.mem_cons_self))) nm_n)), (nm_c (fun e => hq3689 (e ▸ hb)) nm_n)⟩)
  have bo3898 := gB_any o3898
  change G _ _ _ _ _ _ _ _ _ _ _
  refine G_widen (cs' := 4) (sl' := 24) (by omega) (by omega) ?_
  refine G_aload_n 0 dr_cX13_block_61 rfl ?_
  exact G_aretA (FieldType.object "SpillForgeModel$Block") dr_cX13_block_62 rfl (by first | exact Or.inl ⟨_, rfl⟩ | exact Or.inr ⟨_, rfl⟩) (Or.inr ⟨_, rfl⟩) (Nat.le_of_ble_eq_true rfl) (Nat.le_of_ble_eq_true rfl) ⟨P3855, F3899, z3882, q3652, o3846, o3847, q3673, o3898, q3674, q3848, n3849, f3850, rfl, rfl, hsb3872, hfr3908, he3903, he3904, he3905, he3906, he3907, he3902, hm3868, hq3665, hm3869, hq3689, hm3870, hq3690, hm3864, hq3871, (Nat.le_of_ble_eq_true rfl), (Nat.le_of_ble_eq_true rfl), bz3882, bo3847, (by have qa0 : Int32.toInt 0 = 0 := (by decide); omega), (by have qa0 : Int32.toInt 0 = 0 := (by decide); omega), (by assumption), (by assumption), (by have qa0 : Int32.toInt 0 = 0 := (by decide); omega)⟩
