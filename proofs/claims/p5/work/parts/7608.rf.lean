theorem dr_cX13_begin_0 : decode cX13_begin 0 = .ok (.aload_n 0, 1) := by decide +kernel
theorem dr_cX13_begin_1 : decode cX13_begin 1 = .ok (.iconst 0, 1) := by decide +kernel
theorem dr_cX13_begin_2 : decode cX13_begin 2 = .ok (.putfield 19, 3) := by decide +kernel
theorem dr_cX13_begin_5 : decode cX13_begin 5 = .ok (.aload_n 0, 1) := by decide +kernel
theorem dr_cX13_begin_6 : decode cX13_begin 6 = .ok (.iconst 0, 1) := by decide +kernel
theorem dr_cX13_begin_7 : decode cX13_begin 7 = .ok (.putfield 23, 3) := by decide +kernel
theorem dr_cX13_begin_10 : decode cX13_begin 10 = .ok (.return_, 1) := by decide +kernel
abbrev ky_3296_Code_block : gKey := (cX13_block, 2, "SpillForgeModel$Code", (some (FieldType.object "SpillForgeModel$Block")), [], "block", fun _ _ => True)
def pp_3296_Code_block (D : va_G) (I : FieldType → ClassId) (P3278 : List Nat) (F3279 : Nat → va_E) (q3280 : Nat) (q3281 : Nat) (q3282 : Nat) (qo3283 : Nat) (p3284 : Int32) (p3285 : Int32) (p3286 : Int32) (p3287 : Int32) (f3288 : Nat → Option Nat) (n3289 : Nat) : Option Value → va_W → Nat → Nat → Prop := fun r w dc ds => ∃ (P3604 : List Nat) (F3605 : Nat → va_E) (o3594 : Int32) (q3595 : Nat) (o3596 : Int32) (o3597 : Int32) (q3598 : Nat) (o3599 : Int32) (q3600 : Nat) (q3601 : Nat) (n3602 : Nat) (f3603 : Nat → Option Nat), r = some (.ref q3595) ∧ w = va_pl P3604 F3605 ∧ rSub P3278 P3604 ∧ rFr [q3280, q3281] P3278 F3279 F3605 ∧ F3605 q3280 = .inr (18, [.ref q3281, .ref qo3283, .int p3284, .int o3594]) ∧ F3605 q3595 = .inr (17, [.ref q3598, .ref q3600, .int 0, .int 0]) ∧ F3605 q3600 = .inr (20, [.int 0, .int 0, .int 0, .int 0, .int 0, .int 0, .int 0]) ∧ F3605 q3281 = .inr (4, [.int o3596, .ref q3601, .int o3597]) ∧ F3605 q3601 = .inl (I (.object "java/lang/Object"), n3602, .inr (.inr (.inr (.inr f3603)))) ∧ F3605 q3598 = .inr (4, [.int o3599, .ref (D.2 1002 1), .int 0]) ∧ q3595 ∈ P3604 ∧ q3595 ∉ P3278 ∧ q3598 ∈ P3604 ∧ q3598 ∉ P3278 ∧ q3600 ∈ P3604 ∧ q3600 ∉ P3278 ∧ q3601 ∈ P3604 ∧ q3601 ∉ P3278 ∧ dc ≤ 4 ∧ ds ≤ n3289 + n3289 / 2 + 1 + 14 ∧ gB o3594 1 1000001 ∧ gB o3597 1 16777217 ∧ o3594.toInt = p3285.toInt + 1 ∧ o3597.toInt = p3287.toInt + 1 ∧ ((∀ j : Nat, (j : Int) < p3287.toInt → f3603 j = f3288 j) ∧ f3603 p3287.toInt.toNat = some q3595) ∧ rSrcX f3603 f3288 q3595 ∧ ((n3602 : Int) ≤ (n3289 : Int) + (n3289 : Int) / 2 + 1 ∧ (n3289 : Int) + 1 ≤ (n3602 : Int) ∧ (n3289 : Int) + (n3289 : Int) / 2 ≤ (n3602 : Int))
set_option maxRecDepth 100000 in
set_option maxHeartbeats 4000000 in
theorem cp_3296_Code_block (l : Launch) (hl0 : l.stackTraces = false) (D : va_G) (I : FieldType → ClassId) (P3278 : List Nat) (F3279 : Nat → va_E) (q3280 : Nat) (q3281 : Nat) (q3282 : Nat) (qo3283 : Nat) (p3284 : Int32) (p3285 : Int32) (p3286 : Int32) (p3287 : Int32) (f3288 : Nat → Option Nat) (n3289 : Nat) (hmq3280 : q3280 ∈ P3278) (hmq3281 : q3281 ∈ P3278) (hmq3282 : q3282 ∈ P3278) (heq3280 : F3279 q3280 = .inr (18, [.ref q3281, .ref qo3283, .int p3284, .int p3285])) (heq3281 : F3279 q3281 = .inr (4, [.int p3286, .ref q3282, .int p3287])) (heq3282 : F3279 q3282 = .inl (I (.object "java/lang/Object"), n3289, .inr (.inr (.inr (.inr f3288))))) (bp3284 : gB p3284 0 1000000) (bp3285 : gB p3285 0 1000000) (bp3287 : gB p3287 0 1000000) (x3290 : p3285.toInt = p3287.toInt) (x3291 : 0 < (n3289 : Int)) (x3292 : (n3289 : Int) ≤ 1000000) (x3293 : p3287.toInt = (n3289 : Int)) (x3294 : rEl P3278 F3279 f3288) (x3295 : ((n3289 : Int) ≤ 16777216)) : CtA (gV D I) l yX13_block cX13_block 2 (some (FieldType.object "SpillForgeModel$Block")) 7 149 4 (n3289 + n3289 / 2 + 1 + 14) [.ref q3280] (va_pl P3278 F3279) (pp_3296_Code_block D I P3278 F3279 q3280 q3281 q3282 qo3283 p3284 p3285 p3286 p3287 f3288 n3289) gNA := by
  refine CtA_of hl0 (by decide) (Nat.le_of_ble_eq_true rfl) ?_
  have bp3286 := gB_any p3286
  refine G_aload_n 0 dr_cX13_block_0 rfl ?_
  refine Gp_get 3 hmq3280 heq3280 dr_cX13_block_1 (gk_X13 D I) (Nat.le_of_ble_eq_true rfl) wr_7_33 rfl ?_
  refine G_aload_n 0 dr_cX13_block_4 rfl ?_
  refine Gp_get 0 hmq3280 heq3280 dr_cX13_block_5 (gk_X13 D I) (Nat.le_of_ble_eq_true rfl) wr_7_30 rfl ?_
  refine Gw_callV (As := []) (gV_ok D I) (cp_2281_ArrayList_size l hl0 D I P3278 F3279 q3281 q3282 p3286 p3287 f3288 n3289 hmq3281 hmq3282 heq3281 heq3282 (gB_w bp3287 (by decide) (by decide)) (by omega)) dr_cX13_block_8 ⟨wr_9_153, wr_1_18, wr_9_156, by decide, rfl, (Nat.le_of_ble_eq_true rfl), (Nat.le_of_ble_eq_true rfl)⟩ wr_9_154 wr_9_155 hmq3281 heq3281 rfl (show 0 + 0 ≤ 4 by first | omega | decide) (show 0 + 0 ≤ (n3289 + n3289 / 2 + 1 + 14) by first | omega | decide) (Nat.le_of_ble_eq_true rfl) (fun r3300 w3301 dc3297 ds3298 hp3299 => ?_) (fun _ _ _ _ _ z => z.elim)
  obtain ⟨rfl, rfl, hdc, hds⟩ := hp3299
  change G _ _ _ _ _ _ _ (.int p3287 :: _) _ _ _
  refine G_widen (cs' := 0) (sl' := 0) (by omega) (by omega) ?_
  refine G_icmp_ne 29 dr_cX13_block_11 (by decide +kernel) (fun hc => absurd (show False by have := gC_ne hc; omega) not_false) (fun hc3302 => ?_)
  have r3304 : p3285.toInt = p3287.toInt := gC_eq hc3302
  refine G_aload_n 0 dr_cX13_block_14 rfl ?_
  refine Gp_get 0 hmq3280 heq3280 dr_cX13_block_15 (gk_X13 D I) (Nat.le_of_ble_eq_true rfl) wr_7_30 rfl ?_
  refine G_new [.null, .null, .int 0, .int 0] dr_cX13_block_18 (gk_X12 D I) wr_9_157 wr_9_158 wr_1_38 (gfs_X12) (show 0 + 1 ≤ 4 by first | omega | decide) (show 0 + 4 ≤ (n3289 + n3289 / 2 + 1 + 14) by first | omega | decide) (fun q3305 => Gp_in (fun P3306 F3307 hq3308 hP3309 e3310 n3311 => ?_))
  refine G_widen (cs' := 1) (sl' := 4) (by omega) (by omega) ?_
  have he3312 : F3307 q3280 = .inr (18, [.ref q3281, .ref qo3283, .int p3284, .int p3285]) := (n3311 q3280 (fun h => hq3308 (h ▸ hmq3280))).trans heq3280
  have he3313 : F3307 q3281 = .inr (4, [.int p3286, .ref q3282, .int p3287]) := (n3311 q3281 (fun h => hq3308 (h ▸ hmq3281))).trans heq3281
  have he3314 : F3307 q3282 = .inl (I (.object "java/lang/Object"), n3289, .inr (.inr (.inr (.inr f3288)))) := (n3311 q3282 (fun h => hq3308 (h ▸ hmq3282))).trans heq3282
  have he3315 : F3307 q3305 = .inr (17, [.null, .null, .int 0, .int 0]) := e3310
  have hm3316 : q3280 ∈ P3306 := (hP3309 q3280).mpr (Or.inl hmq3280)
  have hm3317 : q3281 ∈ P3306 := (hP3309 q3281).mpr (Or.inl hmq3281)
  have hm3318 : q3282 ∈ P3306 := (hP3309 q3282).mpr (Or.inl hmq3282)
  have hm3319 : q3305 ∈ P3306 := (hP3309 q3305).mpr (Or.inr rfl)
  have hq3320 : q3305 ∉ P3278 := fun z => hq3308 ((rSub_rf (P := P3278)) q3305 z)
  have hfr3321 : rFr [] P3278 F3279 F3307 := rFr_new (rSub_rf (P := P3278)) hq3308 (rFr_rf (W := []) (P := P3278) (F := F3279)) n3311
  have hsb3322 : rSub P3278 P3306 := rSub_new (rSub_rf (P := P3278)) hP3309
  refine G_dup dr_cX13_block_21 rfl ?_
  refine Gw_callIN (As := []) (gV_ok D I) (cp_3005_Block_init l hl0 D I P3306 F3307 q3305 0 0 hm3319 he3315 (gB_w (gBl (show Int32.toInt 0 = 0 by decide)) (by decide) (by decide)) (gB_w (gBl (show Int32.toInt 0 = 0 by decide)) (by decide) (by decide))) dr_cX13_block_22 ⟨(fun _ _ _ h => gn_w 78 rfl h), wr_1_38, wr_9_161, by decide, rfl, (Nat.le_of_ble_eq_true rfl), (Nat.le_of_ble_eq_true rfl)⟩ wr_9_160 rfl (show 1 + 2 ≤ 4 by first | omega | decide) (show 4 + 10 ≤ (n3289 + n3289 / 2 + 1 + 14) by first | omega | decide) (Nat.le_of_ble_eq_true rfl) (fun r3326 w3327 dc3323 ds3324 hp3325 => ?_)
  obtain ⟨P3330, F3331, q3328, q3329, rfl, rfl, hsb3332, hfr3333, he3334, he3335, he3336, hm3337, hq3338, hm3339, hq3340, hdc, hds⟩ := hp3325
  have hm3341 : q3280 ∈ P3330 := hsb3332 q3280 hm3316
  have hm3342 : q3281 ∈ P3330 := hsb3332 q3281 hm3317
  have hm3343 : q3282 ∈ P3330 := hsb3332 q3282 hm3318
  have hm3344 : q3305 ∈ P3330 := hsb3332 q3305 hm3319
  have hq3345 : q3328 ∉ P3278 := fun z => hq3338 (hsb3322 q3328 z)
  have hq3346 : q3329 ∉ P3278 := fun z => hq3340 (hsb3322 q3329 z)
  have hsb3347 : rSub P3278 P3330 := rSub_tr hsb3322 hsb3332
  have he3348 : F3331 q3280 = .inr (18, [.ref q3281, .ref qo3283, .int p3284, .int p3285]) := (hfr3333 q3280 hm3316 (nm_c (fun h => hq3320 (h ▸ hmq3280)) nm_n)).trans he3312
  have he3349 : F3331 q3281 = .inr (4, [.int p3286, .ref q3282, .int p3287]) := (hfr3333 q3281 hm3317 (nm_c (fun h => hq3320 (h ▸ hmq3281)) nm_n)).trans he3313
  have he3350 : F3331 q3282 = .inl (I (.object "java/lang/Object"), n3289, .inr (.inr (.inr (.inr f3288)))) := (hfr3333 q3282 hm3318 (nm_c (fun h => hq3320 (h ▸ hmq3282)) nm_n)).trans he3314
  have hfr3351 : rFr [] P3278 F3279 F3331 := rFr_call hsb3322 hfr3321 hfr3333 (fun b hb hn => ⟨nm_n, (nm_c (fun e => hq3320 (e ▸ hb)) nm_n)⟩)
  change G _ _ _ _ _ _ _ _ _ _ _
  refine G_widen (cs' := 3) (sl' := 14) (by omega) (by omega) ?_
  refine Gw_callV (As := [.ref q3305]) (gV_ok D I) (cp_3379_ArrayList_add l hl0 D I P3330 F3331 q3281 q3305 q3282 q3328 q3329 p3286 p3287 0 0 f3288 n3289 0 0 0 0 0 0 0 0 0 hm3342 hm3344 hm3343 hm3337 hm3339 he3349 he3334 he3350 he3335 he3336 (fun h => hq3345 (h ▸ hmq3281)) (gB_w bp3287 (by decide) (by decide)) (gB_w (gBl (show Int32.toInt 0 = 0 by decide)) (by decide) (by decide)) (gB_w (gBl (show Int32.toInt 0 = 0 by decide)) (by decide) (by decide)) (gB_w (gBl (show Int32.toInt 0 = 0 by decide)) (by decide) (by decide)) (gB_w (gBl (show Int32.toInt 0 = 0 by decide)) (by decide) (by decide)) (gB_w (gBl (show Int32.toInt 0 = 0 by decide)) (by decide) (by decide)) (gB_w (gBl (show Int32.toInt 0 = 0 by decide)) (by decide) (by decide)) (gB_w (gBl (show Int32.toInt 0 = 0 by decide)) (by decide) (by decide)) (gB_w (gBl (show Int32.toInt 0 = 0 by decide)) (by decide) (by decide)) (by have qa0 : Int32.toInt 0 = 0 := (by decide); omega) (by have qa0 : Int32.toInt 0 = 0 := (by decide); omega) (by have qa0 : Int32.toInt 0 = 0 := (by decide); omega) (rEl_frG (rEl_src x3294 rSrc_rf) hsb3347 hfr3351 rNg_n) (by have qa0 : Int32.toInt 0 = 0 := (by decide); omega)) dr_cX13_block_25 ⟨wr_9_239, wr_1_18, wr_10_2, by decide, rfl, (Nat.le_of_ble_eq_true rfl), (Nat.le_of_ble_eq_true rfl)⟩ wr_10_0 wr_10_1 hm3342 he3349 rfl (show 3 + 1 ≤ 4 by first | omega | decide) (show 14 + (n3289 + n3289 / 2 + 1) ≤ (n3289 + n3289 / 2 + 1 + 14) by first | omega | decide) (Nat.le_of_ble_eq_true rfl) (fun r3526 w3527 dc3523 ds3524 hp3525 => ?_) (fun _ _ _ _ _ z => z.elim)
  obtain ⟨P3537, F3538, o3528, o3529, q3530, n3531, f3532, rfl, rfl, hsb3539, hfr3540, he3541, he3542, he3543, he3544, he3545, hm3546, hq3547, hdc, hds, bo3529, x3533, x3534, x3535, x3536⟩ := hp3525
  have hm3548 : q3280 ∈ P3537 := hsb3539 q3280 hm3341
  have hm3549 : q3281 ∈ P3537 := hsb3539 q3281 hm3342
  have hm3550 : q3282 ∈ P3537 := hsb3539 q3282 hm3343
  have hm3551 : q3305 ∈ P3537 := hsb3539 q3305 hm3344
  have hm3552 : q3328 ∈ P3537 := hsb3539 q3328 hm3337
  have hm3553 : q3329 ∈ P3537 := hsb3539 q3329 hm3339
  have hq3554 : q3530 ∉ P3278 := fun z => hq3547 (hsb3347 q3530 z)
  have hsb3555 : rSub P3278 P3537 := rSub_tr hsb3347 hsb3539
  have he3556 : F3538 q3280 = .inr (18, [.ref q3281, .ref qo3283, .int p3284, .int p3285]) := (hfr3540 q3280 hm3341 (nm_c (rn_oo he3348 he3349 (by decide)) nm_n)).trans he3348
  have he3557 : F3538 q3282 = .inl (I (.object "java/lang/Object"), n3289, .inr (.inr (.inr (.inr f3288)))) := (hfr3540 q3282 hm3343 (nm_c (rn_ao he3350 he3349) nm_n)).trans he3350
  have hfr3558 : rFr [q3281] P3278 F3279 F3538 := rFr_call hsb3347 hfr3351 hfr3540 (fun b hb hn => ⟨nm_n, (nm_c (fun e => hn (e ▸ List.mem_cons_self)) nm_n)⟩)
  have bo3528 := gB_any o3528
  change G _ _ _ _ _ _ _ (.int 1 :: _) _ _ _
  refine G_widen (cs' := 4) (sl' := 14 + (n3289 + n3289 / 2 + 1)) (by omega) (by omega) ?_
  have hx3559 : f3532 p3285.toNatClampNeg = some q3305 := by show f3532 p3285.toInt.toNat = _; rw [show p3285.toInt = p3287.toInt by omega]; exact x3534.2
  refine G_pop dr_cX13_block_28 rfl ?_
  refine G_aload_n 0 dr_cX13_block_29 rfl ?_
  refine Gp_get 0 hm3548 he3556 dr_cX13_block_30 (gk_X13 D I) (Nat.le_of_ble_eq_true rfl) wr_7_30 rfl ?_
  refine G_aload_n 0 dr_cX13_block_33 rfl ?_
  refine Gp_get 3 hm3548 he3556 dr_cX13_block_34 (gk_X13 D I) (Nat.le_of_ble_eq_true rfl) wr_7_33 rfl ?_
  refine Gw_callV (As := [.int p3285]) (gV_ok D I) (cp_22_ArrayList_get l hl0 D I P3537 F3538 q3281 q3530 p3285 o3528 o3529 f3532 n3531 q3305 hm3549 hm3546 he3544 he3545 (gB_w bp3285 (by decide) (by decide)) ⟨by omega, by omega⟩ (by have qa0 : Int32.toInt 0 = 0 := (by decide); omega) (by have qa0 : Int32.toInt 0 = 0 := (by decide); omega) (by assumption) (by have qa0 : Int32.toInt 0 = 0 := (by decide); omega)) dr_cX13_block_37 ⟨wr_10_58, wr_1_18, wr_10_61, by decide, rfl, (Nat.le_of_ble_eq_true rfl), (Nat.le_of_ble_eq_true rfl)⟩ wr_10_59 wr_10_60 hm3549 he3544 rfl (show 4 + 0 ≤ 4 by first | omega | decide) (show 14 + (n3289 + n3289 / 2 + 1) + 0 ≤ (n3289 + n3289 / 2 + 1 + 14) by first | omega | decide) (Nat.le_of_ble_eq_true rfl) (fun r3563 w3564 dc3560 ds3561 hp3562 => ?_) (fun _ _ _ _ _ z => z.elim)
  obtain ⟨rfl, rfl, hdc, hds⟩ := hp3562
  change G _ _ _ _ _ _ _ (.ref q3305 :: _) _ _ _
  refine G_widen (cs' := 4) (sl' := 14 + (n3289 + n3289 / 2 + 1) + 0) (by omega) (by omega) ?_
  refine Gp_cast hm3551 he3541 rfl dr_cX13_block_40 wr_9_157 (gr_cast 0 rfl) ?_
  refine G_astore_n (L' := [(1, .ref q3305), (0, .ref q3280)]) dr_cX13_block_43 (Nat.le_of_ble_eq_true rfl) rfl ?_
  refine G_aload_n 1 dr_cX13_block_44 rfl ?_
  refine G_dup dr_cX13_block_45 rfl ?_
  refine Gp_get 3 hm3548 he3556 dr_cX13_block_46 (gk_X13 D I) (Nat.le_of_ble_eq_true rfl) wr_7_33 rfl ?_
  refine G_iconst 1 dr_cX13_block_49 (by decide +kernel) ?_
  refine G_iadd dr_cX13_block_50 (G_nam fun z3565 hz3565 => ?_)
  have ez3565 : z3565.toInt = p3285.toInt + 1 := by rw [gI_add hz3565 bp3285 (gBl (show Int32.toInt 1 = 1 by decide)) (by decide) (by decide), show Int32.toInt 1 = 1 from by decide]
  have bz3565 : gB z3565 1 1000001 := gB_add (gI_add hz3565 bp3285 (gBl (show Int32.toInt 1 = 1 by decide)) (by decide) (by decide)) bp3285 (gBl (show Int32.toInt 1 = 1 by decide)) (by decide) (by decide)
  refine Gp_put 3 hm3548 he3556 dr_cX13_block_51 (gk_X13 D I) (Nat.le_of_ble_eq_true rfl) wr_7_33 rfl rfl rfl (Nat.le_of_ble_eq_true rfl) (fun F3566 e3567 n3568 => ?_)
  have he3569 : F3566 q3282 = .inl (I (.object "java/lang/Object"), n3289, .inr (.inr (.inr (.inr f3288)))) := (n3568 q3282 (rn_ao he3557 he3556)).trans he3557
  have he3570 : F3566 q3305 = .inr (17, [.ref q3328, .ref q3329, .int 0, .int 0]) := (n3568 q3305 (fun h => hq3320 (h ▸ hmq3280))).trans he3541
  have he3571 : F3566 q3328 = .inr (4, [.int 0, .ref (D.2 1002 1), .int 0]) := (n3568 q3328 (fun h => hq3345 (h ▸ hmq3280))).trans he3542
  have he3572 : F3566 q3329 = .inr (20, [.int 0, .int 0, .int 0, .int 0, .int 0, .int 0, .int 0]) := (n3568 q3329 (fun h => hq3346 (h ▸ hmq3280))).trans he3543
  have he3573 : F3566 q3281 = .inr (4, [.int o3528, .ref q3530, .int o3529]) := (n3568 q3281 (rn_oo he3544 he3556 (by decide))).trans he3544
  have he3574 : F3566 q3530 = .inl (I (.object "java/lang/Object"), n3531, .inr (.inr (.inr (.inr f3532)))) := (n3568 q3530 (fun h => hq3554 (h ▸ hmq3280))).trans he3545
  have he3575 : F3566 q3280 = .inr (18, [.ref q3281, .ref qo3283, .int p3284, .int z3565]) := e3567
  have hfr3576 : rFr [q3280, q3281] P3278 F3279 F3566 := rFr_put hfr3558 n3568
  refine G_aload_n 0 dr_cX13_block_54 rfl ?_
  refine Gp_get 0 hm3551 he3570 dr_cX13_block_55 (gk_X12 D I) (Nat.le_of_ble_eq_true rfl) wr_9_215 rfl ?_
  refine Gw_callV (As := []) (gV_ok D I) (cp_1466_ArrayList_clear l hl0 D I P3537 F3566 q3328 0 0 hm3552 he3571 (gB_w (gBl (show Int32.toInt 0 = 0 by decide)) (by decide) (by decide)) (by have qa0 : Int32.toInt 0 = 0 := (by decide); omega)) dr_cX13_block_58 ⟨wr_10_70, wr_1_18, wr_10_73, by decide, rfl, (Nat.le_of_ble_eq_true rfl), (Nat.le_of_ble_eq_true rfl)⟩ wr_10_71 wr_10_72 hm3552 he3571 rfl (show 4 + 0 ≤ 4 by first | omega | decide) (show 14 + (n3289 + n3289 / 2 + 1) + 0 + 0 ≤ (n3289 + n3289 / 2 + 1 + 14) by first | omega | decide) (Nat.le_of_ble_eq_true rfl) (fun r3580 w3581 dc3577 ds3578 hp3579 => ?_) (fun _ _ _ _ _ z => z.elim)
  obtain ⟨F3583, o3582, rfl, rfl, hfr3585, he3586, hdc, hds⟩ := hp3579
  have he3587 : F3583 q3280 = .inr (18, [.ref q3281, .ref qo3283, .int p3284, .int z3565]) := (hfr3585 q3280 hm3548 (nm_c (fun h => hq3345 (h ▸ hmq3280)) nm_n)).trans he3575
  have he3588 : F3583 q3282 = .inl (I (.object "java/lang/Object"), n3289, .inr (.inr (.inr (.inr f3288)))) := (hfr3585 q3282 hm3550 (nm_c (fun h => hq3345 (h ▸ hmq3282)) nm_n)).trans he3569
  have he3589 : F3583 q3305 = .inr (17, [.ref q3328, .ref q3329, .int 0, .int 0]) := (hfr3585 q3305 hm3551 (nm_c (rn_oo he3570 he3571 (by decide)) nm_n)).trans he3570
  have he3590 : F3583 q3329 = .inr (20, [.int 0, .int 0, .int 0, .int 0, .int 0, .int 0, .int 0]) := (hfr3585 q3329 hm3553 (nm_c (rn_oo he3572 he3571 (by decide)) nm_n)).trans he3572
  have he3591 : F3583 q3281 = .inr (4, [.int o3528, .ref q3530, .int o3529]) := (hfr3585 q3281 hm3549 (nm_c (fun h => hq3345 (h ▸ hmq3281)) nm_n)).trans he3573
  have he3592 : F3583 q3530 = .inl (I (.object "java/lang/Object"), n3531, .inr (.inr (.inr (.inr f3532)))) := (hfr3585 q3530 hm3546 (nm_c (rn_ao he3574 he3571) nm_n)).trans he3574
  have hfr3593 : rFr [q3280, q3281] P3278 F3279 F3583 := rFr_call hsb3555 hfr3576 hfr3585 (fun b hb hn => ⟨(nm_c (fun e => hn (e ▸ List.mem_cons_self)) (nm_c (fun e => hn (e ▸ (List.mem_cons_of_mem _ List.mem_cons_self))) nm_n)), (nm_c (fun e => hq3345 (e ▸ hb)) nm_n)⟩)
  have bo3582 := gB_any o3582
  change G _ _ _ _ _ _ _ _ _ _ _
  refine G_widen (cs' := 4) (sl' := 14 + (n3289 + n3289 / 2 + 1) + 0 + 0) (by omega) (by omega) ?_
  refine G_aload_n 0 dr_cX13_block_61 rfl ?_
  exact G_aretA (FieldType.object "SpillForgeModel$Block") dr_cX13_block_62 rfl (by first | exact Or.inl ⟨_, rfl⟩ | exact Or.inr ⟨_, rfl⟩) (Or.inr ⟨_, rfl⟩) (Nat.le_of_ble_eq_true rfl) (show 14 + (n3289 + n3289 / 2 + 1) + 0 + 0 ≤ (n3289 + n3289 / 2 + 1 + 14) by omega) ⟨P3537, F3583, z3565, q3305, o3528, o3529, q3328, o3582, q3329, q3530, n3531, f3532, rfl, rfl, hsb3555, hfr3593, he3587, he3589, he3590, he3591, he3592, he3586, hm3551, hq3320, hm3552, hq3345, hm3553, hq3346, hm3546, hq3554, (Nat.le_of_ble_eq_true rfl), (by omega), bz3565, bo3529, (by have qa0 : Int32.toInt 0 = 0 := (by decide); omega), (by have qa0 : Int32.toInt 0 = 0 := (by decide); omega), (by assumption), (by assumption), (by have qa0 : Int32.toInt 0 = 0 := (by decide); omega)⟩
abbrev ky_3721_ArrayList_add : gKey := (cJx4a65c_add_72be8, 4, "java/util/ArrayList", none, [], "add", fun _ _ => True)
def pp_3721_ArrayList_add (D : va_G) (I : FieldType → ClassId) (P3699 : List Nat) (F3700 : Nat → va_E) (q3701 : Nat) (q3702 : Nat) (q3703 : Nat) (q3704 : Nat) (p3705 : Int32) (p3706 : Int32) (p3707 : Int32) (p3708 : Int32) (p3709 : Int32) (p3710 : Int32) (p3711 : Int32) (p3712 : Int32) (p3713 : Int32) (p3714 : Int32) (p3715 : Int32) (p3716 : Int32) (p3717 : Int32) (p3718 : Int32) : Option Value → va_W → Nat → Nat → Prop := fun r w dc ds => ∃ (P3775 : List Nat) (F3776 : Nat → va_E) (o3771 : Int32) (q3772 : Nat) (n3773 : Nat) (f3774 : Nat → Option Nat), r = none ∧ w = va_pl P3775 F3776 ∧ rSub P3699 P3775 ∧ rFr [q3701] P3699 F3700 F3776 ∧ F3776 q3702 = .inr (17, [.ref q3703, .ref q3704, .int p3708, .int p3709]) ∧ F3776 q3703 = .inr (4, [.int p3710, .ref (D.2 1002 1), .int p3711]) ∧ F3776 q3704 = .inr (20, [.int p3712, .int p3713, .int p3714, .int p3715, .int p3716, .int p3717, .int p3718]) ∧ F3776 q3701 = .inr (4, [.int p3706, .ref q3772, .int o3771]) ∧ F3776 q3772 = .inl (I (.object "java/lang/Object"), n3773, .inr (.inr (.inr (.inr f3774)))) ∧ q3772 ∈ P3775 ∧ q3772 ∉ P3699 ∧ dc ≤ 1 ∧ ds ≤ 10 ∧ gB o3771 1 1 ∧ o3771.toInt = p3707.toInt + 1 ∧ f3774 p3705.toInt.toNat = some q3702 ∧ (∀ j w, f3774 j = some w → w = q3702) ∧ (n3773 : Int) = 10
set_option maxRecDepth 100000 in
set_option maxHeartbeats 4000000 in
theorem cp_3721_ArrayList_add (l : Launch) (hl0 : l.stackTraces = false) (D : va_G) (I : FieldType → ClassId) (P3699 : List Nat) (F3700 : Nat → va_E) (q3701 : Nat) (q3702 : Nat) (q3703 : Nat) (q3704 : Nat) (p3705 : Int32) (p3706 : Int32) (p3707 : Int32) (p3708 : Int32) (p3709 : Int32) (p3710 : Int32) (p3711 : Int32) (p3712 : Int32) (p3713 : Int32) (p3714 : Int32) (p3715 : Int32) (p3716 : Int32) (p3717 : Int32) (p3718 : Int32) (hmq3701 : q3701 ∈ P3699) (hmq3702 : q3702 ∈ P3699) (hmq3703 : q3703 ∈ P3699) (hmq3704 : q3704 ∈ P3699) (heq3701 : F3700 q3701 = .inr (4, [.int p3706, .ref (D.2 1002 1), .int p3707])) (heq3702 : F3700 q3702 = .inr (17, [.ref q3703, .ref q3704, .int p3708, .int p3709])) (heq3703 : F3700 q3703 = .inr (4, [.int p3710, .ref (D.2 1002 1), .int p3711])) (heq3704 : F3700 q3704 = .inr (20, [.int p3712, .int p3713, .int p3714, .int p3715, .int p3716, .int p3717, .int p3718])) (hneq3701q3703 : q3701 ≠ q3703) (bp3705 : gB p3705 0 16777216) (bp3707 : gB p3707 0 16777216) (bp3708 : gB p3708 0 39) (bp3709 : gB p3709 0 39) (bp3711 : gB p3711 0 16777216) (bp3712 : gB p3712 0 32) (bp3713 : gB p3713 0 1999) (bp3716 : gB p3716 0 1999) (bp3717 : gB p3717 0 1) (bp3718 : gB p3718 0 1) (x3719 : p3707.toInt = 0) (x3720 : p3705.toInt = p3707.toInt) : CtA (gV D I) l yJx4a65c_add_72be8 cJx4a65c_add_72be8 4 none 3 57 1 10 [.ref q3701, .ref q3702, .ref (D.2 1002 1), .int p3705] (va_pl P3699 F3700) (pp_3721_ArrayList_add D I P3699 F3700 q3701 q3702 q3703 q3704 p3705 p3706 p3707 p3708 p3709 p3710 p3711 p3712 p3713 p3714 p3715 p3716 p3717 p3718) gNA := by
  refine CtA_ofF hl0 (by decide +kernel) (Nat.le_of_ble_eq_true rfl) ?_
  have bp3706 := gB_any p3706
  have bp3710 := gB_any p3710
  have bp3714 := gB_any p3714
  have bp3715 := gB_any p3715
  refine G_iload_n 3 dr_cJx4a65c_add_72be8_0 rfl ?_
  refine G_aload_n 2 dr_cJx4a65c_add_72be8_1 rfl ?_
  refine G_klen dr_cJx4a65c_add_72be8_2 gr_dt ?_
  refine G_icmp_ne 11 dr_cJx4a65c_add_72be8_3 (by decide +kernel) (fun hc => absurd (show False by have := gj_neq hc (show Int32.toInt 0 = 0 by decide); omega) not_false) (fun hc3722 => ?_)
  have r3724 : p3705.toInt = 0 := gj_eq hc3722 (show Int32.toInt 0 = 0 by decide)
  have bp3705' : gB p3705 0 0 := ⟨by omega, by omega⟩
  refine G_aload_n 0 dr_cJx4a65c_add_72be8_6 rfl ?_
  refine Gw_callV (As := []) (gV_ok D I) (cp_775_ArrayList_grow l hl0 D I P3699 F3700 q3701 p3706 p3707 hmq3701 heq3701 bp3707 (by omega)) dr_cJx4a65c_add_72be8_7 ⟨wr_10_7, wr_1_18, wr_10_10, by decide, rfl, (Nat.le_of_ble_eq_true rfl), (Nat.le_of_ble_eq_true rfl)⟩ wr_10_9 wr_p_86 hmq3701 heq3701 rfl (show 0 + 1 ≤ 1 by first | omega | decide) (show 0 + 10 ≤ 10 by first | omega | decide) (Nat.le_of_ble_eq_true rfl) (fun r3728 w3729 dc3725 ds3726 hp3727 => ?_) (fun _ _ _ _ _ z => z.elim)
  obtain ⟨P3733, F3734, q3730, n3731, rfl, rfl, hsb3735, hfr3736, he3737, he3738, hm3739, hq3740, hdc, hds, x3732⟩ := hp3727
  have hm3741 : q3701 ∈ P3733 := hsb3735 q3701 hmq3701
  have hm3742 : q3702 ∈ P3733 := hsb3735 q3702 hmq3702
  have hm3743 : q3703 ∈ P3733 := hsb3735 q3703 hmq3703
  have hm3744 : q3704 ∈ P3733 := hsb3735 q3704 hmq3704
  have hq3745 : q3730 ∉ P3699 := fun z => hq3740 ((rSub_rf (P := P3699)) q3730 z)
  have hsb3746 : rSub P3699 P3733 := rSub_tr (rSub_rf (P := P3699)) hsb3735
  have he3747 : F3734 q3702 = .inr (17, [.ref q3703, .ref q3704, .int p3708, .int p3709]) := (hfr3736 q3702 hmq3702 (nm_c (rn_oo heq3702 heq3701 (by decide)) nm_n)).trans heq3702
  have he3748 : F3734 q3703 = .inr (4, [.int p3710, .ref (D.2 1002 1), .int p3711]) := (hfr3736 q3703 hmq3703 (nm_c (Ne.symm hneq3701q3703) nm_n)).trans heq3703
  have he3749 : F3734 q3704 = .inr (20, [.int p3712, .int p3713, .int p3714, .int p3715, .int p3716, .int p3717, .int p3718]) := (hfr3736 q3704 hmq3704 (nm_c (rn_oo heq3704 heq3701 (by decide)) nm_n)).trans heq3704
  have hfr3750 : rFr [q3701] P3699 F3700 F3734 := rFr_call (rSub_rf (P := P3699)) (rFr_rf (W := []) (P := P3699) (F := F3700)) hfr3736 (fun b hb hn => ⟨nm_n, (nm_c (fun e => hn (e ▸ List.mem_cons_self)) nm_n)⟩)
  change G _ _ _ _ _ _ _ (.ref q3730 :: _) _ _ _
  refine G_widen (cs' := 1) (sl' := 10) (by omega) (by omega) ?_
  refine G_astore_n (L' := [(2, .ref q3730), (0, .ref q3701), (1, .ref q3702), (3, .int p3705)]) dr_cJx4a65c_add_72be8_10 (Nat.le_of_ble_eq_true rfl) rfl ?_
  refine G_aload_n 0 dr_cJx4a65c_add_72be8_11 rfl ?_
  refine G_iload_n 3 dr_cJx4a65c_add_72be8_12 rfl ?_
  refine G_aload_n 2 dr_cJx4a65c_add_72be8_13 rfl ?_
  refine Gp_aast 4 hm3739 he3738 dr_cJx4a65c_add_72be8_14 rfl ⟨hm3742, _, _, _, _, _, he3747, rfl, gr_cast 2 rfl⟩ (gB_inr (by omega) (by omega)) (fun F3751 e3752 n3753 => ?_)
  obtain ⟨f3754, hf3754⟩ : ∃ z, z = va_up (fun _ => none) p3705.toNatClampNeg (some q3702) := ⟨_, rfl⟩
  rw [← hf3754] at e3752
  have he3755 : F3751 q3702 = .inr (17, [.ref q3703, .ref q3704, .int p3708, .int p3709]) := (n3753 q3702 (fun h => hq3745 (h ▸ hmq3702))).trans he3747
  have he3756 : F3751 q3703 = .inr (4, [.int p3710, .ref (D.2 1002 1), .int p3711]) := (n3753 q3703 (fun h => hq3745 (h ▸ hmq3703))).trans he3748
  have he3757 : F3751 q3704 = .inr (20, [.int p3712, .int p3713, .int p3714, .int p3715, .int p3716, .int p3717, .int p3718]) := (n3753 q3704 (fun h => hq3745 (h ▸ hmq3704))).trans he3749
  have he3758 : F3751 q3701 = .inr (4, [.int p3706, .ref q3730, .int p3707]) := (n3753 q3701 (fun h => hq3745 (h ▸ hmq3701))).trans he3737
  have he3759 : F3751 q3730 = .inl (I (.object "java/lang/Object"), n3731, .inr (.inr (.inr (.inr f3754)))) := e3752
  have hfr3760 : rFr [q3701] P3699 F3700 F3751 := rFr_newp hq3745 hfr3750 n3753
  refine G_aload_n 1 dr_cJx4a65c_add_72be8_15 rfl ?_
  refine G_iload_n 3 dr_cJx4a65c_add_72be8_16 rfl ?_
  refine G_iconst 1 dr_cJx4a65c_add_72be8_17 (by decide +kernel) ?_
  refine G_iadd dr_cJx4a65c_add_72be8_18 (G_nam fun z3761 hz3761 => ?_)
  have ez3761 : z3761.toInt = p3705.toInt + 1 := by rw [gI_add hz3761 bp3705' (gBl (show Int32.toInt 1 = 1 by decide)) (by decide) (by decide), show Int32.toInt 1 = 1 from by decide]
  have bz3761 : gB z3761 1 1 := gB_add (gI_add hz3761 bp3705' (gBl (show Int32.toInt 1 = 1 by decide)) (by decide) (by decide)) bp3705' (gBl (show Int32.toInt 1 = 1 by decide)) (by decide) (by decide)
  refine Gp_put 2 hm3741 he3758 dr_cJx4a65c_add_72be8_19 (gk_Jx4a65c D I) (Nat.le_of_ble_eq_true rfl) wr_7_18 rfl rfl rfl (Nat.le_of_ble_eq_true rfl) (fun F3762 e3763 n3764 => ?_)
  have he3765 : F3762 q3702 = .inr (17, [.ref q3703, .ref q3704, .int p3708, .int p3709]) := (n3764 q3702 (rn_oo he3755 he3758 (by decide))).trans he3755
  have he3766 : F3762 q3703 = .inr (4, [.int p3710, .ref (D.2 1002 1), .int p3711]) := (n3764 q3703 (Ne.symm hneq3701q3703)).trans he3756
  have he3767 : F3762 q3704 = .inr (20, [.int p3712, .int p3713, .int p3714, .int p3715, .int p3716, .int p3717, .int p3718]) := (n3764 q3704 (rn_oo he3757 he3758 (by decide))).trans he3757
  have he3768 : F3762 q3730 = .inl (I (.object "java/lang/Object"), n3731, .inr (.inr (.inr (.inr f3754)))) := (n3764 q3730 (fun h => hq3745 (h ▸ hmq3701))).trans he3759
  have he3769 : F3762 q3701 = .inr (4, [.int p3706, .ref q3730, .int z3761]) := e3763
  have hfr3770 : rFr [q3701] P3699 F3700 F3762 := rFr_put' List.mem_cons_self hfr3760 n3764
  exact G_vretA dr_cJx4a65c_add_72be8_22 rfl (Nat.le_of_ble_eq_true rfl) (Nat.le_of_ble_eq_true rfl) ⟨P3733, F3762, z3761, q3730, n3731, f3754, rfl, rfl, hsb3746, hfr3770, he3765, he3766, he3767, he3769, he3768, hm3739, hq3745, (Nat.le_of_ble_eq_true rfl), (Nat.le_of_ble_eq_true rfl), bz3761, (by omega), (rI_add (f := fun _ => none) (m := 0) (fun _ _ => rfl) hf3754 (by omega) (by omega)).2, (rX_none (rSrcX_up hf3754 rSrc_none)), (by omega)⟩
abbrev ky_3689_ArrayList_add : gKey := (cJx4a65c_add_9ea2d, 2, "java/util/ArrayList", (some FieldType.boolean), [], "add", fun _ _ => True)
def pp_3689_ArrayList_add (D : va_G) (I : FieldType → ClassId) (P3669 : List Nat) (F3670 : Nat → va_E) (q3671 : Nat) (q3672 : Nat) (q3673 : Nat) (q3674 : Nat) (p3675 : Int32) (p3676 : Int32) (p3677 : Int32) (p3678 : Int32) (p3679 : Int32) (p3680 : Int32) (p3681 : Int32) (p3682 : Int32) (p3683 : Int32) (p3684 : Int32) (p3685 : Int32) (p3686 : Int32) (p3687 : Int32) : Option Value → va_W → Nat → Nat → Prop := fun r w dc ds => ∃ (P3813 : List Nat) (F3814 : Nat → va_E) (o3808 : Int32) (o3809 : Int32) (q3810 : Nat) (n3811 : Nat) (f3812 : Nat → Option Nat), r = some (.int 1) ∧ w = va_pl P3813 F3814 ∧ rSub P3669 P3813 ∧ rFr [q3671] P3669 F3670 F3814 ∧ F3814 q3672 = .inr (17, [.ref q3673, .ref q3674, .int p3677, .int p3678]) ∧ F3814 q3673 = .inr (4, [.int p3679, .ref (D.2 1002 1), .int p3680]) ∧ F3814 q3674 = .inr (20, [.int p3681, .int p3682, .int p3683, .int p3684, .int p3685, .int p3686, .int p3687]) ∧ F3814 q3671 = .inr (4, [.int o3808, .ref q3810, .int o3809]) ∧ F3814 q3810 = .inl (I (.object "java/lang/Object"), n3811, .inr (.inr (.inr (.inr f3812)))) ∧ q3810 ∈ P3813 ∧ q3810 ∉ P3669 ∧ dc ≤ 1 ∧ ds ≤ 10 ∧ gB o3809 1 1 ∧ o3809.toInt = p3676.toInt + 1 ∧ f3812 p3676.toInt.toNat = some q3672 ∧ (∀ j w, f3812 j = some w → w = q3672) ∧ (n3811 : Int) = 10
set_option maxRecDepth 100000 in
set_option maxHeartbeats 4000000 in
theorem cp_3689_ArrayList_add (l : Launch) (hl0 : l.stackTraces = false) (D : va_G) (I : FieldType → ClassId) (P3669 : List Nat) (F3670 : Nat → va_E) (q3671 : Nat) (q3672 : Nat) (q3673 : Nat) (q3674 : Nat) (p3675 : Int32) (p3676 : Int32) (p3677 : Int32) (p3678 : Int32) (p3679 : Int32) (p3680 : Int32) (p3681 : Int32) (p3682 : Int32) (p3683 : Int32) (p3684 : Int32) (p3685 : Int32) (p3686 : Int32) (p3687 : Int32) (hmq3671 : q3671 ∈ P3669) (hmq3672 : q3672 ∈ P3669) (hmq3673 : q3673 ∈ P3669) (hmq3674 : q3674 ∈ P3669) (heq3671 : F3670 q3671 = .inr (4, [.int p3675, .ref (D.2 1002 1), .int p3676])) (heq3672 : F3670 q3672 = .inr (17, [.ref q3673, .ref q3674, .int p3677, .int p3678])) (heq3673 : F3670 q3673 = .inr (4, [.int p3679, .ref (D.2 1002 1), .int p3680])) (heq3674 : F3670 q3674 = .inr (20, [.int p3681, .int p3682, .int p3683, .int p3684, .int p3685, .int p3686, .int p3687])) (hneq3671q3673 : q3671 ≠ q3673) (bp3676 : gB p3676 0 16777216) (bp3677 : gB p3677 0 39) (bp3678 : gB p3678 0 39) (bp3680 : gB p3680 0 16777216) (bp3681 : gB p3681 0 32) (bp3682 : gB p3682 0 1999) (bp3685 : gB p3685 0 1999) (bp3686 : gB p3686 0 1) (bp3687 : gB p3687 0 1) (x3688 : p3676.toInt = 0) : CtA (gV D I) l yJx4a65c_add_9ea2d cJx4a65c_add_9ea2d 2 (some FieldType.boolean) 4 80 1 10 [.ref q3671, .ref q3672] (va_pl P3669 F3670) (pp_3689_ArrayList_add D I P3669 F3670 q3671 q3672 q3673 q3674 p3675 p3676 p3677 p3678 p3679 p3680 p3681 p3682 p3683 p3684 p3685 p3686 p3687) gNA := by
  refine CtA_ofF hl0 (by decide +kernel) (Nat.le_of_ble_eq_true rfl) ?_
  have bp3675 := gB_any p3675
  have bp3679 := gB_any p3679
  have bp3683 := gB_any p3683
  have bp3684 := gB_any p3684
  refine G_aload_n 0 dr_cJx4a65c_add_9ea2d_0 rfl ?_
  refine G_dup dr_cJx4a65c_add_9ea2d_1 rfl ?_
  refine Gp_getS 0 hmq3671 heq3671 dr_cJx4a65c_add_9ea2d_2 (gk_Jx4a65c D I) (Nat.le_of_ble_eq_true rfl) wr_7_20 wr_7_21 rfl ?_
  refine G_iconst 1 dr_cJx4a65c_add_9ea2d_5 (by decide +kernel) ?_
  refine G_iadd dr_cJx4a65c_add_9ea2d_6 (G_nam fun z3690 hz3690 => ?_)
  have bz3690 : gB z3690 (-2147483648) 2147483647 := gB_any z3690
  refine Gp_putS 0 hmq3671 heq3671 dr_cJx4a65c_add_9ea2d_7 (gk_Jx4a65c D I) (Nat.le_of_ble_eq_true rfl) wr_7_20 wr_7_21 rfl rfl rfl (Nat.le_of_ble_eq_true rfl) (fun F3691 e3692 n3693 => ?_)
  have he3694 : F3691 q3672 = .inr (17, [.ref q3673, .ref q3674, .int p3677, .int p3678]) := (n3693 q3672 (rn_oo heq3672 heq3671 (by decide))).trans heq3672
  have he3695 : F3691 q3673 = .inr (4, [.int p3679, .ref (D.2 1002 1), .int p3680]) := (n3693 q3673 (Ne.symm hneq3671q3673)).trans heq3673
  have he3696 : F3691 q3674 = .inr (20, [.int p3681, .int p3682, .int p3683, .int p3684, .int p3685, .int p3686, .int p3687]) := (n3693 q3674 (rn_oo heq3674 heq3671 (by decide))).trans heq3674
  have he3697 : F3691 q3671 = .inr (4, [.int z3690, .ref (D.2 1002 1), .int p3676]) := e3692
  have hfr3698 : rFr [q3671] P3669 F3670 F3691 := rFr_put (rFr_rf (W := []) (P := P3669) (F := F3670)) n3693
  refine G_aload_n 0 dr_cJx4a65c_add_9ea2d_10 rfl ?_
  refine G_aload_n 1 dr_cJx4a65c_add_9ea2d_11 rfl ?_
  refine G_aload_n 0 dr_cJx4a65c_add_9ea2d_12 rfl ?_
  refine Gp_get 1 hmq3671 he3697 dr_cJx4a65c_add_9ea2d_13 (gk_Jx4a65c D I) (Nat.le_of_ble_eq_true rfl) wr_7_17 rfl ?_
  refine G_aload_n 0 dr_cJx4a65c_add_9ea2d_16 rfl ?_
  refine Gp_get 2 hmq3671 he3697 dr_cJx4a65c_add_9ea2d_17 (gk_Jx4a65c D I) (Nat.le_of_ble_eq_true rfl) wr_7_18 rfl ?_
  refine Gw_callV (As := [.ref q3672, .ref (D.2 1002 1), .int p3676]) (gV_ok D I) (cp_3721_ArrayList_add l hl0 D I P3669 F3691 q3671 q3672 q3673 q3674 p3676 z3690 p3676 p3677 p3678 p3679 p3680 p3681 p3682 p3683 p3684 p3685 p3686 p3687 hmq3671 hmq3672 hmq3673 hmq3674 he3697 he3694 he3695 he3696 hneq3671q3673 bp3676 bp3676 bp3677 bp3678 bp3680 bp3681 bp3682 bp3685 bp3686 bp3687 (by omega) (by omega)) dr_cJx4a65c_add_9ea2d_20 ⟨wr_10_3, wr_1_18, wr_10_6, by decide, rfl, (Nat.le_of_ble_eq_true rfl), (Nat.le_of_ble_eq_true rfl)⟩ wr_10_5 wr_p_85 hmq3671 he3697 rfl (show 0 + 1 ≤ 1 by first | omega | decide) (show 0 + 10 ≤ 10 by first | omega | decide) (Nat.le_of_ble_eq_true rfl) (fun r3780 w3781 dc3777 ds3778 hp3779 => ?_) (fun _ _ _ _ _ z => z.elim)
  obtain ⟨P3790, F3791, o3782, q3783, n3784, f3785, rfl, rfl, hsb3792, hfr3793, he3794, he3795, he3796, he3797, he3798, hm3799, hq3800, hdc, hds, bo3782, x3786, x3787, x3788, x3789⟩ := hp3779
  have hm3801 : q3671 ∈ P3790 := hsb3792 q3671 hmq3671
  have hm3802 : q3672 ∈ P3790 := hsb3792 q3672 hmq3672
  have hm3803 : q3673 ∈ P3790 := hsb3792 q3673 hmq3673
  have hm3804 : q3674 ∈ P3790 := hsb3792 q3674 hmq3674
  have hq3805 : q3783 ∉ P3669 := fun z => hq3800 ((rSub_rf (P := P3669)) q3783 z)
  have hsb3806 : rSub P3669 P3790 := rSub_tr (rSub_rf (P := P3669)) hsb3792
  have hfr3807 : rFr [q3671] P3669 F3670 F3791 := rFr_call (rSub_rf (P := P3669)) hfr3698 hfr3793 (fun b hb hn => ⟨(nm_c (fun e => hn (e ▸ List.mem_cons_self)) nm_n), (nm_c (fun e => hn (e ▸ List.mem_cons_self)) nm_n)⟩)
  change G _ _ _ _ _ _ _ _ _ _ _
  refine G_widen (cs' := 1) (sl' := 10) (by omega) (by omega) ?_
  refine G_iconst 1 dr_cJx4a65c_add_9ea2d_23 (by decide +kernel) ?_
  exact G_zretA FieldType.boolean dr_cJx4a65c_add_9ea2d_24 rfl rfl (Nat.le_of_ble_eq_true rfl) (Nat.le_of_ble_eq_true rfl) ⟨P3790, F3791, z3690, o3782, q3783, n3784, f3785, rfl, rfl, hsb3806, hfr3807, he3794, he3795, he3796, he3797, he3798, hm3799, hq3805, (Nat.le_of_ble_eq_true rfl), (Nat.le_of_ble_eq_true rfl), bo3782, (by omega), (by assumption), (by assumption), (by omega)⟩
abbrev ky_3617_Code_block : gKey := (cX13_block, 2, "SpillForgeModel$Code", (some (FieldType.object "SpillForgeModel$Block")), [], "block", fun _ _ => True)
def pp_3617_Code_block (D : va_G) (I : FieldType → ClassId) (P3606 : List Nat) (F3607 : Nat → va_E) (q3608 : Nat) (q3609 : Nat) (qo3610 : Nat) (p3611 : Int32) (p3612 : Int32) (p3613 : Int32) (p3614 : Int32) : Option Value → va_W → Nat → Nat → Prop := fun r w dc ds => ∃ (P3892 : List Nat) (F3893 : Nat → va_E) (o3882 : Int32) (q3883 : Nat) (o3884 : Int32) (o3885 : Int32) (q3886 : Nat) (o3887 : Int32) (q3888 : Nat) (q3889 : Nat) (n3890 : Nat) (f3891 : Nat → Option Nat), r = some (.ref q3883) ∧ w = va_pl P3892 F3893 ∧ rSub P3606 P3892 ∧ rFr [q3608, q3609] P3606 F3607 F3893 ∧ F3893 q3608 = .inr (18, [.ref q3609, .ref qo3610, .int p3611, .int o3882]) ∧ F3893 q3883 = .inr (17, [.ref q3886, .ref q3888, .int 0, .int 0]) ∧ F3893 q3888 = .inr (20, [.int 0, .int 0, .int 0, .int 0, .int 0, .int 0, .int 0]) ∧ F3893 q3609 = .inr (4, [.int o3884, .ref q3889, .int o3885]) ∧ F3893 q3889 = .inl (I (.object "java/lang/Object"), n3890, .inr (.inr (.inr (.inr f3891)))) ∧ F3893 q3886 = .inr (4, [.int o3887, .ref (D.2 1002 1), .int 0]) ∧ q3883 ∈ P3892 ∧ q3883 ∉ P3606 ∧ q3886 ∈ P3892 ∧ q3886 ∉ P3606 ∧ q3888 ∈ P3892 ∧ q3888 ∉ P3606 ∧ q3889 ∈ P3892 ∧ q3889 ∉ P3606 ∧ dc ≤ 4 ∧ ds ≤ 24 ∧ gB o3882 1 1000001 ∧ gB o3885 1 1 ∧ o3882.toInt = p3612.toInt + 1 ∧ o3885.toInt = p3614.toInt + 1 ∧ f3891 p3614.toInt.toNat = some q3883 ∧ (∀ j w, f3891 j = some w → w = q3883) ∧ (n3890 : Int) = 10
set_option maxRecDepth 100000 in
set_option maxHeartbeats 4000000 in
theorem cp_3617_Code_block (l : Launch) (hl0 : l.stackTraces = false) (D : va_G) (I : FieldType → ClassId) (P3606 : List Nat) (F3607 : Nat → va_E) (q3608 : Nat) (q3609 : Nat) (qo3610 : Nat) (p3611 : Int32) (p3612 : Int32) (p3613 : Int32) (p3614 : Int32) (hmq3608 : q3608 ∈ P3606) (hmq3609 : q3609 ∈ P3606) (heq3608 : F3607 q3608 = .inr (18, [.ref q3609, .ref qo3610, .int p3611, .int p3612])) (heq3609 : F3607 q3609 = .inr (4, [.int p3613, .ref (D.2 1002 1), .int p3614])) (bp3611 : gB p3611 0 1000000) (bp3612 : gB p3612 0 1000000) (bp3614 : gB p3614 0 1000000) (x3615 : p3612.toInt = p3614.toInt) (x3616 : p3614.toInt = 0) : CtA (gV D I) l yX13_block cX13_block 2 (some (FieldType.object "SpillForgeModel$Block")) 5 101 4 24 [.ref q3608] (va_pl P3606 F3607) (pp_3617_Code_block D I P3606 F3607 q3608 q3609 qo3610 p3611 p3612 p3613 p3614) gNA := by
  refine CtA_of hl0 (by decide) (Nat.le_of_ble_eq_true rfl) ?_
  have bp3613 := gB_any p3613
  refine G_aload_n 0 dr_cX13_block_0 rfl ?_
  refine Gp_get 3 hmq3608 heq3608 dr_cX13_block_1 (gk_X13 D I) (Nat.le_of_ble_eq_true rfl) wr_7_33 rfl ?_
  refine G_aload_n 0 dr_cX13_block_4 rfl ?_
  refine Gp_get 0 hmq3608 heq3608 dr_cX13_block_5 (gk_X13 D I) (Nat.le_of_ble_eq_true rfl) wr_7_30 rfl ?_
  refine Gw_callV (As := []) (gV_ok D I) (cp_2681_ArrayList_size l hl0 D I P3606 F3607 q3609 p3613 p3614 hmq3609 heq3609 (gB_w bp3614 (by decide) (by decide))) dr_cX13_block_8 ⟨wr_9_153, wr_1_18, wr_9_156, by decide, rfl, (Nat.le_of_ble_eq_true rfl), (Nat.le_of_ble_eq_true rfl)⟩ wr_9_154 wr_9_155 hmq3609 heq3609 rfl (show 0 + 0 ≤ 4 by first | omega | decide) (show 0 + 0 ≤ 24 by first | omega | decide) (Nat.le_of_ble_eq_true rfl) (fun r3621 w3622 dc3618 ds3619 hp3620 => ?_) (fun _ _ _ _ _ z => z.elim)
  obtain ⟨rfl, rfl, hdc, hds⟩ := hp3620
  change G _ _ _ _ _ _ _ (.int p3614 :: _) _ _ _
  refine G_widen (cs' := 0) (sl' := 0) (by omega) (by omega) ?_
  refine G_icmp_ne 29 dr_cX13_block_11 (by decide +kernel) (fun hc => absurd (show False by have := gC_ne hc; omega) not_false) (fun hc3623 => ?_)
  have r3625 : p3612.toInt = p3614.toInt := gC_eq hc3623
  refine G_aload_n 0 dr_cX13_block_14 rfl ?_
  refine Gp_get 0 hmq3608 heq3608 dr_cX13_block_15 (gk_X13 D I) (Nat.le_of_ble_eq_true rfl) wr_7_30 rfl ?_
  refine G_new [.null, .null, .int 0, .int 0] dr_cX13_block_18 (gk_X12 D I) wr_9_157 wr_9_158 wr_1_38 (gfs_X12) (show 0 + 1 ≤ 4 by first | omega | decide) (show 0 + 4 ≤ 24 by first | omega | decide) (fun q3626 => Gp_in (fun P3627 F3628 hq3629 hP3630 e3631 n3632 => ?_))
  refine G_widen (cs' := 1) (sl' := 4) (by omega) (by omega) ?_
  have he3633 : F3628 q3608 = .inr (18, [.ref q3609, .ref qo3610, .int p3611, .int p3612]) := (n3632 q3608 (fun h => hq3629 (h ▸ hmq3608))).trans heq3608
  have he3634 : F3628 q3609 = .inr (4, [.int p3613, .ref (D.2 1002 1), .int p3614]) := (n3632 q3609 (fun h => hq3629 (h ▸ hmq3609))).trans heq3609
  have he3635 : F3628 q3626 = .inr (17, [.null, .null, .int 0, .int 0]) := e3631
  have hm3636 : q3608 ∈ P3627 := (hP3630 q3608).mpr (Or.inl hmq3608)
  have hm3637 : q3609 ∈ P3627 := (hP3630 q3609).mpr (Or.inl hmq3609)
  have hm3638 : q3626 ∈ P3627 := (hP3630 q3626).mpr (Or.inr rfl)
  have hq3639 : q3626 ∉ P3606 := fun z => hq3629 ((rSub_rf (P := P3606)) q3626 z)
  have hfr3640 : rFr [] P3606 F3607 F3628 := rFr_new (rSub_rf (P := P3606)) hq3629 (rFr_rf (W := []) (P := P3606) (F := F3607)) n3632
  have hsb3641 : rSub P3606 P3627 := rSub_new (rSub_rf (P := P3606)) hP3630
  refine G_dup dr_cX13_block_21 rfl ?_
  refine Gw_callIN (As := []) (gV_ok D I) (cp_3005_Block_init l hl0 D I P3627 F3628 q3626 0 0 hm3638 he3635 (gB_w (gBl (show Int32.toInt 0 = 0 by decide)) (by decide) (by decide)) (gB_w (gBl (show Int32.toInt 0 = 0 by decide)) (by decide) (by decide))) dr_cX13_block_22 ⟨(fun _ _ _ h => gn_w 78 rfl h), wr_1_38, wr_9_161, by decide, rfl, (Nat.le_of_ble_eq_true rfl), (Nat.le_of_ble_eq_true rfl)⟩ wr_9_160 rfl (show 1 + 2 ≤ 4 by first | omega | decide) (show 4 + 10 ≤ 24 by first | omega | decide) (Nat.le_of_ble_eq_true rfl) (fun r3645 w3646 dc3642 ds3643 hp3644 => ?_)
  obtain ⟨P3649, F3650, q3647, q3648, rfl, rfl, hsb3651, hfr3652, he3653, he3654, he3655, hm3656, hq3657, hm3658, hq3659, hdc, hds⟩ := hp3644
  have hm3660 : q3608 ∈ P3649 := hsb3651 q3608 hm3636
  have hm3661 : q3609 ∈ P3649 := hsb3651 q3609 hm3637
  have hm3662 : q3626 ∈ P3649 := hsb3651 q3626 hm3638
  have hq3663 : q3647 ∉ P3606 := fun z => hq3657 (hsb3641 q3647 z)
  have hq3664 : q3648 ∉ P3606 := fun z => hq3659 (hsb3641 q3648 z)
  have hsb3665 : rSub P3606 P3649 := rSub_tr hsb3641 hsb3651
  have he3666 : F3650 q3608 = .inr (18, [.ref q3609, .ref qo3610, .int p3611, .int p3612]) := (hfr3652 q3608 hm3636 (nm_c (fun h => hq3639 (h ▸ hmq3608)) nm_n)).trans he3633
  have he3667 : F3650 q3609 = .inr (4, [.int p3613, .ref (D.2 1002 1), .int p3614]) := (hfr3652 q3609 hm3637 (nm_c (fun h => hq3639 (h ▸ hmq3609)) nm_n)).trans he3634
  have hfr3668 : rFr [] P3606 F3607 F3650 := rFr_call hsb3641 hfr3640 hfr3652 (fun b hb hn => ⟨nm_n, (nm_c (fun e => hq3639 (e ▸ hb)) nm_n)⟩)
  change G _ _ _ _ _ _ _ _ _ _ _
  refine G_widen (cs' := 3) (sl' := 14) (by omega) (by omega) ?_
  refine Gw_callV (As := [.ref q3626]) (gV_ok D I) (cp_3689_ArrayList_add l hl0 D I P3649 F3650 q3609 q3626 q3647 q3648 p3613 p3614 0 0 0 0 0 0 0 0 0 0 0 hm3661 hm3662 hm3656 hm3658 he3667 he3653 he3654 he3655 (fun h => hq3663 (h ▸ hmq3609)) (gB_w bp3614 (by decide) (by decide)) (gB_w (gBl (show Int32.toInt 0 = 0 by decide)) (by decide) (by decide)) (gB_w (gBl (show Int32.toInt 0 = 0 by decide)) (by decide) (by decide)) (gB_w (gBl (show Int32.toInt 0 = 0 by decide)) (by decide) (by decide)) (gB_w (gBl (show Int32.toInt 0 = 0 by decide)) (by decide) (by decide)) (gB_w (gBl (show Int32.toInt 0 = 0 by decide)) (by decide) (by decide)) (gB_w (gBl (show Int32.toInt 0 = 0 by decide)) (by decide) (by decide)) (gB_w (gBl (show Int32.toInt 0 = 0 by decide)) (by decide) (by decide)) (gB_w (gBl (show Int32.toInt 0 = 0 by decide)) (by decide) (by decide)) (by have qa0 : Int32.toInt 0 = 0 := (by decide); omega)) dr_cX13_block_25 ⟨wr_9_239, wr_1_18, wr_10_2, by decide, rfl, (Nat.le_of_ble_eq_true rfl), (Nat.le_of_ble_eq_true rfl)⟩ wr_10_0 wr_10_1 hm3661 he3667 rfl (show 3 + 1 ≤ 4 by first | omega | decide) (show 14 + 10 ≤ 24 by first | omega | decide) (Nat.le_of_ble_eq_true rfl) (fun r3818 w3819 dc3815 ds3816 hp3817 => ?_) (fun _ _ _ _ _ z => z.elim)
  obtain ⟨P3829, F3830, o3820, o3821, q3822, n3823, f3824, rfl, rfl, hsb3831, hfr3832, he3833, he3834, he3835, he3836, he3837, hm3838, hq3839, hdc, hds, bo3821, x3825, x3826, x3827, x3828⟩ := hp3817
  have hm3840 : q3608 ∈ P3829 := hsb3831 q3608 hm3660
  have hm3841 : q3609 ∈ P3829 := hsb3831 q3609 hm3661
  have hm3842 : q3626 ∈ P3829 := hsb3831 q3626 hm3662
  have hm3843 : q3647 ∈ P3829 := hsb3831 q3647 hm3656
  have hm3844 : q3648 ∈ P3829 := hsb3831 q3648 hm3658
  have hq3845 : q3822 ∉ P3606 := fun z => hq3839 (hsb3665 q3822 z)
  have hsb3846 : rSub P3606 P3829 := rSub_tr hsb3665 hsb3831
  have he3847 : F3830 q3608 = .inr (18, [.ref q3609, .ref qo3610, .int p3611, .int p3612]) := (hfr3832 q3608 hm3660 (nm_c (rn_oo he3666 he3667 (by decide)) nm_n)).trans he3666
  have hfr3848 : rFr [q3609] P3606 F3607 F3830 := rFr_call hsb3665 hfr3668 hfr3832 (fun b hb hn => ⟨nm_n, (nm_c (fun e => hn (e ▸ List.mem_cons_self)) nm_n)⟩)
  have bo3820 := gB_any o3820
  change G _ _ _ _ _ _ _ (.int 1 :: _) _ _ _
  refine G_widen (cs' := 4) (sl' := 24) (by omega) (by omega) ?_
  have hx3849 : f3824 p3612.toNatClampNeg = some q3626 := by show f3824 p3612.toInt.toNat = _; rw [show p3612.toInt = p3614.toInt by omega]; exact x3826
  refine G_pop dr_cX13_block_28 rfl ?_
  refine G_aload_n 0 dr_cX13_block_29 rfl ?_
  refine Gp_get 0 hm3840 he3847 dr_cX13_block_30 (gk_X13 D I) (Nat.le_of_ble_eq_true rfl) wr_7_30 rfl ?_
  refine G_aload_n 0 dr_cX13_block_33 rfl ?_
  refine Gp_get 3 hm3840 he3847 dr_cX13_block_34 (gk_X13 D I) (Nat.le_of_ble_eq_true rfl) wr_7_33 rfl ?_
  refine Gw_callV (As := [.int p3612]) (gV_ok D I) (cp_22_ArrayList_get l hl0 D I P3829 F3830 q3609 q3822 p3612 o3820 o3821 f3824 n3823 q3626 hm3841 hm3838 he3836 he3837 (gB_w bp3612 (by decide) (by decide)) (gB_w bo3821 (by decide) (by decide)) (by have qa0 : Int32.toInt 0 = 0 := (by decide); omega) (by have qa0 : Int32.toInt 0 = 0 := (by decide); omega) (by assumption) (by have qa0 : Int32.toInt 0 = 0 := (by decide); omega)) dr_cX13_block_37 ⟨wr_10_58, wr_1_18, wr_10_61, by decide, rfl, (Nat.le_of_ble_eq_true rfl), (Nat.le_of_ble_eq_true rfl)⟩ wr_10_59 wr_10_60 hm3841 he3836 rfl (show 4 + 0 ≤ 4 by first | omega | decide) (show 24 + 0 ≤ 24 by first | omega | decide) (Nat.le_of_ble_eq_true rfl) (fun r3853 w3854 dc3850 ds3851 hp3852 => ?_) (fun _ _ _ _ _ z => z.elim)
  obtain ⟨rfl, rfl, hdc, hds⟩ := hp3852
  change G _ _ _ _ _ _ _ (.ref q3626 :: _) _ _ _
  refine G_widen (cs' := 4) (sl' := 24) (by omega) (by omega) ?_
  refine Gp_cast hm3842 he3833 rfl dr_cX13_block_40 wr_9_157 (gr_cast 0 rfl) ?_
  refine G_astore_n (L' := [(1, .ref q3626), (0, .ref q3608)]) dr_cX13_block_43 (Nat.le_of_ble_eq_true rfl) rfl ?_
  refine G_aload_n 1 dr_cX13_block_44 rfl ?_
  refine G_dup dr_cX13_block_45 rfl ?_
  refine Gp_get 3 hm3840 he3847 dr_cX13_block_46 (gk_X13 D I) (Nat.le_of_ble_eq_true rfl) wr_7_33 rfl ?_
  refine G_iconst 1 dr_cX13_block_49 (by decide +kernel) ?_
  refine G_iadd dr_cX13_block_50 (G_nam fun z3855 hz3855 => ?_)
  have ez3855 : z3855.toInt = p3612.toInt + 1 := by rw [gI_add hz3855 bp3612 (gBl (show Int32.toInt 1 = 1 by decide)) (by decide) (by decide), show Int32.toInt 1 = 1 from by decide]
  have bz3855 : gB z3855 1 1000001 := gB_add (gI_add hz3855 bp3612 (gBl (show Int32.toInt 1 = 1 by decide)) (by decide) (by decide)) bp3612 (gBl (show Int32.toInt 1 = 1 by decide)) (by decide) (by decide)
  refine Gp_put 3 hm3840 he3847 dr_cX13_block_51 (gk_X13 D I) (Nat.le_of_ble_eq_true rfl) wr_7_33 rfl rfl rfl (Nat.le_of_ble_eq_true rfl) (fun F3856 e3857 n3858 => ?_)
  have he3859 : F3856 q3626 = .inr (17, [.ref q3647, .ref q3648, .int 0, .int 0]) := (n3858 q3626 (fun h => hq3639 (h ▸ hmq3608))).trans he3833
  have he3860 : F3856 q3647 = .inr (4, [.int 0, .ref (D.2 1002 1), .int 0]) := (n3858 q3647 (fun h => hq3663 (h ▸ hmq3608))).trans he3834
  have he3861 : F3856 q3648 = .inr (20, [.int 0, .int 0, .int 0, .int 0, .int 0, .int 0, .int 0]) := (n3858 q3648 (fun h => hq3664 (h ▸ hmq3608))).trans he3835
  have he3862 : F3856 q3609 = .inr (4, [.int o3820, .ref q3822, .int o3821]) := (n3858 q3609 (rn_oo he3836 he3847 (by decide))).trans he3836
  have he3863 : F3856 q3822 = .inl (I (.object "java/lang/Object"), n3823, .inr (.inr (.inr (.inr f3824)))) := (n3858 q3822 (fun h => hq3845 (h ▸ hmq3608))).trans he3837
  have he3864 : F3856 q3608 = .inr (18, [.ref q3609, .ref qo3610, .int p3611, .int z3855]) := e3857
  have hfr3865 : rFr [q3608, q3609] P3606 F3607 F3856 := rFr_put hfr3848 n3858
  refine G_aload_n 0 dr_cX13_block_54 rfl ?_
  refine Gp_get 0 hm3842 he3859 dr_cX13_block_55 (gk_X12 D I) (Nat.le_of_ble_eq_true rfl) wr_9_215 rfl ?_
  refine Gw_callV (As := []) (gV_ok D I) (cp_1466_ArrayList_clear l hl0 D I P3829 F3856 q3647 0 0 hm3843 he3860 (gB_w (gBl (show Int32.toInt 0 = 0 by decide)) (by decide) (by decide)) (by have qa0 : Int32.toInt 0 = 0 := (by decide); omega)) dr_cX13_block_58 ⟨wr_10_70, wr_1_18, wr_10_73, by decide, rfl, (Nat.le_of_ble_eq_true rfl), (Nat.le_of_ble_eq_true rfl)⟩ wr_10_71 wr_10_72 hm3843 he3860 rfl (show 4 + 0 ≤ 4 by first | omega | decide) (show 24 + 0 ≤ 24 by first | omega | decide) (Nat.le_of_ble_eq_true rfl) (fun r3869 w3870 dc3866 ds3867 hp3868 => ?_) (fun _ _ _ _ _ z => z.elim)
  obtain ⟨F3872, o3871, rfl, rfl, hfr3874, he3875, hdc, hds⟩ := hp3868
  have he3876 : F3872 q3608 = .inr (18, [.ref q3609, .ref qo3610, .int p3611, .int z3855]) := (hfr3874 q3608 hm3840 (nm_c (fun h => hq3663 (h ▸ hmq3608)) nm_n)).trans he3864
  have he3877 : F3872 q3626 = .inr (17, [.ref q3647, .ref q3648, .int 0, .int 0]) := (hfr3874 q3626 hm3842 (nm_c (rn_oo he3859 he3860 (by decide)) nm_n)).trans he3859
  have he3878 : F3872 q3648 = .inr (20, [.int 0, .int 0, .int 0, .int 0, .int 0, .int 0, .int 0]) := (hfr3874 q3648 hm3844 (nm_c (rn_oo he3861 he3860 (by decide)) nm_n)).trans he3861
  have he3879 : F3872 q3609 = .inr (4, [.int o3820, .ref q3822, .int o3821]) := (hfr3874 q3609 hm3841 (nm_c (fun h => hq3663 (h ▸ hmq3609)) nm_n)).trans he3862
  have he3880 : F3872 q3822 = .inl (I (.object "java/lang/Object"), n3823, .inr (.inr (.inr (.inr f3824)))) := (hfr3874 q3822 hm3838 (nm_c (rn_ao he3863 he3860) nm_n)).trans he3863
  have hfr3881 : rFr [q3608, q3609] P3606 F3607 F3872 := rFr_call hsb3846 hfr3865 hfr3874 (fun b hb hn => ⟨(nm_c (fun e => hn (e ▸ List.mem_cons_self)) (nm_c (fun e => hn (e ▸ (List.mem_cons_of_mem _ List.mem_cons_self))) nm_n)), (nm_c (fun e => hq3663 (e ▸ hb)) nm_n)⟩)
  have bo3871 := gB_any o3871
  change G _ _ _ _ _ _ _ _ _ _ _
  refine G_widen (cs' := 4) (sl' := 24) (by omega) (by omega) ?_
  refine G_aload_n 0 dr_cX13_block_61 rfl ?_
  exact G_aretA (FieldType.object "SpillForgeModel$Block") dr_cX13_block_62 rfl (by first | exact Or.inl ⟨_, rfl⟩ | exact Or.inr ⟨_, rfl⟩) (Or.inr ⟨_, rfl⟩) (Nat.le_of_ble_eq_true rfl) (Nat.le_of_ble_eq_true rfl) ⟨P3829, F3872, z3855, q3626, o3820, o3821, q3647, o3871, q3648, q3822, n3823, f3824, rfl, rfl, hsb3846, hfr3881, he3876, he3877, he3878, he3879, he3880, he3875, hm3842, hq3639, hm3843, hq3663, hm3844, hq3664, hm3838, hq3845, (Nat.le_of_ble_eq_true rfl), (Nat.le_of_ble_eq_true rfl), bz3855, bo3821, (by have qa0 : Int32.toInt 0 = 0 := (by decide); omega), (by have qa0 : Int32.toInt 0 = 0 := (by decide); omega), (by assumption), (by assumption), (by have qa0 : Int32.toInt 0 = 0 := (by decide); omega)⟩
abbrev ky_3901_Code_begin : gKey := (cX13_begin, 1, "SpillForgeModel$Code", none, [], "begin", fun _ _ => True)
def pp_3901_Code_begin (D : va_G) (I : FieldType → ClassId) (P3894 : List Nat) (F3895 : Nat → va_E) (q3896 : Nat) (qo3897 : Nat) (qo3898 : Nat) (p3899 : Int32) (p3900 : Int32) : Option Value → va_W → Nat → Nat → Prop := fun r w dc ds => ∃ (F3913 : Nat → va_E), r = none ∧ w = va_pl P3894 F3913 ∧ rFr [q3896] P3894 F3895 F3913 ∧ F3913 q3896 = .inr (18, [.ref qo3897, .ref qo3898, .int 0, .int 0]) ∧ dc ≤ 0 ∧ ds ≤ 0
set_option maxRecDepth 100000 in
set_option maxHeartbeats 4000000 in
theorem cp_3901_Code_begin (l : Launch) (hl0 : l.stackTraces = false) (D : va_G) (I : FieldType → ClassId) (P3894 : List Nat) (F3895 : Nat → va_E) (q3896 : Nat) (qo3897 : Nat) (qo3898 : Nat) (p3899 : Int32) (p3900 : Int32) (hmq3896 : q3896 ∈ P3894) (heq3896 : F3895 q3896 = .inr (18, [.ref qo3897, .ref qo3898, .int p3899, .int p3900])) (bp3899 : gB p3899 0 1000000) (bp3900 : gB p3900 0 1000000) : CtA (gV D I) l yX13_begin cX13_begin 1 none 0 0 0 0 [.ref q3896] (va_pl P3894 F3895) (pp_3901_Code_begin D I P3894 F3895 q3896 qo3897 qo3898 p3899 p3900) gNA := by
  refine CtA_of hl0 (by decide) (Nat.le_of_ble_eq_true rfl) ?_
  refine G_aload_n 0 dr_cX13_begin_0 rfl ?_
  refine G_iconst 0 dr_cX13_begin_1 (by decide +kernel) ?_
  refine Gp_put 2 hmq3896 heq3896 dr_cX13_begin_2 (gk_X13 D I) (Nat.le_of_ble_eq_true rfl) wr_7_32 rfl rfl rfl (Nat.le_of_ble_eq_true rfl) (fun F3902 e3903 n3904 => ?_)
  have he3905 : F3902 q3896 = .inr (18, [.ref qo3897, .ref qo3898, .int 0, .int p3900]) := e3903
  have hfr3906 : rFr [q3896] P3894 F3895 F3902 := rFr_put (rFr_rf (W := []) (P := P3894) (F := F3895)) n3904
  refine G_aload_n 0 dr_cX13_begin_5 rfl ?_
  refine G_iconst 0 dr_cX13_begin_6 (by decide +kernel) ?_
  refine Gp_put 3 hmq3896 he3905 dr_cX13_begin_7 (gk_X13 D I) (Nat.le_of_ble_eq_true rfl) wr_7_33 rfl rfl rfl (Nat.le_of_ble_eq_true rfl) (fun F3907 e3908 n3909 => ?_)
  have he3910 : F3907 q3896 = .inr (18, [.ref qo3897, .ref qo3898, .int 0, .int 0]) := e3908
  have hfr3911 : rFr [q3896] P3894 F3895 F3907 := rFr_put' List.mem_cons_self hfr3906 n3909
  exact G_vretA dr_cX13_begin_10 rfl (Nat.le_of_ble_eq_true rfl) (Nat.le_of_ble_eq_true rfl) ⟨F3907, rfl, rfl, hfr3911, he3910, (Nat.le_of_ble_eq_true rfl), (Nat.le_of_ble_eq_true rfl)⟩
