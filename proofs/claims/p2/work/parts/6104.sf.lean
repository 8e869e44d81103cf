abbrev ky_3290_Loops_depth : gKey := (cX6_depth, 2, yX6_depth.cls, (some FieldType.int), [], yX6_depth.name, fun _ _ => True)
abbrev po_3290_Loops_depth (I : FieldType → ClassId) (q3282 : Nat) (q3283 : Nat) (q3284 : Nat) (q3285 : Nat) (p3286 : Int32) (f3287 : Nat → Int64) (f3288 : Nat → Int64) (f3289 : Nat → Int32) : Option Value → va_W → Prop := fun r w => (r = some (.int 0) ∧ w = [(q3282, .inr (11, [.ref q3283, .ref q3284, .ref q3285])), (q3283, .inl (I .long, 40, .inr (.inl f3287))), (q3284, .inl (I .long, 40, .inr (.inl f3288))), (q3285, .inl (I .int, 40, .inl f3289))] ∧ p3286.toInt < 0) ∨ (r = some (.int 0) ∧ w = [(q3282, .inr (11, [.ref q3283, .ref q3284, .ref q3285])), (q3283, .inl (I .long, 40, .inr (.inl f3287))), (q3284, .inl (I .long, 40, .inr (.inl f3288))), (q3285, .inl (I .int, 40, .inl f3289))] ∧ 0 ≤ p3286.toInt ∧ 40 ≤ p3286.toInt) ∨ (∃ (z3297 : Int32), r = some (.int z3297) ∧ w = [(q3282, .inr (11, [.ref q3283, .ref q3284, .ref q3285])), (q3283, .inl (I .long, 40, .inr (.inl f3287))), (q3284, .inl (I .long, 40, .inr (.inl f3288))), (q3285, .inl (I .int, 40, .inl f3289))] ∧ 0 ≤ p3286.toInt ∧ p3286.toInt < 40 ∧ gB z3297 (-2147483648) 2147483647)
set_option maxRecDepth 100000 in
set_option maxHeartbeats 4000000 in
theorem ct_3290_Loops_depth (l : Launch) (hl0 : l.stackTraces = false) (D : va_G) (I : FieldType → ClassId) (q3282 : Nat) (q3283 : Nat) (q3284 : Nat) (q3285 : Nat) (p3286 : Int32) (f3287 : Nat → Int64) (f3288 : Nat → Int64) (f3289 : Nat → Int32)  : Ct (gV D I) l yX6_depth cX6_depth 2 (some FieldType.int) 0 0 0 0 [.ref q3282, .int p3286] [(q3282, .inr (11, [.ref q3283, .ref q3284, .ref q3285])), (q3283, .inl (I .long, 40, .inr (.inl f3287))), (q3284, .inl (I .long, 40, .inr (.inl f3288))), (q3285, .inl (I .int, 40, .inl f3289))] (po_3290_Loops_depth I q3282 q3283 q3284 q3285 p3286 f3287 f3288 f3289) gN := by
  refine Ct_of hl0 (by decide) (Nat.le_of_ble_eq_true rfl) ?_
  have bp3286 := gB_any p3286
  refine G_iload_n 1 d_cX6_depth_0 rfl ?_
  refine G_if_lt 19 d_cX6_depth_1 (by decide +kernel) (fun hc3291 => ?_) (fun hc3291 => ?_)
  · have r3292 : p3286.toInt < 0 := gj_lt hc3291 (show Int32.toInt 0 = 0 by decide)
    have bp3286' : gB p3286 (-2147483648) (-1) := ⟨by omega, by omega⟩
    refine G_iconst 0 d_cX6_depth_19 (by decide +kernel) ?_
    exact G_iret d_cX6_depth_20 rfl (Nat.le_of_ble_eq_true rfl) (Nat.le_of_ble_eq_true rfl) (Or.inl ⟨rfl, rfl, r3292⟩)
  · have r3293 : 0 ≤ p3286.toInt := gj_nlt hc3291 (show Int32.toInt 0 = 0 by decide)
    have bp3286' : gB p3286 0 2147483647 := ⟨by omega, by omega⟩
    refine G_iload_n 1 d_cX6_depth_4 rfl ?_
    refine G_bipush 40 d_cX6_depth_5 (by decide +kernel) ?_
    refine G_icmp_ge 19 d_cX6_depth_7 (by decide +kernel) (fun hc3294 => ?_) (fun hc3294 => ?_)
    · have r3295 : 40 ≤ p3286.toInt := gj_leL hc3294 (show Int32.toInt 40 = 40 by decide)
      have bp3286'' : gB p3286 40 2147483647 := ⟨by omega, by omega⟩
      refine G_iconst 0 d_cX6_depth_19 (by decide +kernel) ?_
      exact G_iret d_cX6_depth_20 rfl (Nat.le_of_ble_eq_true rfl) (Nat.le_of_ble_eq_true rfl) (Or.inr (Or.inl ⟨rfl, rfl, r3293, r3295⟩))
    · have r3296 : p3286.toInt < 40 := gj_nleL hc3294 (show Int32.toInt 40 = 40 by decide)
      have bp3286'' : gB p3286 0 39 := ⟨by omega, by omega⟩
      refine G_aload_n 0 d_cX6_depth_10 rfl ?_
      refine G_getf 0 2 d_cX6_depth_11 rfl (gk_X6 D I) (Nat.le_of_ble_eq_true rfl) w_1_235 rfl ?_
      refine G_iload_n 1 d_cX6_depth_14 rfl ?_
      refine G_iald 3 0 d_cX6_depth_15 rfl rfl (gB_in bp3286'' (by decide) (by decide)) (G_nam fun z3297 hz3297 => ?_)
      have bz3297 : gB z3297 (-2147483648) 2147483647 := gB_any z3297
      refine G_goto 20 d_cX6_depth_16 (by decide +kernel) ?_
      exact G_iret d_cX6_depth_20 rfl (Nat.le_of_ble_eq_true rfl) (Nat.le_of_ble_eq_true rfl) (Or.inr (Or.inr (⟨z3297, rfl, rfl, r3293, r3296, bz3297⟩)))
abbrev ky_3306_Loops_factor : gKey := (cX6_factor, 4, yX6_factor.cls, (some FieldType.int), [], yX6_factor.name, fun _ _ => True)
abbrev po_3306_Loops_factor (I : FieldType → ClassId) (q3298 : Nat) (q3299 : Nat) (q3300 : Nat) (q3301 : Nat) (p3302 : Int32) (f3303 : Nat → Int64) (f3304 : Nat → Int64) (f3305 : Nat → Int32) : Option Value → va_W → Prop := fun r w => ∃ (o3401 : Int32), r = some (.int o3401) ∧ w = [(q3298, .inr (11, [.ref q3299, .ref q3300, .ref q3301])), (q3299, .inl (I .long, 40, .inr (.inl f3303))), (q3300, .inl (I .long, 40, .inr (.inl f3304))), (q3301, .inl (I .int, 40, .inl f3305))] ∧ gB o3401 (-2147483648) 2147483647
set_option maxRecDepth 100000 in
set_option maxHeartbeats 4000000 in
theorem ct_3306_Loops_factor (l : Launch) (hl0 : l.stackTraces = false) (D : va_G) (I : FieldType → ClassId) (q3298 : Nat) (q3299 : Nat) (q3300 : Nat) (q3301 : Nat) (p3302 : Int32) (f3303 : Nat → Int64) (f3304 : Nat → Int64) (f3305 : Nat → Int32)  : Ct (gV D I) l yX6_factor cX6_factor 4 (some FieldType.int) 1 21 0 0 [.ref q3298, .int p3302] [(q3298, .inr (11, [.ref q3299, .ref q3300, .ref q3301])), (q3299, .inl (I .long, 40, .inr (.inl f3303))), (q3300, .inl (I .long, 40, .inr (.inl f3304))), (q3301, .inl (I .int, 40, .inl f3305))] (po_3306_Loops_factor I q3298 q3299 q3300 q3301 p3302 f3303 f3304 f3305) gN := by
  refine Ct_of hl0 (by decide) (Nat.le_of_ble_eq_true rfl) ?_
  have bp3302 := gB_any p3302
  refine G_iconst 1 d_cX6_factor_0 (by decide +kernel) ?_
  refine G_istore_n (L' := [(2, .int 1), (0, .ref q3298), (1, .int p3302)]) d_cX6_factor_1 (Nat.le_of_ble_eq_true rfl) rfl ?_
  refine G_iconst 0 d_cX6_factor_2 (by decide +kernel) ?_
  refine G_istore_n (L' := [(3, .int 0), (2, .int 1), (0, .ref q3298), (1, .int p3302)]) d_cX6_factor_3 (Nat.le_of_ble_eq_true rfl) rfl ?_
  have hlp4_3388 : ∀ (n4_3388 : Nat) (g3387 : Int32) (g3388 : Int32), gB g3387 0 2147483647 → gB g3388 (-2147483648) 2147483647 → ((2147483648 : Int) - g3387.toInt).toNat < n4_3388 → G (gV D I) l (gRm 1 21 0 0) (gM (gV D I) (po_3306_Loops_factor I q3298 q3299 q3300 q3301 p3302 f3303 f3304 f3305) gN 0 0) ky_3306_Loops_factor 4 [(3, .int g3387), (2, .int g3388), (0, .ref q3298), (1, .int p3302)] [] [(q3298, .inr (11, [.ref q3299, .ref q3300, .ref q3301])), (q3299, .inl (I .long, 40, .inr (.inl f3303))), (q3300, .inl (I .long, 40, .inr (.inl f3304))), (q3301, .inl (I .int, 40, .inl f3305))] 0 0 := by
    intro n4_3388
    induction n4_3388 with
    | zero => intro g3387 g3388 bg3387 bg3388 hm4_3388; exact absurd hm4_3388 (Nat.not_lt_zero _)
    | succ n4_3388 ih4_3388 =>
      intro g3387 g3388 bg3387 bg3388 hm4_3388
      refine G_iload_n 0 d_cX6_factor_4 rfl ?_
      refine G_aload_n 2 d_cX6_factor_5 rfl ?_
      refine G_iload_n 3 d_cX6_factor_6 rfl ?_
      refine G_callV (As := [.int p3302]) (wr := []) (gV_ok D I) (ct_3290_Loops_depth l hl0 D I q3298 q3299 q3300 q3301 p3302 f3303 f3304 f3305 ) d_cX6_factor_7 ⟨w_4_151, w_1_7, w_4_154, by decide, rfl, (Nat.le_of_ble_eq_true rfl), (Nat.le_of_ble_eq_true rfl)⟩ w_4_152 w_4_153 0 rfl rfl [0, 1, 2, 3] [] rfl rfl rfl rfl (by decide) (Nat.le_of_ble_eq_true rfl) (Nat.le_of_ble_eq_true rfl) (Nat.le_of_ble_eq_true rfl) (fun r w hp => ?_) (fun _ _ _ z => z.elim)
      rcases hp with ⟨rfl, rfl, r3389⟩ | ⟨rfl, rfl, r3390, r3391⟩ | ⟨z3392, rfl, rfl, r3393, r3394, r3395⟩
      · have bp3302' : gB p3302 (-2147483648) (-1) := ⟨by omega, by omega⟩
        change G _ _ _ _ _ _ _ (.int 0 :: _) _ _ _
        refine G_ws (ws' := [(q3298, .inr (11, [.ref q3299, .ref q3300, .ref q3301])), (q3299, .inl (I .long, 40, .inr (.inl f3303))), (q3300, .inl (I .long, 40, .inr (.inl f3304))), (q3301, .inl (I .int, 40, .inl f3305))]) (cs' := 0) (sl' := 0) rfl rfl rfl ?_
        refine G_icmp_ge 24 d_cX6_factor_10 (by decide +kernel) (fun _ => ?_) (fun hc => absurd (show False by have := gj_nleL hc (show Int32.toInt 0 = 0 by decide); omega) not_false)
        refine G_iload_n 1 d_cX6_factor_24 rfl ?_
        exact G_iret d_cX6_factor_25 rfl (Nat.le_of_ble_eq_true rfl) (Nat.le_of_ble_eq_true rfl) ⟨g3388, rfl, rfl, bg3388⟩
      · have bp3302' : gB p3302 0 2147483647 := ⟨by omega, by omega⟩
        have bp3302'' : gB p3302 40 2147483647 := ⟨by omega, by omega⟩
        change G _ _ _ _ _ _ _ (.int 0 :: _) _ _ _
        refine G_ws (ws' := [(q3298, .inr (11, [.ref q3299, .ref q3300, .ref q3301])), (q3299, .inl (I .long, 40, .inr (.inl f3303))), (q3300, .inl (I .long, 40, .inr (.inl f3304))), (q3301, .inl (I .int, 40, .inl f3305))]) (cs' := 0) (sl' := 0) rfl rfl rfl ?_
        refine G_icmp_ge 24 d_cX6_factor_10 (by decide +kernel) (fun _ => ?_) (fun hc => absurd (show False by have := gj_nleL hc (show Int32.toInt 0 = 0 by decide); omega) not_false)
        refine G_iload_n 1 d_cX6_factor_24 rfl ?_
        exact G_iret d_cX6_factor_25 rfl (Nat.le_of_ble_eq_true rfl) (Nat.le_of_ble_eq_true rfl) ⟨g3388, rfl, rfl, bg3388⟩
      · have bp3302' : gB p3302 0 2147483647 := ⟨by omega, by omega⟩
        have bp3302'' : gB p3302 0 39 := ⟨by omega, by omega⟩
        change G _ _ _ _ _ _ _ (.int z3392 :: _) _ _ _
        refine G_ws (ws' := [(q3298, .inr (11, [.ref q3299, .ref q3300, .ref q3301])), (q3299, .inl (I .long, 40, .inr (.inl f3303))), (q3300, .inl (I .long, 40, .inr (.inl f3304))), (q3301, .inl (I .int, 40, .inl f3305))]) (cs' := 0) (sl' := 0) rfl rfl rfl ?_
        refine G_icmp_ge 24 d_cX6_factor_10 (by decide +kernel) (fun hc3396 => ?_) (fun hc3396 => ?_)
        · have r3397 : z3392.toInt ≤ g3387.toInt := gC_le hc3396
          refine G_iload_n 1 d_cX6_factor_24 rfl ?_
          exact G_iret d_cX6_factor_25 rfl (Nat.le_of_ble_eq_true rfl) (Nat.le_of_ble_eq_true rfl) ⟨g3388, rfl, rfl, bg3388⟩
        · have r3398 : g3387.toInt < z3392.toInt := gC_nle hc3396
          have bg3387' : gB g3387 0 2147483646 := ⟨by omega, by omega⟩
          have r3395' : gB z3392 1 2147483647 := ⟨by omega, by omega⟩
          refine G_iload_n 1 d_cX6_factor_13 rfl ?_
          refine G_bipush 10 d_cX6_factor_14 (by decide +kernel) ?_
          refine G_imul d_cX6_factor_16 (G_nam fun z3399 hz3399 => ?_)
          have bz3399 : gB z3399 (-2147483648) 2147483647 := gB_any z3399
          refine G_istore_n (L' := [(2, .int z3399), (3, .int g3387), (0, .ref q3298), (1, .int p3302)]) d_cX6_factor_17 (Nat.le_of_ble_eq_true rfl) rfl ?_
          obtain ⟨z3400, hz3400⟩ : ∃ z : Int32, z = g3387 + Int32.ofInt 1 := ⟨_, rfl⟩
          have ez3400 : z3400.toInt = g3387.toInt + 1 := gI_inc hz3400 (by decide) bg3387' (by decide) (by decide)
          have bz3400 : gB z3400 1 2147483647 := ⟨by omega, by omega⟩
          refine G_iinc (L' := [(3, .int z3400), (2, .int z3399), (0, .ref q3298), (1, .int p3302)]) z3400 1 d_cX6_factor_18 rfl hz3400.symm (Nat.le_of_ble_eq_true rfl) rfl ?_
          refine G_goto 4 d_cX6_factor_21 (by decide +kernel) ?_
          exact ih4_3388 z3400 z3399 (gB_w bz3400 (by decide) (by decide)) bz3399 (by omega)
  exact hlp4_3388 (((2147483648 : Int) - 0).toNat + 1) 0 1 (gB_w (gBl (show Int32.toInt 0 = 0 by decide)) (by decide) (by decide)) (gB_w (gBl (show Int32.toInt 1 = 1 by decide)) (by decide) (by decide)) (Nat.lt_succ_self _)
abbrev ky_3411_Loops_link : gKey := (cX6_link, 3, yX6_link.cls, none, [], yX6_link.name, fun _ _ => True)
abbrev po_3411_Loops_link (I : FieldType → ClassId) (q3402 : Nat) (q3403 : Nat) (q3404 : Nat) (q3405 : Nat) (p3406 : Int32) (p3407 : Int32) (f3408 : Nat → Int64) (f3409 : Nat → Int64) (f3410 : Nat → Int32) : Option Value → va_W → Prop := fun r w => ∃ (f3426 : Nat → Int64) (f3427 : Nat → Int64), r = none ∧ w = [(q3402, .inr (11, [.ref q3403, .ref q3404, .ref q3405])), (q3403, .inl (I .long, 40, .inr (.inl f3426))), (q3404, .inl (I .long, 40, .inr (.inl f3427))), (q3405, .inl (I .int, 40, .inl f3410))]
set_option maxRecDepth 100000 in
set_option maxHeartbeats 4000000 in
theorem ct_3411_Loops_link (l : Launch) (hl0 : l.stackTraces = false) (D : va_G) (I : FieldType → ClassId) (q3402 : Nat) (q3403 : Nat) (q3404 : Nat) (q3405 : Nat) (p3406 : Int32) (p3407 : Int32) (f3408 : Nat → Int64) (f3409 : Nat → Int64) (f3410 : Nat → Int32) (bp3406 : gB p3406 0 39) : Ct (gV D I) l yX6_link cX6_link 3 none 0 0 0 0 [.ref q3402, .int p3406, .int p3407] [(q3402, .inr (11, [.ref q3403, .ref q3404, .ref q3405])), (q3403, .inl (I .long, 40, .inr (.inl f3408))), (q3404, .inl (I .long, 40, .inr (.inl f3409))), (q3405, .inl (I .int, 40, .inl f3410))] (po_3411_Loops_link I q3402 q3403 q3404 q3405 p3406 p3407 f3408 f3409 f3410) gN := by
  refine Ct_of hl0 (by decide) (Nat.le_of_ble_eq_true rfl) ?_
  have bp3407 := gB_any p3407
  refine G_iload_n 2 d_cX6_link_0 rfl ?_
  refine G_if_lt 34 d_cX6_link_1 (by decide +kernel) (fun hc3412 => ?_) (fun hc3412 => ?_)
  · have r3413 : p3407.toInt < 0 := gj_lt hc3412 (show Int32.toInt 0 = 0 by decide)
    have bp3407' : gB p3407 (-2147483648) (-1) := ⟨by omega, by omega⟩
    exact G_vret d_cX6_link_34 rfl (Nat.le_of_ble_eq_true rfl) (Nat.le_of_ble_eq_true rfl) ⟨f3408, f3409, rfl, rfl⟩
  · have r3414 : 0 ≤ p3407.toInt := gj_nlt hc3412 (show Int32.toInt 0 = 0 by decide)
    have bp3407' : gB p3407 0 2147483647 := ⟨by omega, by omega⟩
    refine G_iload_n 2 d_cX6_link_4 rfl ?_
    refine G_bipush 40 d_cX6_link_5 (by decide +kernel) ?_
    refine G_icmp_ge 34 d_cX6_link_7 (by decide +kernel) (fun hc3415 => ?_) (fun hc3415 => ?_)
    · have r3416 : 40 ≤ p3407.toInt := gj_leL hc3415 (show Int32.toInt 40 = 40 by decide)
      have bp3407'' : gB p3407 40 2147483647 := ⟨by omega, by omega⟩
      exact G_vret d_cX6_link_34 rfl (Nat.le_of_ble_eq_true rfl) (Nat.le_of_ble_eq_true rfl) ⟨f3408, f3409, rfl, rfl⟩
    · have r3417 : p3407.toInt < 40 := gj_nleL hc3415 (show Int32.toInt 40 = 40 by decide)
      have bp3407'' : gB p3407 0 39 := ⟨by omega, by omega⟩
      refine G_aload_n 0 d_cX6_link_10 rfl ?_
      refine G_getf 0 0 d_cX6_link_11 rfl (gk_X6 D I) (Nat.le_of_ble_eq_true rfl) w_1_233 rfl ?_
      refine G_iload_n 1 d_cX6_link_14 rfl ?_
      refine G_dup2_11 d_cX6_link_15 rfl rfl ?_
      refine G_lald 1 2 d_cX6_link_16 rfl rfl (gB_in bp3406 (by decide) (by decide)) (G_namL fun u3418 hu3418 => ?_)
      refine G_lconst 1 d_cX6_link_17 rfl ?_
      refine G_iload_n 2 d_cX6_link_18 rfl ?_
      refine G_lshl d_cX6_link_19 (G_namL fun u3419 hu3419 => ?_)
      refine G_lor d_cX6_link_20 (G_namL fun u3420 hu3420 => ?_)
      refine G_lastN 1 2 d_cX6_link_21 rfl rfl (gB_in bp3406 (by decide) (by decide)) (fun f3421 hf3421 => ?_)
      refine G_ws (ws' := [(q3402, .inr (11, [.ref q3403, .ref q3404, .ref q3405])), (q3403, .inl (I .long, 40, .inr (.inl f3421))), (q3404, .inl (I .long, 40, .inr (.inl f3409))), (q3405, .inl (I .int, 40, .inl f3410))]) (cs' := 0) (sl' := 0) rfl rfl rfl ?_
      refine G_aload_n 0 d_cX6_link_22 rfl ?_
      refine G_getf 0 1 d_cX6_link_23 rfl (gk_X6 D I) (Nat.le_of_ble_eq_true rfl) w_1_234 rfl ?_
      refine G_iload_n 2 d_cX6_link_26 rfl ?_
      refine G_dup2_11 d_cX6_link_27 rfl rfl ?_
      refine G_lald 2 2 d_cX6_link_28 rfl rfl (gB_in bp3407'' (by decide) (by decide)) (G_namL fun u3422 hu3422 => ?_)
      refine G_lconst 1 d_cX6_link_29 rfl ?_
      refine G_iload_n 1 d_cX6_link_30 rfl ?_
      refine G_lshl d_cX6_link_31 (G_namL fun u3423 hu3423 => ?_)
      refine G_lor d_cX6_link_32 (G_namL fun u3424 hu3424 => ?_)
      refine G_lastN 2 2 d_cX6_link_33 rfl rfl (gB_in bp3407'' (by decide) (by decide)) (fun f3425 hf3425 => ?_)
      refine G_ws (ws' := [(q3402, .inr (11, [.ref q3403, .ref q3404, .ref q3405])), (q3403, .inl (I .long, 40, .inr (.inl f3421))), (q3404, .inl (I .long, 40, .inr (.inl f3425))), (q3405, .inl (I .int, 40, .inl f3410))]) (cs' := 0) (sl' := 0) rfl rfl rfl ?_
      exact G_vret d_cX6_link_34 rfl (Nat.le_of_ble_eq_true rfl) (Nat.le_of_ble_eq_true rfl) ⟨f3421, f3425, rfl, rfl⟩
abbrev ky_3432_Loops_walk : gKey := (cX6_walk, 11, yX6_walk.cls, (some FieldType.long), [], yX6_walk.name, fun _ _ => True)
abbrev po_3432_Loops_walk (I : FieldType → ClassId) (q3428 : Nat) (pl3429 : Int64) (pl3430 : Int64) (f3431 : Nat → Int64) : Option Value → va_W → Prop := fun r w => ∃ (ol4279 : Int64), r = some (.long ol4279) ∧ w = [(q3428, .inl (I .long, 40, .inr (.inl f3431)))]
set_option maxRecDepth 100000 in
set_option maxHeartbeats 4000000 in
theorem ct_3432_Loops_walk (l : Launch) (hl0 : l.stackTraces = false) (D : va_G) (I : FieldType → ClassId) (q3428 : Nat) (pl3429 : Int64) (pl3430 : Int64) (f3431 : Nat → Int64)  : Ct (gV D I) l yX6_walk cX6_walk 11 (some FieldType.long) 0 0 0 0 [.ref q3428, .long pl3429, .long pl3430] [(q3428, .inl (I .long, 40, .inr (.inl f3431)))] (po_3432_Loops_walk I q3428 pl3429 pl3430 f3431) gN := by
  refine Ct_of hl0 (by decide) (Nat.le_of_ble_eq_true rfl) ?_
  refine G_lload_n 1 d_cX6_walk_0 rfl ?_
  refine G_lload_n 2 d_cX6_walk_1 rfl ?_
  refine G_ldc2 (-1) d_cX6_walk_2 w_4_7 ?_
  refine G_lxor d_cX6_walk_5 (G_namL fun u3433 hu3433 => ?_)
  refine G_land d_cX6_walk_6 (G_namL fun u3434 hu3434 => ?_)
  refine G_lstore (L' := [(5, .long u3434), (0, .ref q3428), (1, .long pl3429), (3, .long pl3430)]) d_cX6_walk_7 (Nat.le_of_ble_eq_true rfl) rfl ?_
  refine G_iconst 0 d_cX6_walk_9 (by decide +kernel) ?_
  refine G_istore (L' := [(7, .int 0), (5, .long u3434), (0, .ref q3428), (1, .long pl3429), (3, .long pl3430)]) d_cX6_walk_10 (Nat.le_of_ble_eq_true rfl) rfl ?_
  have hlp12_4157 : ∀ (n12_4157 : Nat) (g4156 : Int32) (gl4157 : Int64), gB g4156 0 40 → ((41 : Int) - g4156.toInt).toNat < n12_4157 → G (gV D I) l (gRm 0 0 0 0) (gM (gV D I) (po_3432_Loops_walk I q3428 pl3429 pl3430 f3431) gN 0 0) ky_3432_Loops_walk 12 [(7, .int g4156), (5, .long gl4157), (0, .ref q3428), (1, .long pl3429), (3, .long pl3430)] [] [(q3428, .inl (I .long, 40, .inr (.inl f3431)))] 0 0 := by
    intro n12_4157
    induction n12_4157 with
    | zero => intro g4156 gl4157 bg4156 hm12_4157; exact absurd hm12_4157 (Nat.not_lt_zero _)
    | succ n12_4157 ih12_4157 =>
      intro g4156 gl4157 bg4156 hm12_4157
      refine G_iload 0 d_cX6_walk_12 rfl ?_
      refine G_aload_n 2 d_cX6_walk_14 rfl ?_
      refine G_alen 40 0 2 d_cX6_walk_15 rfl rfl rfl ?_
      refine G_icmp_ge 87 d_cX6_walk_16 (by decide +kernel) (fun hc4158 => ?_) (fun hc4158 => ?_)
      · have r4159 : 40 ≤ g4156.toInt := gj_leL hc4158 (show Int32.toInt 40 = 40 by decide)
        have bg4156' : gB g4156 40 40 := ⟨by omega, by omega⟩
        refine G_lload 1 d_cX6_walk_87 rfl ?_
        exact G_lret d_cX6_walk_89 rfl (Nat.le_of_ble_eq_true rfl) (Nat.le_of_ble_eq_true rfl) ⟨gl4157, rfl, rfl⟩
      · have r4160 : g4156.toInt < 40 := gj_nleL hc4158 (show Int32.toInt 40 = 40 by decide)
        have bg4156' : gB g4156 0 39 := ⟨by omega, by omega⟩
        refine G_lload 1 d_cX6_walk_19 rfl ?_
        refine G_lstore (L' := [(8, .long gl4157), (7, .int g4156), (5, .long gl4157), (0, .ref q3428), (1, .long pl3429), (3, .long pl3430)]) d_cX6_walk_21 (Nat.le_of_ble_eq_true rfl) rfl ?_
        refine G_iconst 0 d_cX6_walk_23 (by decide +kernel) ?_
        refine G_istore (L' := [(10, .int 0), (8, .long gl4157), (7, .int g4156), (5, .long gl4157), (0, .ref q3428), (1, .long pl3429), (3, .long pl3430)]) d_cX6_walk_24 (Nat.le_of_ble_eq_true rfl) rfl ?_
        have hlp26_4258 : ∀ (n26_4258 : Nat) (g4257 : Int32) (gl4258 : Int64), gB g4257 0 40 → ((41 : Int) - g4257.toInt).toNat < n26_4258 → G (gV D I) l (gRm 0 0 0 0) (gM (gV D I) (po_3432_Loops_walk I q3428 pl3429 pl3430 f3431) gN 0 0) ky_3432_Loops_walk 26 [(10, .int g4257), (8, .long gl4258), (7, .int g4156), (5, .long gl4157), (0, .ref q3428), (1, .long pl3429), (3, .long pl3430)] [] [(q3428, .inl (I .long, 40, .inr (.inl f3431)))] 0 0 := by
          intro n26_4258
          induction n26_4258 with
          | zero => intro g4257 gl4258 bg4257 hm26_4258; exact absurd hm26_4258 (Nat.not_lt_zero _)
          | succ n26_4258 ih26_4258 =>
            intro g4257 gl4258 bg4257 hm26_4258
            refine G_iload 0 d_cX6_walk_26 rfl ?_
            refine G_aload_n 4 d_cX6_walk_28 rfl ?_
            refine G_alen 40 0 2 d_cX6_walk_29 rfl rfl rfl ?_
            refine G_icmp_ge 66 d_cX6_walk_30 (by decide +kernel) (fun hc4259 => ?_) (fun hc4259 => ?_)
            · have r4260 : 40 ≤ g4257.toInt := gj_leL hc4259 (show Int32.toInt 40 = 40 by decide)
              have bg4257' : gB g4257 40 40 := ⟨by omega, by omega⟩
              refine G_lload 1 d_cX6_walk_66 rfl ?_
              refine G_lload 3 d_cX6_walk_68 rfl ?_
              refine G_lcmp d_cX6_walk_70 (G_nam fun z4261 hz4261 => ?_)
              have bz4261 : gB z4261 (-1) 1 := gB_cmp hz4261
              refine G_if_ne 77 d_cX6_walk_71 (by decide +kernel) (fun hc4262 => ?_) (fun hc4262 => ?_)
              · have r4263 : z4261.toInt ≠ 0 := gj_neq hc4262 (show Int32.toInt 0 = 0 by decide)
                have lhc4262 := gC_cmpN hz4261 hc4262
                refine G_lload 1 d_cX6_walk_77 rfl ?_
                refine G_lstore (L' := [(5, .long gl4258), (10, .int g4257), (8, .long gl4258), (7, .int g4156), (0, .ref q3428), (1, .long pl3429), (3, .long pl3430)]) d_cX6_walk_79 (Nat.le_of_ble_eq_true rfl) rfl ?_
                obtain ⟨z4264, hz4264⟩ : ∃ z : Int32, z = g4156 + Int32.ofInt 1 := ⟨_, rfl⟩
                have ez4264 : z4264.toInt = g4156.toInt + 1 := gI_inc hz4264 (by decide) bg4156' (by decide) (by decide)
                have bz4264 : gB z4264 1 40 := ⟨by omega, by omega⟩
                refine G_iinc (L' := [(7, .int z4264), (5, .long gl4258), (10, .int g4257), (8, .long gl4258), (0, .ref q3428), (1, .long pl3429), (3, .long pl3430)]) z4264 3 d_cX6_walk_81 rfl hz4264.symm (Nat.le_of_ble_eq_true rfl) rfl ?_
                refine G_goto 12 d_cX6_walk_84 (by decide +kernel) ?_
                refine G_lv (L' := [(7, .int z4264), (5, .long gl4258), (0, .ref q3428), (1, .long pl3429), (3, .long pl3430)]) [0, 1, 4, 5, 6] rfl ?_
                exact ih12_4157 z4264 gl4258 (gB_w bz4264 (by decide) (by decide)) (by omega)
              · have r4265 : z4261.toInt = 0 := gj_eq hc4262 (show Int32.toInt 0 = 0 by decide)
                have bz4261' : gB z4261 0 0 := ⟨by omega, by omega⟩
                have lhc4262 := gC_cmpE hz4261 hc4262
                refine G_lload 3 d_cX6_walk_74 rfl ?_
                exact G_lret d_cX6_walk_76 rfl (Nat.le_of_ble_eq_true rfl) (Nat.le_of_ble_eq_true rfl) ⟨gl4157, rfl, rfl⟩
            · have r4266 : g4257.toInt < 40 := gj_nleL hc4259 (show Int32.toInt 40 = 40 by decide)
              have bg4257' : gB g4257 0 39 := ⟨by omega, by omega⟩
              refine G_lload 3 d_cX6_walk_33 rfl ?_
              refine G_iload 0 d_cX6_walk_35 rfl ?_
              refine G_lshr d_cX6_walk_37 (G_namL fun u4267 hu4267 => ?_)
              refine G_lconst 1 d_cX6_walk_38 rfl ?_
              refine G_land d_cX6_walk_39 (G_namL fun u4268 hu4268 => ?_)
              refine G_lconst 0 d_cX6_walk_40 rfl ?_
              refine G_lcmp d_cX6_walk_41 (G_nam fun z4269 hz4269 => ?_)
              have bz4269 : gB z4269 (-1) 1 := gB_cmp hz4269
              refine G_if_eq 60 d_cX6_walk_42 (by decide +kernel) (fun hc4270 => ?_) (fun hc4270 => ?_)
              · have r4271 : z4269.toInt = 0 := gj_eq hc4270 (show Int32.toInt 0 = 0 by decide)
                have bz4269' : gB z4269 0 0 := ⟨by omega, by omega⟩
                have lhc4270 := gC_cmpE hz4269 hc4270
                obtain ⟨z4272, hz4272⟩ : ∃ z : Int32, z = g4257 + Int32.ofInt 1 := ⟨_, rfl⟩
                have ez4272 : z4272.toInt = g4257.toInt + 1 := gI_inc hz4272 (by decide) bg4257' (by decide) (by decide)
                have bz4272 : gB z4272 1 40 := ⟨by omega, by omega⟩
                refine G_iinc (L' := [(10, .int z4272), (8, .long gl4258), (7, .int g4156), (5, .long gl4157), (0, .ref q3428), (1, .long pl3429), (3, .long pl3430)]) z4272 0 d_cX6_walk_60 rfl hz4272.symm (Nat.le_of_ble_eq_true rfl) rfl ?_
                refine G_goto 26 d_cX6_walk_63 (by decide +kernel) ?_
                exact ih26_4258 z4272 gl4258 (gB_w bz4272 (by decide) (by decide)) (by omega)
              · have r4273 : z4269.toInt ≠ 0 := gj_neq hc4270 (show Int32.toInt 0 = 0 by decide)
                have lhc4270 := gC_cmpN hz4269 hc4270
                refine G_lload 1 d_cX6_walk_45 rfl ?_
                refine G_aload_n 4 d_cX6_walk_47 rfl ?_
                refine G_iload 0 d_cX6_walk_48 rfl ?_
                refine G_lald 0 2 d_cX6_walk_50 rfl rfl (gB_in bg4257' (by decide) (by decide)) (G_namL fun u4274 hu4274 => ?_)
                refine G_lload_n 6 d_cX6_walk_51 rfl ?_
                refine G_ldc2 (-1) d_cX6_walk_52 w_4_7 ?_
                refine G_lxor d_cX6_walk_55 (G_namL fun u4275 hu4275 => ?_)
                refine G_land d_cX6_walk_56 (G_namL fun u4276 hu4276 => ?_)
                refine G_lor d_cX6_walk_57 (G_namL fun u4277 hu4277 => ?_)
                refine G_lstore (L' := [(8, .long u4277), (10, .int g4257), (7, .int g4156), (5, .long gl4157), (0, .ref q3428), (1, .long pl3429), (3, .long pl3430)]) d_cX6_walk_58 (Nat.le_of_ble_eq_true rfl) rfl ?_
                obtain ⟨z4278, hz4278⟩ : ∃ z : Int32, z = g4257 + Int32.ofInt 1 := ⟨_, rfl⟩
                have ez4278 : z4278.toInt = g4257.toInt + 1 := gI_inc hz4278 (by decide) bg4257' (by decide) (by decide)
                have bz4278 : gB z4278 1 40 := ⟨by omega, by omega⟩
                refine G_iinc (L' := [(10, .int z4278), (8, .long u4277), (7, .int g4156), (5, .long gl4157), (0, .ref q3428), (1, .long pl3429), (3, .long pl3430)]) z4278 1 d_cX6_walk_60 rfl hz4278.symm (Nat.le_of_ble_eq_true rfl) rfl ?_
                refine G_goto 26 d_cX6_walk_63 (by decide +kernel) ?_
                exact ih26_4258 z4278 u4277 (gB_w bz4278 (by decide) (by decide)) (by omega)
        exact hlp26_4258 (((41 : Int) - 0).toNat + 1) 0 gl4157 (gB_w (gBl (show Int32.toInt 0 = 0 by decide)) (by decide) (by decide)) (Nat.lt_succ_self _)
  exact hlp12_4157 (((41 : Int) - 0).toNat + 1) 0 u3434 (gB_w (gBl (show Int32.toInt 0 = 0 by decide)) (by decide) (by decide)) (Nat.lt_succ_self _)
abbrev ky_4289_Loops_loopOf : gKey := (cX6_loopOf, 10, yX6_loopOf.cls, (some FieldType.long), [], yX6_loopOf.name, fun _ _ => True)
abbrev po_4289_Loops_loopOf (I : FieldType → ClassId) (q4280 : Nat) (q4281 : Nat) (q4282 : Nat) (q4283 : Nat) (p4284 : Int32) (pl4285 : Int64) (f4286 : Nat → Int64) (f4287 : Nat → Int64) (f4288 : Nat → Int32) : Option Value → va_W → Prop := fun r w => ∃ (ol4304 : Int64), r = some (.long ol4304) ∧ w = [(q4280, .inr (11, [.ref q4281, .ref q4282, .ref q4283])), (q4281, .inl (I .long, 40, .inr (.inl f4286))), (q4282, .inl (I .long, 40, .inr (.inl f4287))), (q4283, .inl (I .int, 40, .inl f4288))]
set_option maxRecDepth 100000 in
set_option maxHeartbeats 4000000 in
theorem ct_4289_Loops_loopOf (l : Launch) (hl0 : l.stackTraces = false) (D : va_G) (I : FieldType → ClassId) (q4280 : Nat) (q4281 : Nat) (q4282 : Nat) (q4283 : Nat) (p4284 : Int32) (pl4285 : Int64) (f4286 : Nat → Int64) (f4287 : Nat → Int64) (f4288 : Nat → Int32) (bp4284 : gB p4284 0 39) : Ct (gV D I) l yX6_loopOf cX6_loopOf 10 (some FieldType.long) 1 30 0 0 [.ref q4280, .int p4284, .long pl4285] [(q4280, .inr (11, [.ref q4281, .ref q4282, .ref q4283])), (q4281, .inl (I .long, 40, .inr (.inl f4286))), (q4282, .inl (I .long, 40, .inr (.inl f4287))), (q4283, .inl (I .int, 40, .inl f4288))] (po_4289_Loops_loopOf I q4280 q4281 q4282 q4283 p4284 pl4285 f4286 f4287 f4288) gN := by
  refine Ct_of hl0 (by decide) (Nat.le_of_ble_eq_true rfl) ?_
  refine G_lconst 1 d_cX6_loopOf_0 rfl ?_
  refine G_iload_n 1 d_cX6_loopOf_1 rfl ?_
  refine G_lshl d_cX6_loopOf_2 (G_namL fun u4290 hu4290 => ?_)
  refine G_lstore (L' := [(4, .long u4290), (0, .ref q4280), (1, .int p4284), (2, .long pl4285)]) d_cX6_loopOf_3 (Nat.le_of_ble_eq_true rfl) rfl ?_
  refine G_aload_n 1 d_cX6_loopOf_5 rfl ?_
  refine G_getf 0 0 d_cX6_loopOf_6 rfl (gk_X6 D I) (Nat.le_of_ble_eq_true rfl) w_1_233 rfl ?_
  refine G_lconst 1 d_cX6_loopOf_9 rfl ?_
  refine G_lload 0 d_cX6_loopOf_10 rfl ?_
  refine G_callS (As := [.ref q4281, .long 1, .long u4290]) (wr := [(q4280, .inr (11, [.ref q4281, .ref q4282, .ref q4283])), (q4282, .inl (I .long, 40, .inr (.inl f4287))), (q4283, .inl (I .int, 40, .inl f4288))]) (gV_ok D I) (ct_3432_Loops_walk l hl0 D I q4281 1 u4290 f4286 ) d_cX6_loopOf_12 ⟨w_4_4, w_1_7, w_4_6, by decide, rfl, (Nat.le_of_ble_eq_true rfl), (Nat.le_of_ble_eq_true rfl)⟩ w_4_5 [1] [0, 2, 3] rfl rfl rfl rfl (by decide) (Nat.le_of_ble_eq_true rfl) (Nat.le_of_ble_eq_true rfl) (Nat.le_of_ble_eq_true rfl) (fun r w hp => ?_) (fun _ _ _ z => z.elim)
  obtain ⟨ol4291, rfl, rfl⟩ := hp
  change G _ _ _ _ _ _ _ (.long ol4291 :: _) _ _ _
  refine G_ws (ws' := [(q4280, .inr (11, [.ref q4281, .ref q4282, .ref q4283])), (q4282, .inl (I .long, 40, .inr (.inl f4287))), (q4283, .inl (I .int, 40, .inl f4288)), (q4281, .inl (I .long, 40, .inr (.inl f4286)))]) (cs' := 0) (sl' := 0) rfl rfl rfl ?_
  refine G_lstore (L' := [(6, .long ol4291), (4, .long u4290), (0, .ref q4280), (1, .int p4284), (2, .long pl4285)]) d_cX6_loopOf_15 (Nat.le_of_ble_eq_true rfl) rfl ?_
  refine G_aload_n 2 d_cX6_loopOf_17 rfl ?_
  refine G_getf 0 1 d_cX6_loopOf_18 rfl (gk_X6 D I) (Nat.le_of_ble_eq_true rfl) w_1_234 rfl ?_
  refine G_iload_n 3 d_cX6_loopOf_21 rfl ?_
  refine G_lald 1 2 d_cX6_loopOf_22 rfl rfl (gB_in bp4284 (by decide) (by decide)) (G_namL fun u4292 hu4292 => ?_)
  refine G_lload_n 4 d_cX6_loopOf_23 rfl ?_
  refine G_land d_cX6_loopOf_24 (G_namL fun u4293 hu4293 => ?_)
  refine G_lload 0 d_cX6_loopOf_25 rfl ?_
  refine G_ldc2 (-1) d_cX6_loopOf_27 w_4_7 ?_
  refine G_lxor d_cX6_loopOf_30 (G_namL fun u4294 hu4294 => ?_)
  refine G_land d_cX6_loopOf_31 (G_namL fun u4295 hu4295 => ?_)
  refine G_lstore (L' := [(8, .long u4295), (6, .long ol4291), (4, .long u4290), (0, .ref q4280), (1, .int p4284), (2, .long pl4285)]) d_cX6_loopOf_32 (Nat.le_of_ble_eq_true rfl) rfl ?_
  refine G_lload 0 d_cX6_loopOf_34 rfl ?_
  refine G_lconst 0 d_cX6_loopOf_36 rfl ?_
  refine G_lcmp d_cX6_loopOf_37 (G_nam fun z4296 hz4296 => ?_)
  have bz4296 : gB z4296 (-1) 1 := gB_cmp hz4296
  refine G_if_ne 45 d_cX6_loopOf_38 (by decide +kernel) (fun hc4297 => ?_) (fun hc4297 => ?_)
  · have r4298 : z4296.toInt ≠ 0 := gj_neq hc4297 (show Int32.toInt 0 = 0 by decide)
    have lhc4297 := gC_cmpN hz4296 hc4297
    refine G_lload 2 d_cX6_loopOf_45 rfl ?_
    refine G_aload_n 3 d_cX6_loopOf_47 rfl ?_
    refine G_getf 0 1 d_cX6_loopOf_48 rfl (gk_X6 D I) (Nat.le_of_ble_eq_true rfl) w_1_234 rfl ?_
    refine G_lload 0 d_cX6_loopOf_51 rfl ?_
    refine G_lload 2 d_cX6_loopOf_53 rfl ?_
    refine G_lload_n 5 d_cX6_loopOf_55 rfl ?_
    refine G_ldc2 (-1) d_cX6_loopOf_56 w_4_7 ?_
    refine G_lxor d_cX6_loopOf_59 (G_namL fun u4299 hu4299 => ?_)
    refine G_lor d_cX6_loopOf_60 (G_namL fun u4300 hu4300 => ?_)
    refine G_callS (As := [.ref q4282, .long u4295, .long u4300]) (wr := [(q4280, .inr (11, [.ref q4281, .ref q4282, .ref q4283])), (q4283, .inl (I .int, 40, .inl f4288)), (q4281, .inl (I .long, 40, .inr (.inl f4286)))]) (gV_ok D I) (ct_3432_Loops_walk l hl0 D I q4282 u4295 u4300 f4287 ) d_cX6_loopOf_61 ⟨w_4_4, w_1_7, w_4_6, by decide, rfl, (Nat.le_of_ble_eq_true rfl), (Nat.le_of_ble_eq_true rfl)⟩ w_4_5 [1] [0, 2, 3] rfl rfl rfl rfl (by decide) (Nat.le_of_ble_eq_true rfl) (Nat.le_of_ble_eq_true rfl) (Nat.le_of_ble_eq_true rfl) (fun r w hp => ?_) (fun _ _ _ z => z.elim)
    obtain ⟨ol4301, rfl, rfl⟩ := hp
    change G _ _ _ _ _ _ _ (.long ol4301 :: _) _ _ _
    refine G_ws (ws' := [(q4280, .inr (11, [.ref q4281, .ref q4282, .ref q4283])), (q4283, .inl (I .int, 40, .inl f4288)), (q4281, .inl (I .long, 40, .inr (.inl f4286))), (q4282, .inl (I .long, 40, .inr (.inl f4287)))]) (cs' := 0) (sl' := 0) rfl rfl rfl ?_
    refine G_lor d_cX6_loopOf_64 (G_namL fun u4302 hu4302 => ?_)
    refine G_sub (ws' := [(q4280, .inr (11, [.ref q4281, .ref q4282, .ref q4283])), (q4281, .inl (I .long, 40, .inr (.inl f4286))), (q4282, .inl (I .long, 40, .inr (.inl f4287))), (q4283, .inl (I .int, 40, .inl f4288))]) [0, 2, 3, 1] rfl rfl ?_
    exact G_lret d_cX6_loopOf_65 rfl (Nat.le_of_ble_eq_true rfl) (Nat.le_of_ble_eq_true rfl) ⟨u4302, rfl, rfl⟩
  · have r4303 : z4296.toInt = 0 := gj_eq hc4297 (show Int32.toInt 0 = 0 by decide)
    have bz4296' : gB z4296 0 0 := ⟨by omega, by omega⟩
    have lhc4297 := gC_cmpE hz4296 hc4297
    refine G_lconst 0 d_cX6_loopOf_41 rfl ?_
    refine G_goto 65 d_cX6_loopOf_42 (by decide +kernel) ?_
    refine G_sub (ws' := [(q4280, .inr (11, [.ref q4281, .ref q4282, .ref q4283])), (q4281, .inl (I .long, 40, .inr (.inl f4286))), (q4282, .inl (I .long, 40, .inr (.inl f4287))), (q4283, .inl (I .int, 40, .inl f4288))]) [0, 3, 1, 2] rfl rfl ?_
    exact G_lret d_cX6_loopOf_65 rfl (Nat.le_of_ble_eq_true rfl) (Nat.le_of_ble_eq_true rfl) ⟨0, rfl, rfl⟩
abbrev ky_4313_Loops_deepen : gKey := (cX6_deepen, 4, yX6_deepen.cls, none, [], yX6_deepen.name, fun _ _ => True)
abbrev po_4313_Loops_deepen (I : FieldType → ClassId) (q4305 : Nat) (q4306 : Nat) (q4307 : Nat) (q4308 : Nat) (pl4309 : Int64) (f4310 : Nat → Int64) (f4311 : Nat → Int64) (f4312 : Nat → Int32) : Option Value → va_W → Prop := fun r w => ∃ (f4437 : Nat → Int32), r = none ∧ w = [(q4305, .inr (11, [.ref q4306, .ref q4307, .ref q4308])), (q4306, .inl (I .long, 40, .inr (.inl f4310))), (q4307, .inl (I .long, 40, .inr (.inl f4311))), (q4308, .inl (I .int, 40, .inl f4437))] ∧ gF f4437 (-2147483648) 2147483647
set_option maxRecDepth 100000 in
set_option maxHeartbeats 4000000 in
theorem ct_4313_Loops_deepen (l : Launch) (hl0 : l.stackTraces = false) (D : va_G) (I : FieldType → ClassId) (q4305 : Nat) (q4306 : Nat) (q4307 : Nat) (q4308 : Nat) (pl4309 : Int64) (f4310 : Nat → Int64) (f4311 : Nat → Int64) (f4312 : Nat → Int32)  : Ct (gV D I) l yX6_deepen cX6_deepen 4 none 0 0 0 0 [.ref q4305, .long pl4309] [(q4305, .inr (11, [.ref q4306, .ref q4307, .ref q4308])), (q4306, .inl (I .long, 40, .inr (.inl f4310))), (q4307, .inl (I .long, 40, .inr (.inl f4311))), (q4308, .inl (I .int, 40, .inl f4312))] (po_4313_Loops_deepen I q4305 q4306 q4307 q4308 pl4309 f4310 f4311 f4312) gN := by
  refine Ct_of hl0 (by decide) (Nat.le_of_ble_eq_true rfl) ?_
  refine G_iconst 0 d_cX6_deepen_0 (by decide +kernel) ?_
  refine G_istore_n (L' := [(3, .int 0), (0, .ref q4305), (1, .long pl4309)]) d_cX6_deepen_1 (Nat.le_of_ble_eq_true rfl) rfl ?_
  have hlp2_4418 : ∀ (n2_4418 : Nat) (g4417 : Int32) (f4418 : Nat → Int32), gB g4417 0 40 → gF f4418 (-2147483648) 2147483647 → ((41 : Int) - g4417.toInt).toNat < n2_4418 → G (gV D I) l (gRm 0 0 0 0) (gM (gV D I) (po_4313_Loops_deepen I q4305 q4306 q4307 q4308 pl4309 f4310 f4311 f4312) gN 0 0) ky_4313_Loops_deepen 2 [(3, .int g4417), (0, .ref q4305), (1, .long pl4309)] [] [(q4305, .inr (11, [.ref q4306, .ref q4307, .ref q4308])), (q4306, .inl (I .long, 40, .inr (.inl f4310))), (q4307, .inl (I .long, 40, .inr (.inl f4311))), (q4308, .inl (I .int, 40, .inl f4418))] 0 0 := by
    intro n2_4418
    induction n2_4418 with
    | zero => intro g4417 f4418 bg4417 bf4418 hm2_4418; exact absurd hm2_4418 (Nat.not_lt_zero _)
    | succ n2_4418 ih2_4418 =>
      intro g4417 f4418 bg4417 bf4418 hm2_4418
      refine G_iload_n 0 d_cX6_deepen_2 rfl ?_
      refine G_bipush 40 d_cX6_deepen_3 (by decide +kernel) ?_
      refine G_icmp_ge 44 d_cX6_deepen_5 (by decide +kernel) (fun hc4419 => ?_) (fun hc4419 => ?_)
      · have r4420 : 40 ≤ g4417.toInt := gj_leL hc4419 (show Int32.toInt 40 = 40 by decide)
        have bg4417' : gB g4417 40 40 := ⟨by omega, by omega⟩
        exact G_vret d_cX6_deepen_44 rfl (Nat.le_of_ble_eq_true rfl) (Nat.le_of_ble_eq_true rfl) ⟨f4418, rfl, rfl, bf4418⟩
      · have r4421 : g4417.toInt < 40 := gj_nleL hc4419 (show Int32.toInt 40 = 40 by decide)
        have bg4417' : gB g4417 0 39 := ⟨by omega, by omega⟩
        refine G_lload_n 2 d_cX6_deepen_8 rfl ?_
        refine G_iload_n 0 d_cX6_deepen_9 rfl ?_
        refine G_lshr d_cX6_deepen_10 (G_namL fun u4422 hu4422 => ?_)
        refine G_lconst 1 d_cX6_deepen_11 rfl ?_
        refine G_land d_cX6_deepen_12 (G_namL fun u4423 hu4423 => ?_)
        refine G_lconst 0 d_cX6_deepen_13 rfl ?_
        refine G_lcmp d_cX6_deepen_14 (G_nam fun z4424 hz4424 => ?_)
        have bz4424 : gB z4424 (-1) 1 := gB_cmp hz4424
        refine G_if_eq 38 d_cX6_deepen_15 (by decide +kernel) (fun hc4425 => ?_) (fun hc4425 => ?_)
        · have r4426 : z4424.toInt = 0 := gj_eq hc4425 (show Int32.toInt 0 = 0 by decide)
          have bz4424' : gB z4424 0 0 := ⟨by omega, by omega⟩
          have lhc4425 := gC_cmpE hz4424 hc4425
          obtain ⟨z4427, hz4427⟩ : ∃ z : Int32, z = g4417 + Int32.ofInt 1 := ⟨_, rfl⟩
          have ez4427 : z4427.toInt = g4417.toInt + 1 := gI_inc hz4427 (by decide) bg4417' (by decide) (by decide)
          have bz4427 : gB z4427 1 40 := ⟨by omega, by omega⟩
          refine G_iinc (L' := [(3, .int z4427), (0, .ref q4305), (1, .long pl4309)]) z4427 0 d_cX6_deepen_38 rfl hz4427.symm (Nat.le_of_ble_eq_true rfl) rfl ?_
          refine G_goto 2 d_cX6_deepen_41 (by decide +kernel) ?_
          exact ih2_4418 z4427 f4418 (gB_w bz4427 (by decide) (by decide)) bf4418 (by omega)
        · have r4428 : z4424.toInt ≠ 0 := gj_neq hc4425 (show Int32.toInt 0 = 0 by decide)
          have lhc4425 := gC_cmpN hz4424 hc4425
          refine G_aload_n 1 d_cX6_deepen_18 rfl ?_
          refine G_getf 0 2 d_cX6_deepen_19 rfl (gk_X6 D I) (Nat.le_of_ble_eq_true rfl) w_1_235 rfl ?_
          refine G_iload_n 0 d_cX6_deepen_22 rfl ?_
          refine G_iald 3 0 d_cX6_deepen_23 rfl rfl (gB_in bg4417' (by decide) (by decide)) (G_nam fun z4429 hz4429 => ?_)
          have bz4429 : gB z4429 (-2147483648) 2147483647 := by rw [hz4429]; exact bf4418 _
          refine G_iconst 4 d_cX6_deepen_24 (by decide +kernel) ?_
          refine G_icmp_ge 38 d_cX6_deepen_25 (by decide +kernel) (fun hc4430 => ?_) (fun hc4430 => ?_)
          · have r4431 : 4 ≤ z4429.toInt := gj_leL hc4430 (show Int32.toInt 4 = 4 by decide)
            have bz4429' : gB z4429 4 2147483647 := ⟨by omega, by omega⟩
            obtain ⟨z4432, hz4432⟩ : ∃ z : Int32, z = g4417 + Int32.ofInt 1 := ⟨_, rfl⟩
            have ez4432 : z4432.toInt = g4417.toInt + 1 := gI_inc hz4432 (by decide) bg4417' (by decide) (by decide)
            have bz4432 : gB z4432 1 40 := ⟨by omega, by omega⟩
            refine G_iinc (L' := [(3, .int z4432), (0, .ref q4305), (1, .long pl4309)]) z4432 0 d_cX6_deepen_38 rfl hz4432.symm (Nat.le_of_ble_eq_true rfl) rfl ?_
            refine G_goto 2 d_cX6_deepen_41 (by decide +kernel) ?_
            exact ih2_4418 z4432 f4418 (gB_w bz4432 (by decide) (by decide)) bf4418 (by omega)
          · have r4433 : z4429.toInt < 4 := gj_nleL hc4430 (show Int32.toInt 4 = 4 by decide)
            have bz4429' : gB z4429 (-2147483648) 3 := ⟨by omega, by omega⟩
            refine G_aload_n 1 d_cX6_deepen_28 rfl ?_
            refine G_getf 0 2 d_cX6_deepen_29 rfl (gk_X6 D I) (Nat.le_of_ble_eq_true rfl) w_1_235 rfl ?_
            refine G_iload_n 0 d_cX6_deepen_32 rfl ?_
            refine G_dup2_11 d_cX6_deepen_33 rfl rfl ?_
            refine G_iald 3 0 d_cX6_deepen_34 rfl rfl (gB_in bg4417' (by decide) (by decide)) (G_eqi (y := z4429) hz4429.symm ?_)
            refine G_iconst 1 d_cX6_deepen_35 (by decide +kernel) ?_
            refine G_iadd d_cX6_deepen_36 (G_nam fun z4434 hz4434 => ?_)
            have ez4434 : z4434.toInt = z4429.toInt + 1 := by rw [gI_add hz4434 bz4429' (gBl (show Int32.toInt 1 = 1 by decide)) (by decide) (by decide), show Int32.toInt 1 = 1 from by decide]
            have bz4434 : gB z4434 (-2147483647) 4 := gB_add (gI_add hz4434 bz4429' (gBl (show Int32.toInt 1 = 1 by decide)) (by decide) (by decide)) bz4429' (gBl (show Int32.toInt 1 = 1 by decide)) (by decide) (by decide)
            refine G_iastN 3 0 d_cX6_deepen_37 rfl rfl (gB_in bg4417' (by decide) (by decide)) (fun f4435 hf4435 => ?_)
            refine G_ws (ws' := [(q4305, .inr (11, [.ref q4306, .ref q4307, .ref q4308])), (q4306, .inl (I .long, 40, .inr (.inl f4310))), (q4307, .inl (I .long, 40, .inr (.inl f4311))), (q4308, .inl (I .int, 40, .inl f4435))]) (cs' := 0) (sl' := 0) rfl rfl rfl ?_
            obtain ⟨z4436, hz4436⟩ : ∃ z : Int32, z = g4417 + Int32.ofInt 1 := ⟨_, rfl⟩
            have ez4436 : z4436.toInt = g4417.toInt + 1 := gI_inc hz4436 (by decide) bg4417' (by decide) (by decide)
            have bz4436 : gB z4436 1 40 := ⟨by omega, by omega⟩
            refine G_iinc (L' := [(3, .int z4436), (0, .ref q4305), (1, .long pl4309)]) z4436 0 d_cX6_deepen_38 rfl hz4436.symm (Nat.le_of_ble_eq_true rfl) rfl ?_
            refine G_goto 2 d_cX6_deepen_41 (by decide +kernel) ?_
            exact ih2_4418 z4436 f4435 (gB_w bz4436 (by decide) (by decide)) (gF_any f4435) (by omega)
  exact hlp2_4418 (((41 : Int) - 0).toNat + 1) 0 f4312 (gB_w (gBl (show Int32.toInt 0 = 0 by decide)) (by decide) (by decide)) (gF_any f4312) (Nat.lt_succ_self _)
abbrev ky_4471_Arrays_fill : gKey := (cJ7_fill_d0a16, 5, yJ7_fill_d0a16.cls, none, [], yJ7_fill_d0a16.name, fun _ _ => True)
abbrev po_4471_Arrays_fill (I : FieldType → ClassId) (q4468 : Nat) (pl4469 : Int64) (f4470 : Nat → Int64) : Option Value → va_W → Prop := fun r w => ∃ (f4506 : Nat → Int64), r = none ∧ w = [(q4468, .inl (I .long, 40, .inr (.inl f4506)))]
set_option maxRecDepth 100000 in
set_option maxHeartbeats 4000000 in
theorem ct_4471_Arrays_fill (l : Launch) (hl0 : l.stackTraces = false) (D : va_G) (I : FieldType → ClassId) (q4468 : Nat) (pl4469 : Int64) (f4470 : Nat → Int64)  : Ct (gV D I) l yJ7_fill_d0a16 cJ7_fill_d0a16 5 none 0 0 0 0 [.ref q4468, .long pl4469] [(q4468, .inl (I .long, 40, .inr (.inl f4470)))] (po_4471_Arrays_fill I q4468 pl4469 f4470) gN := by
  refine Ct_ofF hl0 (by decide +kernel) (Nat.le_of_ble_eq_true rfl) ?_
  refine G_iconst 0 d_cJ7_fill_d0a16_0 (by decide +kernel) ?_
  refine G_istore_n (L' := [(3, .int 0), (0, .ref q4468), (1, .long pl4469)]) d_cJ7_fill_d0a16_1 (Nat.le_of_ble_eq_true rfl) rfl ?_
  refine G_aload_n 1 d_cJ7_fill_d0a16_2 rfl ?_
  refine G_alen 40 0 2 d_cJ7_fill_d0a16_3 rfl rfl rfl ?_
  refine G_istore (L' := [(4, .int 40), (3, .int 0), (0, .ref q4468), (1, .long pl4469)]) d_cJ7_fill_d0a16_4 (Nat.le_of_ble_eq_true rfl) rfl ?_
  have hlp6_4500 : ∀ (n6_4500 : Nat) (g4499 : Int32) (f4500 : Nat → Int64), gB g4499 0 40 → ((41 : Int) - g4499.toInt).toNat < n6_4500 → G (gV D I) l (gRm 0 0 0 0) (gM (gV D I) (po_4471_Arrays_fill I q4468 pl4469 f4470) gN 0 0) ky_4471_Arrays_fill 6 [(4, .int 40), (3, .int g4499), (0, .ref q4468), (1, .long pl4469)] [] [(q4468, .inl (I .long, 40, .inr (.inl f4500)))] 0 0 := by
    intro n6_4500
    induction n6_4500 with
    | zero => intro g4499 f4500 bg4499 hm6_4500; exact absurd hm6_4500 (Nat.not_lt_zero _)
    | succ n6_4500 ih6_4500 =>
      intro g4499 f4500 bg4499 hm6_4500
      refine G_iload_n 1 d_cJ7_fill_d0a16_6 rfl ?_
      refine G_iload 0 d_cJ7_fill_d0a16_7 rfl ?_
      refine G_icmp_ge 22 d_cJ7_fill_d0a16_9 (by decide +kernel) (fun hc4501 => ?_) (fun hc4501 => ?_)
      · have r4502 : 40 ≤ g4499.toInt := gj_leL hc4501 (show Int32.toInt 40 = 40 by decide)
        have bg4499' : gB g4499 40 40 := ⟨by omega, by omega⟩
        exact G_vret d_cJ7_fill_d0a16_22 rfl (Nat.le_of_ble_eq_true rfl) (Nat.le_of_ble_eq_true rfl) ⟨f4500, rfl, rfl⟩
      · have r4503 : g4499.toInt < 40 := gj_nleL hc4501 (show Int32.toInt 40 = 40 by decide)
        have bg4499' : gB g4499 0 39 := ⟨by omega, by omega⟩
        refine G_aload_n 2 d_cJ7_fill_d0a16_12 rfl ?_
        refine G_iload_n 1 d_cJ7_fill_d0a16_13 rfl ?_
        refine G_lload_n 3 d_cJ7_fill_d0a16_14 rfl ?_
        refine G_lastN 0 2 d_cJ7_fill_d0a16_15 rfl rfl (gB_in bg4499' (by decide) (by decide)) (fun f4504 hf4504 => ?_)
        refine G_ws (ws' := [(q4468, .inl (I .long, 40, .inr (.inl f4504)))]) (cs' := 0) (sl' := 0) rfl rfl rfl ?_
        obtain ⟨z4505, hz4505⟩ : ∃ z : Int32, z = g4499 + Int32.ofInt 1 := ⟨_, rfl⟩
        have ez4505 : z4505.toInt = g4499.toInt + 1 := gI_inc hz4505 (by decide) bg4499' (by decide) (by decide)
        have bz4505 : gB z4505 1 40 := ⟨by omega, by omega⟩
        refine G_iinc (L' := [(3, .int z4505), (4, .int 40), (0, .ref q4468), (1, .long pl4469)]) z4505 1 d_cJ7_fill_d0a16_16 rfl hz4505.symm (Nat.le_of_ble_eq_true rfl) rfl ?_
        refine G_goto 6 d_cJ7_fill_d0a16_19 (by decide +kernel) ?_
        refine G_lv (L' := [(4, .int 40), (3, .int z4505), (0, .ref q4468), (1, .long pl4469)]) [1, 0, 2, 3] rfl ?_
        exact ih6_4500 z4505 f4504 (gB_w bz4505 (by decide) (by decide)) (by omega)
  exact hlp6_4500 (((41 : Int) - 0).toNat + 1) 0 f4470 (gB_w (gBl (show Int32.toInt 0 = 0 by decide)) (by decide) (by decide)) (Nat.lt_succ_self _)
abbrev ky_4512_Arrays_fill : gKey := (cJ7_fill_53178, 4, yJ7_fill_53178.cls, none, [], yJ7_fill_53178.name, fun _ _ => True)
abbrev po_4512_Arrays_fill (I : FieldType → ClassId) (q4509 : Nat) (p4510 : Int32) (f4511 : Nat → Int32) : Option Value → va_W → Prop := fun r w => ∃ (f4547 : Nat → Int32), r = none ∧ w = [(q4509, .inl (I .int, 40, .inl f4547))] ∧ gF f4547 (-2147483648) 2147483647
set_option maxRecDepth 100000 in
set_option maxHeartbeats 4000000 in
theorem ct_4512_Arrays_fill (l : Launch) (hl0 : l.stackTraces = false) (D : va_G) (I : FieldType → ClassId) (q4509 : Nat) (p4510 : Int32) (f4511 : Nat → Int32)  : Ct (gV D I) l yJ7_fill_53178 cJ7_fill_53178 4 none 0 0 0 0 [.ref q4509, .int p4510] [(q4509, .inl (I .int, 40, .inl f4511))] (po_4512_Arrays_fill I q4509 p4510 f4511) gN := by
  refine Ct_ofF hl0 (by decide +kernel) (Nat.le_of_ble_eq_true rfl) ?_
  have bp4510 := gB_any p4510
  refine G_iconst 0 d_cJ7_fill_53178_0 (by decide +kernel) ?_
  refine G_istore_n (L' := [(2, .int 0), (0, .ref q4509), (1, .int p4510)]) d_cJ7_fill_53178_1 (Nat.le_of_ble_eq_true rfl) rfl ?_
  refine G_aload_n 1 d_cJ7_fill_53178_2 rfl ?_
  refine G_alen 40 0 0 d_cJ7_fill_53178_3 rfl rfl rfl ?_
  refine G_istore_n (L' := [(3, .int 40), (2, .int 0), (0, .ref q4509), (1, .int p4510)]) d_cJ7_fill_53178_4 (Nat.le_of_ble_eq_true rfl) rfl ?_
  have hlp5_4541 : ∀ (n5_4541 : Nat) (g4540 : Int32) (f4541 : Nat → Int32), gB g4540 0 40 → gF f4541 (-2147483648) 2147483647 → ((41 : Int) - g4540.toInt).toNat < n5_4541 → G (gV D I) l (gRm 0 0 0 0) (gM (gV D I) (po_4512_Arrays_fill I q4509 p4510 f4511) gN 0 0) ky_4512_Arrays_fill 5 [(3, .int 40), (2, .int g4540), (0, .ref q4509), (1, .int p4510)] [] [(q4509, .inl (I .int, 40, .inl f4541))] 0 0 := by
    intro n5_4541
    induction n5_4541 with
    | zero => intro g4540 f4541 bg4540 bf4541 hm5_4541; exact absurd hm5_4541 (Nat.not_lt_zero _)
    | succ n5_4541 ih5_4541 =>
      intro g4540 f4541 bg4540 bf4541 hm5_4541
      refine G_iload_n 1 d_cJ7_fill_53178_5 rfl ?_
      refine G_iload_n 0 d_cJ7_fill_53178_6 rfl ?_
      refine G_icmp_ge 20 d_cJ7_fill_53178_7 (by decide +kernel) (fun hc4542 => ?_) (fun hc4542 => ?_)
      · have r4543 : 40 ≤ g4540.toInt := gj_leL hc4542 (show Int32.toInt 40 = 40 by decide)
        have bg4540' : gB g4540 40 40 := ⟨by omega, by omega⟩
        exact G_vret d_cJ7_fill_53178_20 rfl (Nat.le_of_ble_eq_true rfl) (Nat.le_of_ble_eq_true rfl) ⟨f4541, rfl, rfl, bf4541⟩
      · have r4544 : g4540.toInt < 40 := gj_nleL hc4542 (show Int32.toInt 40 = 40 by decide)
        have bg4540' : gB g4540 0 39 := ⟨by omega, by omega⟩
        refine G_aload_n 2 d_cJ7_fill_53178_10 rfl ?_
        refine G_iload_n 1 d_cJ7_fill_53178_11 rfl ?_
        refine G_iload_n 3 d_cJ7_fill_53178_12 rfl ?_
        refine G_iastN 0 0 d_cJ7_fill_53178_13 rfl rfl (gB_in bg4540' (by decide) (by decide)) (fun f4545 hf4545 => ?_)
        refine G_ws (ws' := [(q4509, .inl (I .int, 40, .inl f4545))]) (cs' := 0) (sl' := 0) rfl rfl rfl ?_
        obtain ⟨z4546, hz4546⟩ : ∃ z : Int32, z = g4540 + Int32.ofInt 1 := ⟨_, rfl⟩
        have ez4546 : z4546.toInt = g4540.toInt + 1 := gI_inc hz4546 (by decide) bg4540' (by decide) (by decide)
        have bz4546 : gB z4546 1 40 := ⟨by omega, by omega⟩
        refine G_iinc (L' := [(2, .int z4546), (3, .int 40), (0, .ref q4509), (1, .int p4510)]) z4546 1 d_cJ7_fill_53178_14 rfl hz4546.symm (Nat.le_of_ble_eq_true rfl) rfl ?_
        refine G_goto 5 d_cJ7_fill_53178_17 (by decide +kernel) ?_
        refine G_lv (L' := [(3, .int 40), (2, .int z4546), (0, .ref q4509), (1, .int p4510)]) [1, 0, 2, 3] rfl ?_
        exact ih5_4541 z4546 f4545 (gB_w bz4546 (by decide) (by decide)) (gF_any f4545) (by omega)
  exact hlp5_4541 (((41 : Int) - 0).toNat + 1) 0 f4511 (gB_w (gBl (show Int32.toInt 0 = 0 by decide)) (by decide) (by decide)) (gF_any f4511) (Nat.lt_succ_self _)
abbrev ky_4467_Loops_find : gKey := (cX6_find, 5, yX6_find.cls, none, [], yX6_find.name, fun _ _ => True)
abbrev po_4467_Loops_find (I : FieldType → ClassId) (q4438 : Nat) (q4439 : Nat) (q4440 : Nat) (q4441 : Nat) (q4442 : Nat) (q4443 : Nat) (q4444 : Nat) (q4445 : Nat) (q4446 : Nat) (q4447 : Nat) (q4448 : Nat) (q4449 : Nat) (q4450 : Nat) (q4451 : Nat) (p4452 : Int32) (p4453 : Int32) (p4454 : Int32) (f4455 : Nat → Int64) (f4456 : Nat → Int64) (f4457 : Nat → Int32) (f4458 : Nat → Int32) (f4459 : Nat → Int32) (f4460 : Nat → Int32) (f4461 : Nat → Int32) (f4462 : Nat → Int32) (f4463 : Nat → Int32) (f4464 : Nat → Int32) (f4465 : Nat → Int32) (f4466 : Nat → Int32) : Option Value → va_W → Prop := fun r w => ∃ (f4889 : Nat → Int64) (f4890 : Nat → Int64) (f4891 : Nat → Int32), r = none ∧ w = [(q4438, .inr (11, [.ref q4440, .ref q4441, .ref q4442])), (q4439, .inr (5, [.ref q4443, .ref q4444, .ref q4445, .ref q4446, .ref q4447, .ref q4448, .ref q4449, .ref q4450, .ref q4451, .int p4452, .int p4453, .int p4454])), (q4440, .inl (I .long, 40, .inr (.inl f4889))), (q4441, .inl (I .long, 40, .inr (.inl f4890))), (q4442, .inl (I .int, 40, .inl f4891)), (q4443, .inl (I .int, 40, .inl f4458)), (q4444, .inl (I .int, 40, .inl f4459)), (q4445, .inl (I .int, 40, .inl f4460)), (q4446, .inl (I .int, 200, .inl f4461)), (q4447, .inl (I .int, 200, .inl f4462)), (q4448, .inl (I .int, 200, .inl f4463)), (q4449, .inl (I .int, 200, .inl f4464)), (q4450, .inl (I .int, 200, .inl f4465)), (q4451, .inl (I .int, 200, .inl f4466))] ∧ gF f4891 (-2147483648) 2147483647
set_option maxRecDepth 100000 in
set_option maxHeartbeats 4000000 in
theorem ct_4467_Loops_find (l : Launch) (hl0 : l.stackTraces = false) (D : va_G) (I : FieldType → ClassId) (q4438 : Nat) (q4439 : Nat) (q4440 : Nat) (q4441 : Nat) (q4442 : Nat) (q4443 : Nat) (q4444 : Nat) (q4445 : Nat) (q4446 : Nat) (q4447 : Nat) (q4448 : Nat) (q4449 : Nat) (q4450 : Nat) (q4451 : Nat) (p4452 : Int32) (p4453 : Int32) (p4454 : Int32) (f4455 : Nat → Int64) (f4456 : Nat → Int64) (f4457 : Nat → Int32) (f4458 : Nat → Int32) (f4459 : Nat → Int32) (f4460 : Nat → Int32) (f4461 : Nat → Int32) (f4462 : Nat → Int32) (f4463 : Nat → Int32) (f4464 : Nat → Int32) (f4465 : Nat → Int32) (f4466 : Nat → Int32) (bp4452 : gB p4452 0 40) (bp4453 : gB p4453 0 200) (bp4454 : gB p4454 0 1) (bf4458 : gF f4458 0 200) : Ct (gV D I) l yX6_find cX6_find 5 none 2 59 0 0 [.ref q4438, .ref q4439] [(q4438, .inr (11, [.ref q4440, .ref q4441, .ref q4442])), (q4439, .inr (5, [.ref q4443, .ref q4444, .ref q4445, .ref q4446, .ref q4447, .ref q4448, .ref q4449, .ref q4450, .ref q4451, .int p4452, .int p4453, .int p4454])), (q4440, .inl (I .long, 40, .inr (.inl f4455))), (q4441, .inl (I .long, 40, .inr (.inl f4456))), (q4442, .inl (I .int, 40, .inl f4457)), (q4443, .inl (I .int, 40, .inl f4458)), (q4444, .inl (I .int, 40, .inl f4459)), (q4445, .inl (I .int, 40, .inl f4460)), (q4446, .inl (I .int, 200, .inl f4461)), (q4447, .inl (I .int, 200, .inl f4462)), (q4448, .inl (I .int, 200, .inl f4463)), (q4449, .inl (I .int, 200, .inl f4464)), (q4450, .inl (I .int, 200, .inl f4465)), (q4451, .inl (I .int, 200, .inl f4466))] (po_4467_Loops_find I q4438 q4439 q4440 q4441 q4442 q4443 q4444 q4445 q4446 q4447 q4448 q4449 q4450 q4451 p4452 p4453 p4454 f4455 f4456 f4457 f4458 f4459 f4460 f4461 f4462 f4463 f4464 f4465 f4466) gN := by
  refine Ct_of hl0 (by decide) (Nat.le_of_ble_eq_true rfl) ?_
  refine G_aload_n 0 d_cX6_find_0 rfl ?_
  refine G_getf 0 0 d_cX6_find_1 rfl (gk_X6 D I) (Nat.le_of_ble_eq_true rfl) w_1_233 rfl ?_
  refine G_lconst 0 d_cX6_find_4 rfl ?_
  refine G_callS (As := [.ref q4440, .long 0]) (wr := [(q4438, .inr (11, [.ref q4440, .ref q4441, .ref q4442])), (q4439, .inr (5, [.ref q4443, .ref q4444, .ref q4445, .ref q4446, .ref q4447, .ref q4448, .ref q4449, .ref q4450, .ref q4451, .int p4452, .int p4453, .int p4454])), (q4441, .inl (I .long, 40, .inr (.inl f4456))), (q4442, .inl (I .int, 40, .inl f4457)), (q4443, .inl (I .int, 40, .inl f4458)), (q4444, .inl (I .int, 40, .inl f4459)), (q4445, .inl (I .int, 40, .inl f4460)), (q4446, .inl (I .int, 200, .inl f4461)), (q4447, .inl (I .int, 200, .inl f4462)), (q4448, .inl (I .int, 200, .inl f4463)), (q4449, .inl (I .int, 200, .inl f4464)), (q4450, .inl (I .int, 200, .inl f4465)), (q4451, .inl (I .int, 200, .inl f4466))]) (gV_ok D I) (ct_4471_Arrays_fill l hl0 D I q4440 0 f4455 ) d_cX6_find_5 ⟨w_3_234, w_1_30, w_3_236, by decide, rfl, (Nat.le_of_ble_eq_true rfl), (Nat.le_of_ble_eq_true rfl)⟩ w_3_235 [2] [0, 1, 3, 4, 5, 6, 7, 8, 9, 10, 11, 12, 13] rfl rfl rfl rfl (by decide) (Nat.le_of_ble_eq_true rfl) (Nat.le_of_ble_eq_true rfl) (Nat.le_of_ble_eq_true rfl) (fun r w hp => ?_) (fun _ _ _ z => z.elim)
  obtain ⟨f4507, rfl, rfl⟩ := hp
  change G _ _ _ _ _ _ _ _ _ _ _
  refine G_ws (ws' := [(q4438, .inr (11, [.ref q4440, .ref q4441, .ref q4442])), (q4439, .inr (5, [.ref q4443, .ref q4444, .ref q4445, .ref q4446, .ref q4447, .ref q4448, .ref q4449, .ref q4450, .ref q4451, .int p4452, .int p4453, .int p4454])), (q4441, .inl (I .long, 40, .inr (.inl f4456))), (q4442, .inl (I .int, 40, .inl f4457)), (q4443, .inl (I .int, 40, .inl f4458)), (q4444, .inl (I .int, 40, .inl f4459)), (q4445, .inl (I .int, 40, .inl f4460)), (q4446, .inl (I .int, 200, .inl f4461)), (q4447, .inl (I .int, 200, .inl f4462)), (q4448, .inl (I .int, 200, .inl f4463)), (q4449, .inl (I .int, 200, .inl f4464)), (q4450, .inl (I .int, 200, .inl f4465)), (q4451, .inl (I .int, 200, .inl f4466)), (q4440, .inl (I .long, 40, .inr (.inl f4507)))]) (cs' := 0) (sl' := 0) rfl rfl rfl ?_
  refine G_aload_n 0 d_cX6_find_8 rfl ?_
  refine G_getf 0 1 d_cX6_find_9 rfl (gk_X6 D I) (Nat.le_of_ble_eq_true rfl) w_1_234 rfl ?_
  refine G_lconst 0 d_cX6_find_12 rfl ?_
  refine G_callS (As := [.ref q4441, .long 0]) (wr := [(q4438, .inr (11, [.ref q4440, .ref q4441, .ref q4442])), (q4439, .inr (5, [.ref q4443, .ref q4444, .ref q4445, .ref q4446, .ref q4447, .ref q4448, .ref q4449, .ref q4450, .ref q4451, .int p4452, .int p4453, .int p4454])), (q4442, .inl (I .int, 40, .inl f4457)), (q4443, .inl (I .int, 40, .inl f4458)), (q4444, .inl (I .int, 40, .inl f4459)), (q4445, .inl (I .int, 40, .inl f4460)), (q4446, .inl (I .int, 200, .inl f4461)), (q4447, .inl (I .int, 200, .inl f4462)), (q4448, .inl (I .int, 200, .inl f4463)), (q4449, .inl (I .int, 200, .inl f4464)), (q4450, .inl (I .int, 200, .inl f4465)), (q4451, .inl (I .int, 200, .inl f4466)), (q4440, .inl (I .long, 40, .inr (.inl f4507)))]) (gV_ok D I) (ct_4471_Arrays_fill l hl0 D I q4441 0 f4456 ) d_cX6_find_13 ⟨w_3_234, w_1_30, w_3_236, by decide, rfl, (Nat.le_of_ble_eq_true rfl), (Nat.le_of_ble_eq_true rfl)⟩ w_3_235 [2] [0, 1, 3, 4, 5, 6, 7, 8, 9, 10, 11, 12, 13] rfl rfl rfl rfl (by decide) (Nat.le_of_ble_eq_true rfl) (Nat.le_of_ble_eq_true rfl) (Nat.le_of_ble_eq_true rfl) (fun r w hp => ?_) (fun _ _ _ z => z.elim)
  obtain ⟨f4508, rfl, rfl⟩ := hp
  change G _ _ _ _ _ _ _ _ _ _ _
  refine G_ws (ws' := [(q4438, .inr (11, [.ref q4440, .ref q4441, .ref q4442])), (q4439, .inr (5, [.ref q4443, .ref q4444, .ref q4445, .ref q4446, .ref q4447, .ref q4448, .ref q4449, .ref q4450, .ref q4451, .int p4452, .int p4453, .int p4454])), (q4442, .inl (I .int, 40, .inl f4457)), (q4443, .inl (I .int, 40, .inl f4458)), (q4444, .inl (I .int, 40, .inl f4459)), (q4445, .inl (I .int, 40, .inl f4460)), (q4446, .inl (I .int, 200, .inl f4461)), (q4447, .inl (I .int, 200, .inl f4462)), (q4448, .inl (I .int, 200, .inl f4463)), (q4449, .inl (I .int, 200, .inl f4464)), (q4450, .inl (I .int, 200, .inl f4465)), (q4451, .inl (I .int, 200, .inl f4466)), (q4440, .inl (I .long, 40, .inr (.inl f4507))), (q4441, .inl (I .long, 40, .inr (.inl f4508)))]) (cs' := 0) (sl' := 0) rfl rfl rfl ?_
  refine G_aload_n 0 d_cX6_find_16 rfl ?_
  refine G_getf 0 2 d_cX6_find_17 rfl (gk_X6 D I) (Nat.le_of_ble_eq_true rfl) w_1_235 rfl ?_
  refine G_iconst 0 d_cX6_find_20 (by decide +kernel) ?_
  refine G_callS (As := [.ref q4442, .int 0]) (wr := [(q4438, .inr (11, [.ref q4440, .ref q4441, .ref q4442])), (q4439, .inr (5, [.ref q4443, .ref q4444, .ref q4445, .ref q4446, .ref q4447, .ref q4448, .ref q4449, .ref q4450, .ref q4451, .int p4452, .int p4453, .int p4454])), (q4443, .inl (I .int, 40, .inl f4458)), (q4444, .inl (I .int, 40, .inl f4459)), (q4445, .inl (I .int, 40, .inl f4460)), (q4446, .inl (I .int, 200, .inl f4461)), (q4447, .inl (I .int, 200, .inl f4462)), (q4448, .inl (I .int, 200, .inl f4463)), (q4449, .inl (I .int, 200, .inl f4464)), (q4450, .inl (I .int, 200, .inl f4465)), (q4451, .inl (I .int, 200, .inl f4466)), (q4440, .inl (I .long, 40, .inr (.inl f4507))), (q4441, .inl (I .long, 40, .inr (.inl f4508)))]) (gV_ok D I) (ct_4512_Arrays_fill l hl0 D I q4442 0 f4457 ) d_cX6_find_21 ⟨w_3_237, w_1_30, w_3_239, by decide, rfl, (Nat.le_of_ble_eq_true rfl), (Nat.le_of_ble_eq_true rfl)⟩ w_3_238 [2] [0, 1, 3, 4, 5, 6, 7, 8, 9, 10, 11, 12, 13] rfl rfl rfl rfl (by decide) (Nat.le_of_ble_eq_true rfl) (Nat.le_of_ble_eq_true rfl) (Nat.le_of_ble_eq_true rfl) (fun r w hp => ?_) (fun _ _ _ z => z.elim)
  obtain ⟨f4548, rfl, rfl, bf4548⟩ := hp
  change G _ _ _ _ _ _ _ _ _ _ _
  refine G_ws (ws' := [(q4438, .inr (11, [.ref q4440, .ref q4441, .ref q4442])), (q4439, .inr (5, [.ref q4443, .ref q4444, .ref q4445, .ref q4446, .ref q4447, .ref q4448, .ref q4449, .ref q4450, .ref q4451, .int p4452, .int p4453, .int p4454])), (q4443, .inl (I .int, 40, .inl f4458)), (q4444, .inl (I .int, 40, .inl f4459)), (q4445, .inl (I .int, 40, .inl f4460)), (q4446, .inl (I .int, 200, .inl f4461)), (q4447, .inl (I .int, 200, .inl f4462)), (q4448, .inl (I .int, 200, .inl f4463)), (q4449, .inl (I .int, 200, .inl f4464)), (q4450, .inl (I .int, 200, .inl f4465)), (q4451, .inl (I .int, 200, .inl f4466)), (q4440, .inl (I .long, 40, .inr (.inl f4507))), (q4441, .inl (I .long, 40, .inr (.inl f4508))), (q4442, .inl (I .int, 40, .inl f4548))]) (cs' := 0) (sl' := 0) rfl rfl rfl ?_
  refine G_iconst 0 d_cX6_find_24 (by decide +kernel) ?_
  refine G_istore_n (L' := [(2, .int 0), (0, .ref q4438), (1, .ref q4439)]) d_cX6_find_25 (Nat.le_of_ble_eq_true rfl) rfl ?_
  have hlp26_4824 : ∀ (n26_4824 : Nat) (g4822 : Int32) (f4823 : Nat → Int64) (f4824 : Nat → Int64), gB g4822 0 40 → ((41 : Int) - g4822.toInt).toNat < n26_4824 → G (gV D I) l (gRm 2 59 0 0) (gM (gV D I) (po_4467_Loops_find I q4438 q4439 q4440 q4441 q4442 q4443 q4444 q4445 q4446 q4447 q4448 q4449 q4450 q4451 p4452 p4453 p4454 f4455 f4456 f4457 f4458 f4459 f4460 f4461 f4462 f4463 f4464 f4465 f4466) gN 0 0) ky_4467_Loops_find 26 [(2, .int g4822), (0, .ref q4438), (1, .ref q4439)] [] [(q4438, .inr (11, [.ref q4440, .ref q4441, .ref q4442])), (q4439, .inr (5, [.ref q4443, .ref q4444, .ref q4445, .ref q4446, .ref q4447, .ref q4448, .ref q4449, .ref q4450, .ref q4451, .int p4452, .int p4453, .int p4454])), (q4443, .inl (I .int, 40, .inl f4458)), (q4444, .inl (I .int, 40, .inl f4459)), (q4445, .inl (I .int, 40, .inl f4460)), (q4446, .inl (I .int, 200, .inl f4461)), (q4447, .inl (I .int, 200, .inl f4462)), (q4448, .inl (I .int, 200, .inl f4463)), (q4449, .inl (I .int, 200, .inl f4464)), (q4450, .inl (I .int, 200, .inl f4465)), (q4451, .inl (I .int, 200, .inl f4466)), (q4440, .inl (I .long, 40, .inr (.inl f4823))), (q4441, .inl (I .long, 40, .inr (.inl f4824))), (q4442, .inl (I .int, 40, .inl f4548))] 0 0 := by
    intro n26_4824
    induction n26_4824 with
    | zero => intro g4822 f4823 f4824 bg4822 hm26_4824; exact absurd hm26_4824 (Nat.not_lt_zero _)
    | succ n26_4824 ih26_4824 =>
      intro g4822 f4823 f4824 bg4822 hm26_4824
      refine G_iload_n 0 d_cX6_find_26 rfl ?_
      refine G_aload_n 2 d_cX6_find_27 rfl ?_
      refine G_getfN 1 9 d_cX6_find_28 rfl (gk_X0 D I) (Nat.le_of_ble_eq_true rfl) (fun _ _ _ h => gn_w 40 rfl h) rfl ?_
      refine G_icmp_ge 62 d_cX6_find_31 (by decide +kernel) (fun hc4825 => ?_) (fun hc4825 => ?_)
      · have r4826 : p4452.toInt ≤ g4822.toInt := gC_le hc4825
        refine G_aload_n 1 d_cX6_find_62 rfl ?_
        refine G_getf 0 0 d_cX6_find_63 rfl (gk_X6 D I) (Nat.le_of_ble_eq_true rfl) w_1_233 rfl ?_
        refine G_lconst 1 d_cX6_find_66 rfl ?_
        refine G_lconst 0 d_cX6_find_67 rfl ?_
        refine G_callS (As := [.ref q4440, .long 1, .long 0]) (wr := [(q4438, .inr (11, [.ref q4440, .ref q4441, .ref q4442])), (q4439, .inr (5, [.ref q4443, .ref q4444, .ref q4445, .ref q4446, .ref q4447, .ref q4448, .ref q4449, .ref q4450, .ref q4451, .int p4452, .int p4453, .int p4454])), (q4443, .inl (I .int, 40, .inl f4458)), (q4444, .inl (I .int, 40, .inl f4459)), (q4445, .inl (I .int, 40, .inl f4460)), (q4446, .inl (I .int, 200, .inl f4461)), (q4447, .inl (I .int, 200, .inl f4462)), (q4448, .inl (I .int, 200, .inl f4463)), (q4449, .inl (I .int, 200, .inl f4464)), (q4450, .inl (I .int, 200, .inl f4465)), (q4451, .inl (I .int, 200, .inl f4466)), (q4441, .inl (I .long, 40, .inr (.inl f4824))), (q4442, .inl (I .int, 40, .inl f4548))]) (gV_ok D I) (ct_3432_Loops_walk l hl0 D I q4440 1 0 f4823 ) d_cX6_find_68 ⟨w_4_4, w_1_7, w_4_6, by decide, rfl, (Nat.le_of_ble_eq_true rfl), (Nat.le_of_ble_eq_true rfl)⟩ w_4_5 [11] [0, 1, 2, 3, 4, 5, 6, 7, 8, 9, 10, 12, 13] rfl rfl rfl rfl (by decide) (Nat.le_of_ble_eq_true rfl) (Nat.le_of_ble_eq_true rfl) (Nat.le_of_ble_eq_true rfl) (fun r w hp => ?_) (fun _ _ _ z => z.elim)
        obtain ⟨ol4827, rfl, rfl⟩ := hp
        change G _ _ _ _ _ _ _ (.long ol4827 :: _) _ _ _
        refine G_ws (ws' := [(q4438, .inr (11, [.ref q4440, .ref q4441, .ref q4442])), (q4439, .inr (5, [.ref q4443, .ref q4444, .ref q4445, .ref q4446, .ref q4447, .ref q4448, .ref q4449, .ref q4450, .ref q4451, .int p4452, .int p4453, .int p4454])), (q4443, .inl (I .int, 40, .inl f4458)), (q4444, .inl (I .int, 40, .inl f4459)), (q4445, .inl (I .int, 40, .inl f4460)), (q4446, .inl (I .int, 200, .inl f4461)), (q4447, .inl (I .int, 200, .inl f4462)), (q4448, .inl (I .int, 200, .inl f4463)), (q4449, .inl (I .int, 200, .inl f4464)), (q4450, .inl (I .int, 200, .inl f4465)), (q4451, .inl (I .int, 200, .inl f4466)), (q4441, .inl (I .long, 40, .inr (.inl f4824))), (q4442, .inl (I .int, 40, .inl f4548)), (q4440, .inl (I .long, 40, .inr (.inl f4823)))]) (cs' := 0) (sl' := 0) rfl rfl rfl ?_
        refine G_lstore_n (L' := [(2, .long ol4827), (0, .ref q4438), (1, .ref q4439)]) d_cX6_find_71 (Nat.le_of_ble_eq_true rfl) rfl ?_
        refine G_iconst 0 d_cX6_find_72 (by decide +kernel) ?_
        refine G_istore (L' := [(4, .int 0), (2, .long ol4827), (0, .ref q4438), (1, .ref q4439)]) d_cX6_find_73 (Nat.le_of_ble_eq_true rfl) rfl ?_
        have hlp75_4874 : ∀ (n75_4874 : Nat) (g4873 : Int32) (f4874 : Nat → Int32), gB g4873 0 40 → gF f4874 (-2147483648) 2147483647 → ((41 : Int) - g4873.toInt).toNat < n75_4874 → G (gV D I) l (gRm 2 59 0 0) (gM (gV D I) (po_4467_Loops_find I q4438 q4439 q4440 q4441 q4442 q4443 q4444 q4445 q4446 q4447 q4448 q4449 q4450 q4451 p4452 p4453 p4454 f4455 f4456 f4457 f4458 f4459 f4460 f4461 f4462 f4463 f4464 f4465 f4466) gN 0 0) ky_4467_Loops_find 75 [(4, .int g4873), (2, .long ol4827), (0, .ref q4438), (1, .ref q4439)] [] [(q4438, .inr (11, [.ref q4440, .ref q4441, .ref q4442])), (q4439, .inr (5, [.ref q4443, .ref q4444, .ref q4445, .ref q4446, .ref q4447, .ref q4448, .ref q4449, .ref q4450, .ref q4451, .int p4452, .int p4453, .int p4454])), (q4443, .inl (I .int, 40, .inl f4458)), (q4444, .inl (I .int, 40, .inl f4459)), (q4445, .inl (I .int, 40, .inl f4460)), (q4446, .inl (I .int, 200, .inl f4461)), (q4447, .inl (I .int, 200, .inl f4462)), (q4448, .inl (I .int, 200, .inl f4463)), (q4449, .inl (I .int, 200, .inl f4464)), (q4450, .inl (I .int, 200, .inl f4465)), (q4451, .inl (I .int, 200, .inl f4466)), (q4441, .inl (I .long, 40, .inr (.inl f4824))), (q4442, .inl (I .int, 40, .inl f4874)), (q4440, .inl (I .long, 40, .inr (.inl f4823)))] 0 0 := by
          intro n75_4874
          induction n75_4874 with
          | zero => intro g4873 f4874 bg4873 bf4874 hm75_4874; exact absurd hm75_4874 (Nat.not_lt_zero _)
          | succ n75_4874 ih75_4874 =>
            intro g4873 f4874 bg4873 bf4874 hm75_4874
            refine G_iload 0 d_cX6_find_75 rfl ?_
            refine G_aload_n 3 d_cX6_find_77 rfl ?_
            refine G_getfN 1 9 d_cX6_find_78 rfl (gk_X0 D I) (Nat.le_of_ble_eq_true rfl) (fun _ _ _ h => gn_w 40 rfl h) rfl ?_
            refine G_icmp_ge 101 d_cX6_find_81 (by decide +kernel) (fun hc4875 => ?_) (fun hc4875 => ?_)
            · have r4876 : p4452.toInt ≤ g4873.toInt := gC_le hc4875
              refine G_sub (ws' := [(q4438, .inr (11, [.ref q4440, .ref q4441, .ref q4442])), (q4439, .inr (5, [.ref q4443, .ref q4444, .ref q4445, .ref q4446, .ref q4447, .ref q4448, .ref q4449, .ref q4450, .ref q4451, .int p4452, .int p4453, .int p4454])), (q4440, .inl (I .long, 40, .inr (.inl f4823))), (q4441, .inl (I .long, 40, .inr (.inl f4824))), (q4442, .inl (I .int, 40, .inl f4874)), (q4443, .inl (I .int, 40, .inl f4458)), (q4444, .inl (I .int, 40, .inl f4459)), (q4445, .inl (I .int, 40, .inl f4460)), (q4446, .inl (I .int, 200, .inl f4461)), (q4447, .inl (I .int, 200, .inl f4462)), (q4448, .inl (I .int, 200, .inl f4463)), (q4449, .inl (I .int, 200, .inl f4464)), (q4450, .inl (I .int, 200, .inl f4465)), (q4451, .inl (I .int, 200, .inl f4466))]) [0, 1, 13, 11, 12, 2, 3, 4, 5, 6, 7, 8, 9, 10] rfl rfl ?_
              exact G_vret d_cX6_find_101 rfl (Nat.le_of_ble_eq_true rfl) (Nat.le_of_ble_eq_true rfl) ⟨f4823, f4824, f4874, rfl, rfl, bf4874⟩
            · have r4877 : g4873.toInt < p4452.toInt := gC_nle hc4875
              have bg4873' : gB g4873 0 39 := ⟨by omega, by omega⟩
              have bp4452' : gB p4452 1 40 := ⟨by omega, by omega⟩
              refine G_aload_n 2 d_cX6_find_84 rfl ?_
              refine G_aload_n 2 d_cX6_find_85 rfl ?_
              refine G_iload 0 d_cX6_find_86 rfl ?_
              refine G_lload_n 1 d_cX6_find_88 rfl ?_
              refine G_callV (As := [.int g4873, .long ol4827]) (wr := [(q4439, .inr (5, [.ref q4443, .ref q4444, .ref q4445, .ref q4446, .ref q4447, .ref q4448, .ref q4449, .ref q4450, .ref q4451, .int p4452, .int p4453, .int p4454])), (q4443, .inl (I .int, 40, .inl f4458)), (q4444, .inl (I .int, 40, .inl f4459)), (q4445, .inl (I .int, 40, .inl f4460)), (q4446, .inl (I .int, 200, .inl f4461)), (q4447, .inl (I .int, 200, .inl f4462)), (q4448, .inl (I .int, 200, .inl f4463)), (q4449, .inl (I .int, 200, .inl f4464)), (q4450, .inl (I .int, 200, .inl f4465)), (q4451, .inl (I .int, 200, .inl f4466))]) (gV_ok D I) (ct_4289_Loops_loopOf l hl0 D I q4438 q4440 q4441 q4442 g4873 ol4827 f4823 f4824 f4874 bg4873') d_cX6_find_89 ⟨w_4_8, w_1_7, w_4_11, by decide, rfl, (Nat.le_of_ble_eq_true rfl), (Nat.le_of_ble_eq_true rfl)⟩ w_4_10 w_p_27 0 rfl rfl [0, 13, 11, 12] [1, 2, 3, 4, 5, 6, 7, 8, 9, 10] rfl rfl rfl rfl (by decide) (Nat.le_of_ble_eq_true rfl) (Nat.le_of_ble_eq_true rfl) (Nat.le_of_ble_eq_true rfl) (fun r w hp => ?_) (fun _ _ _ z => z.elim)
              obtain ⟨ol4878, rfl, rfl⟩ := hp
              change G _ _ _ _ _ _ _ (.long ol4878 :: _) _ _ _
              refine G_ws (ws' := [(q4439, .inr (5, [.ref q4443, .ref q4444, .ref q4445, .ref q4446, .ref q4447, .ref q4448, .ref q4449, .ref q4450, .ref q4451, .int p4452, .int p4453, .int p4454])), (q4443, .inl (I .int, 40, .inl f4458)), (q4444, .inl (I .int, 40, .inl f4459)), (q4445, .inl (I .int, 40, .inl f4460)), (q4446, .inl (I .int, 200, .inl f4461)), (q4447, .inl (I .int, 200, .inl f4462)), (q4448, .inl (I .int, 200, .inl f4463)), (q4449, .inl (I .int, 200, .inl f4464)), (q4450, .inl (I .int, 200, .inl f4465)), (q4451, .inl (I .int, 200, .inl f4466)), (q4438, .inr (11, [.ref q4440, .ref q4441, .ref q4442])), (q4440, .inl (I .long, 40, .inr (.inl f4823))), (q4441, .inl (I .long, 40, .inr (.inl f4824))), (q4442, .inl (I .int, 40, .inl f4874))]) (cs' := 0) (sl' := 0) rfl rfl rfl ?_
              refine G_callV (As := [.long ol4878]) (wr := [(q4439, .inr (5, [.ref q4443, .ref q4444, .ref q4445, .ref q4446, .ref q4447, .ref q4448, .ref q4449, .ref q4450, .ref q4451, .int p4452, .int p4453, .int p4454])), (q4443, .inl (I .int, 40, .inl f4458)), (q4444, .inl (I .int, 40, .inl f4459)), (q4445, .inl (I .int, 40, .inl f4460)), (q4446, .inl (I .int, 200, .inl f4461)), (q4447, .inl (I .int, 200, .inl f4462)), (q4448, .inl (I .int, 200, .inl f4463)), (q4449, .inl (I .int, 200, .inl f4464)), (q4450, .inl (I .int, 200, .inl f4465)), (q4451, .inl (I .int, 200, .inl f4466))]) (gV_ok D I) (ct_4313_Loops_deepen l hl0 D I q4438 q4440 q4441 q4442 ol4878 f4823 f4824 f4874 ) d_cX6_find_92 ⟨w_4_12, w_1_7, w_4_15, by decide, rfl, (Nat.le_of_ble_eq_true rfl), (Nat.le_of_ble_eq_true rfl)⟩ w_4_14 w_p_28 10 rfl rfl [10, 11, 12, 13] [0, 1, 2, 3, 4, 5, 6, 7, 8, 9] rfl rfl rfl rfl (by decide) (Nat.le_of_ble_eq_true rfl) (Nat.le_of_ble_eq_true rfl) (Nat.le_of_ble_eq_true rfl) (fun r w hp => ?_) (fun _ _ _ z => z.elim)
              obtain ⟨f4879, rfl, rfl, bf4879⟩ := hp
              change G _ _ _ _ _ _ _ _ _ _ _
              refine G_ws (ws' := [(q4439, .inr (5, [.ref q4443, .ref q4444, .ref q4445, .ref q4446, .ref q4447, .ref q4448, .ref q4449, .ref q4450, .ref q4451, .int p4452, .int p4453, .int p4454])), (q4443, .inl (I .int, 40, .inl f4458)), (q4444, .inl (I .int, 40, .inl f4459)), (q4445, .inl (I .int, 40, .inl f4460)), (q4446, .inl (I .int, 200, .inl f4461)), (q4447, .inl (I .int, 200, .inl f4462)), (q4448, .inl (I .int, 200, .inl f4463)), (q4449, .inl (I .int, 200, .inl f4464)), (q4450, .inl (I .int, 200, .inl f4465)), (q4451, .inl (I .int, 200, .inl f4466)), (q4438, .inr (11, [.ref q4440, .ref q4441, .ref q4442])), (q4440, .inl (I .long, 40, .inr (.inl f4823))), (q4441, .inl (I .long, 40, .inr (.inl f4824))), (q4442, .inl (I .int, 40, .inl f4879))]) (cs' := 0) (sl' := 0) rfl rfl rfl ?_
              obtain ⟨z4880, hz4880⟩ : ∃ z : Int32, z = g4873 + Int32.ofInt 1 := ⟨_, rfl⟩
              have ez4880 : z4880.toInt = g4873.toInt + 1 := gI_inc hz4880 (by decide) bg4873' (by decide) (by decide)
              have bz4880 : gB z4880 1 40 := ⟨by omega, by omega⟩
              refine G_iinc (L' := [(4, .int z4880), (2, .long ol4827), (0, .ref q4438), (1, .ref q4439)]) z4880 0 d_cX6_find_95 rfl hz4880.symm (Nat.le_of_ble_eq_true rfl) rfl ?_
              refine G_goto 75 d_cX6_find_98 (by decide +kernel) ?_
              refine G_sub (ws' := [(q4438, .inr (11, [.ref q4440, .ref q4441, .ref q4442])), (q4439, .inr (5, [.ref q4443, .ref q4444, .ref q4445, .ref q4446, .ref q4447, .ref q4448, .ref q4449, .ref q4450, .ref q4451, .int p4452, .int p4453, .int p4454])), (q4443, .inl (I .int, 40, .inl f4458)), (q4444, .inl (I .int, 40, .inl f4459)), (q4445, .inl (I .int, 40, .inl f4460)), (q4446, .inl (I .int, 200, .inl f4461)), (q4447, .inl (I .int, 200, .inl f4462)), (q4448, .inl (I .int, 200, .inl f4463)), (q4449, .inl (I .int, 200, .inl f4464)), (q4450, .inl (I .int, 200, .inl f4465)), (q4451, .inl (I .int, 200, .inl f4466)), (q4441, .inl (I .long, 40, .inr (.inl f4824))), (q4442, .inl (I .int, 40, .inl f4879)), (q4440, .inl (I .long, 40, .inr (.inl f4823)))]) [10, 0, 1, 2, 3, 4, 5, 6, 7, 8, 9, 12, 13, 11] rfl rfl ?_
              exact ih75_4874 z4880 f4879 (gB_w bz4880 (by decide) (by decide)) bf4879 (by omega)
        exact hlp75_4874 (((41 : Int) - 0).toNat + 1) 0 f4548 (gB_w (gBl (show Int32.toInt 0 = 0 by decide)) (by decide) (by decide)) bf4548 (Nat.lt_succ_self _)
      · have r4881 : g4822.toInt < p4452.toInt := gC_nle hc4825
        have bg4822' : gB g4822 0 39 := ⟨by omega, by omega⟩
        have bp4452' : gB p4452 1 40 := ⟨by omega, by omega⟩
        refine G_aload_n 1 d_cX6_find_34 rfl ?_
        refine G_iload_n 0 d_cX6_find_35 rfl ?_
        refine G_aload_n 2 d_cX6_find_36 rfl ?_
        refine G_getfN 1 1 d_cX6_find_37 rfl (gk_X0 D I) (Nat.le_of_ble_eq_true rfl) (fun _ _ _ h => gn_w 7 rfl h) rfl ?_
        refine G_iload_n 0 d_cX6_find_40 rfl ?_
        refine G_iald 3 0 d_cX6_find_41 rfl rfl (gB_in bg4822' (by decide) (by decide)) (G_nam fun z4882 hz4882 => ?_)
        have bz4882 : gB z4882 (-2147483648) 2147483647 := gB_any z4882
        refine G_callV (As := [.int g4822, .int z4882]) (wr := [(q4439, .inr (5, [.ref q4443, .ref q4444, .ref q4445, .ref q4446, .ref q4447, .ref q4448, .ref q4449, .ref q4450, .ref q4451, .int p4452, .int p4453, .int p4454])), (q4443, .inl (I .int, 40, .inl f4458)), (q4444, .inl (I .int, 40, .inl f4459)), (q4445, .inl (I .int, 40, .inl f4460)), (q4446, .inl (I .int, 200, .inl f4461)), (q4447, .inl (I .int, 200, .inl f4462)), (q4448, .inl (I .int, 200, .inl f4463)), (q4449, .inl (I .int, 200, .inl f4464)), (q4450, .inl (I .int, 200, .inl f4465)), (q4451, .inl (I .int, 200, .inl f4466))]) (gV_ok D I) (ct_3411_Loops_link l hl0 D I q4438 q4440 q4441 q4442 g4822 z4882 f4823 f4824 f4548 bg4822') d_cX6_find_42 ⟨w_4_0, w_1_7, w_4_3, by decide, rfl, (Nat.le_of_ble_eq_true rfl), (Nat.le_of_ble_eq_true rfl)⟩ w_4_2 w_p_26 0 rfl rfl [0, 11, 12, 13] [1, 2, 3, 4, 5, 6, 7, 8, 9, 10] rfl rfl rfl rfl (by decide) (Nat.le_of_ble_eq_true rfl) (Nat.le_of_ble_eq_true rfl) (Nat.le_of_ble_eq_true rfl) (fun r w hp => ?_) (fun _ _ _ z => z.elim)
        obtain ⟨f4883, f4884, rfl, rfl⟩ := hp
        change G _ _ _ _ _ _ _ _ _ _ _
        refine G_ws (ws' := [(q4439, .inr (5, [.ref q4443, .ref q4444, .ref q4445, .ref q4446, .ref q4447, .ref q4448, .ref q4449, .ref q4450, .ref q4451, .int p4452, .int p4453, .int p4454])), (q4443, .inl (I .int, 40, .inl f4458)), (q4444, .inl (I .int, 40, .inl f4459)), (q4445, .inl (I .int, 40, .inl f4460)), (q4446, .inl (I .int, 200, .inl f4461)), (q4447, .inl (I .int, 200, .inl f4462)), (q4448, .inl (I .int, 200, .inl f4463)), (q4449, .inl (I .int, 200, .inl f4464)), (q4450, .inl (I .int, 200, .inl f4465)), (q4451, .inl (I .int, 200, .inl f4466)), (q4438, .inr (11, [.ref q4440, .ref q4441, .ref q4442])), (q4440, .inl (I .long, 40, .inr (.inl f4883))), (q4441, .inl (I .long, 40, .inr (.inl f4884))), (q4442, .inl (I .int, 40, .inl f4548))]) (cs' := 0) (sl' := 0) rfl rfl rfl ?_
        refine G_aload_n 1 d_cX6_find_45 rfl ?_
        refine G_iload_n 0 d_cX6_find_46 rfl ?_
        refine G_aload_n 2 d_cX6_find_47 rfl ?_
        refine G_getfN 0 2 d_cX6_find_48 rfl (gk_X0 D I) (Nat.le_of_ble_eq_true rfl) (fun _ _ _ h => gn_w 11 rfl h) rfl ?_
        refine G_iload_n 0 d_cX6_find_51 rfl ?_
        refine G_iald 3 0 d_cX6_find_52 rfl rfl (gB_in bg4822' (by decide) (by decide)) (G_nam fun z4885 hz4885 => ?_)
        have bz4885 : gB z4885 (-2147483648) 2147483647 := gB_any z4885
        refine G_callV (As := [.int g4822, .int z4885]) (wr := [(q4439, .inr (5, [.ref q4443, .ref q4444, .ref q4445, .ref q4446, .ref q4447, .ref q4448, .ref q4449, .ref q4450, .ref q4451, .int p4452, .int p4453, .int p4454])), (q4443, .inl (I .int, 40, .inl f4458)), (q4444, .inl (I .int, 40, .inl f4459)), (q4445, .inl (I .int, 40, .inl f4460)), (q4446, .inl (I .int, 200, .inl f4461)), (q4447, .inl (I .int, 200, .inl f4462)), (q4448, .inl (I .int, 200, .inl f4463)), (q4449, .inl (I .int, 200, .inl f4464)), (q4450, .inl (I .int, 200, .inl f4465)), (q4451, .inl (I .int, 200, .inl f4466))]) (gV_ok D I) (ct_3411_Loops_link l hl0 D I q4438 q4440 q4441 q4442 g4822 z4885 f4883 f4884 f4548 bg4822') d_cX6_find_53 ⟨w_4_0, w_1_7, w_4_3, by decide, rfl, (Nat.le_of_ble_eq_true rfl), (Nat.le_of_ble_eq_true rfl)⟩ w_4_2 w_p_26 10 rfl rfl [10, 11, 12, 13] [0, 1, 2, 3, 4, 5, 6, 7, 8, 9] rfl rfl rfl rfl (by decide) (Nat.le_of_ble_eq_true rfl) (Nat.le_of_ble_eq_true rfl) (Nat.le_of_ble_eq_true rfl) (fun r w hp => ?_) (fun _ _ _ z => z.elim)
        obtain ⟨f4886, f4887, rfl, rfl⟩ := hp
        change G _ _ _ _ _ _ _ _ _ _ _
        refine G_ws (ws' := [(q4439, .inr (5, [.ref q4443, .ref q4444, .ref q4445, .ref q4446, .ref q4447, .ref q4448, .ref q4449, .ref q4450, .ref q4451, .int p4452, .int p4453, .int p4454])), (q4443, .inl (I .int, 40, .inl f4458)), (q4444, .inl (I .int, 40, .inl f4459)), (q4445, .inl (I .int, 40, .inl f4460)), (q4446, .inl (I .int, 200, .inl f4461)), (q4447, .inl (I .int, 200, .inl f4462)), (q4448, .inl (I .int, 200, .inl f4463)), (q4449, .inl (I .int, 200, .inl f4464)), (q4450, .inl (I .int, 200, .inl f4465)), (q4451, .inl (I .int, 200, .inl f4466)), (q4438, .inr (11, [.ref q4440, .ref q4441, .ref q4442])), (q4440, .inl (I .long, 40, .inr (.inl f4886))), (q4441, .inl (I .long, 40, .inr (.inl f4887))), (q4442, .inl (I .int, 40, .inl f4548))]) (cs' := 0) (sl' := 0) rfl rfl rfl ?_
        obtain ⟨z4888, hz4888⟩ : ∃ z : Int32, z = g4822 + Int32.ofInt 1 := ⟨_, rfl⟩
        have ez4888 : z4888.toInt = g4822.toInt + 1 := gI_inc hz4888 (by decide) bg4822' (by decide) (by decide)
        have bz4888 : gB z4888 1 40 := ⟨by omega, by omega⟩
        refine G_iinc (L' := [(2, .int z4888), (0, .ref q4438), (1, .ref q4439)]) z4888 0 d_cX6_find_56 rfl hz4888.symm (Nat.le_of_ble_eq_true rfl) rfl ?_
        refine G_goto 26 d_cX6_find_59 (by decide +kernel) ?_
        refine G_sub (ws' := [(q4438, .inr (11, [.ref q4440, .ref q4441, .ref q4442])), (q4439, .inr (5, [.ref q4443, .ref q4444, .ref q4445, .ref q4446, .ref q4447, .ref q4448, .ref q4449, .ref q4450, .ref q4451, .int p4452, .int p4453, .int p4454])), (q4443, .inl (I .int, 40, .inl f4458)), (q4444, .inl (I .int, 40, .inl f4459)), (q4445, .inl (I .int, 40, .inl f4460)), (q4446, .inl (I .int, 200, .inl f4461)), (q4447, .inl (I .int, 200, .inl f4462)), (q4448, .inl (I .int, 200, .inl f4463)), (q4449, .inl (I .int, 200, .inl f4464)), (q4450, .inl (I .int, 200, .inl f4465)), (q4451, .inl (I .int, 200, .inl f4466)), (q4440, .inl (I .long, 40, .inr (.inl f4886))), (q4441, .inl (I .long, 40, .inr (.inl f4887))), (q4442, .inl (I .int, 40, .inl f4548))]) [10, 0, 1, 2, 3, 4, 5, 6, 7, 8, 9, 11, 12, 13] rfl rfl ?_
        exact ih26_4824 z4888 f4886 f4887 (gB_w bz4888 (by decide) (by decide)) (by omega)
  exact hlp26_4824 (((41 : Int) - 0).toNat + 1) 0 f4507 f4508 (gB_w (gBl (show Int32.toInt 0 = 0 by decide)) (by decide) (by decide)) (Nat.lt_succ_self _)
abbrev ky_4912_Machine_takeInput : gKey := (cX7_takeInput, 3, yX7_takeInput.cls, (some FieldType.int), [], yX7_takeInput.name, fun _ _ => True)
abbrev po_4912_Machine_takeInput (I : FieldType → ClassId) (q4892 : Nat) (q4893 : Nat) (q4894 : Nat) (q4895 : Nat) (q4896 : Nat) (q4897 : Nat) (q4898 : Nat) (p4899 : Int32) (p4900 : Int32) (p4901 : Int32) (p4902 : Int32) (p4903 : Int32) (p4904 : Int32) (p4905 : Int32) (p4906 : Int32) (f4907 : Nat → Int32) (f4908 : Nat → Int32) (f4909 : Nat → Int32) (f4910 : Nat → Int32) (f4911 : Nat → Int32) : Option Value → va_W → Prop := fun r w => ∃ (o4976 : Int32) (o4974 : Int32) (f4975 : Nat → Int32), r = some (.int o4976) ∧ w = [(q4892, .inr (12, [.ref q4894, .ref q4895, .ref q4896, .ref q4897, .int o4974, .int p4900, .int p4901, .int p4902, .int p4903, .int p4904, .int p4905])), (q4893, .inr (15, [.ref q4898, .int p4906])), (q4894, .inl (I .int, 2048, .inl f4975)), (q4895, .inl (I .int, 100, .inl f4908)), (q4896, .inl (I .int, 100, .inl f4909)), (q4897, .inl (I .int, 512, .inl f4910)), (q4898, .inl (I .byte, 8192, .inl f4911))] ∧ gB o4976 0 2048 ∧ gB o4974 0 2048 ∧ gF f4975 (-2147483648) 2147483647
set_option maxRecDepth 100000 in
set_option maxHeartbeats 4000000 in
theorem ct_4912_Machine_takeInput (l : Launch) (hl0 : l.stackTraces = false) (D : va_G) (I : FieldType → ClassId) (q4892 : Nat) (q4893 : Nat) (q4894 : Nat) (q4895 : Nat) (q4896 : Nat) (q4897 : Nat) (q4898 : Nat) (p4899 : Int32) (p4900 : Int32) (p4901 : Int32) (p4902 : Int32) (p4903 : Int32) (p4904 : Int32) (p4905 : Int32) (p4906 : Int32) (f4907 : Nat → Int32) (f4908 : Nat → Int32) (f4909 : Nat → Int32) (f4910 : Nat → Int32) (f4911 : Nat → Int32) (bp4899 : gB p4899 0 2048) (bp4900 : gB p4900 0 39) (bp4902 : gB p4902 0 512) (bp4904 : gB p4904 0 2048) (bp4906 : gB p4906 0 8192) (bf4911 : gF f4911 (-128) 127) : Ct (gV D I) l yX7_takeInput cX7_takeInput 3 (some FieldType.int) 2 44 0 0 [.ref q4892, .ref q4893] [(q4892, .inr (12, [.ref q4894, .ref q4895, .ref q4896, .ref q4897, .int p4899, .int p4900, .int p4901, .int p4902, .int p4903, .int p4904, .int p4905])), (q4893, .inr (15, [.ref q4898, .int p4906])), (q4894, .inl (I .int, 2048, .inl f4907)), (q4895, .inl (I .int, 100, .inl f4908)), (q4896, .inl (I .int, 100, .inl f4909)), (q4897, .inl (I .int, 512, .inl f4910)), (q4898, .inl (I .byte, 8192, .inl f4911))] (po_4912_Machine_takeInput I q4892 q4893 q4894 q4895 q4896 q4897 q4898 p4899 p4900 p4901 p4902 p4903 p4904 p4905 p4906 f4907 f4908 f4909 f4910 f4911) gN := by
  refine Ct_of hl0 (by decide) (Nat.le_of_ble_eq_true rfl) ?_
  have bp4901 := gB_any p4901
  have bp4903 := gB_any p4903
  have bp4905 := gB_any p4905
  refine G_aload_n 0 d_cX7_takeInput_0 rfl ?_
  refine G_aload_n 1 d_cX7_takeInput_1 rfl ?_
  refine G_callV (As := []) (wr := [(q4892, .inr (12, [.ref q4894, .ref q4895, .ref q4896, .ref q4897, .int p4899, .int p4900, .int p4901, .int p4902, .int p4903, .int p4904, .int p4905])), (q4894, .inl (I .int, 2048, .inl f4907)), (q4895, .inl (I .int, 100, .inl f4908)), (q4896, .inl (I .int, 100, .inl f4909)), (q4897, .inl (I .int, 512, .inl f4910))]) (gV_ok D I) (ct_5_Tape_size l hl0 D I q4893 q4898 p4906 f4911 bp4906 bf4911) d_cX7_takeInput_2 ⟨w_4_176, w_1_2, w_3_19, by decide, rfl, (Nat.le_of_ble_eq_true rfl), (Nat.le_of_ble_eq_true rfl)⟩ w_3_17 w_3_18 1 rfl rfl [1, 6] [0, 2, 3, 4, 5] rfl rfl rfl rfl (by decide) (Nat.le_of_ble_eq_true rfl) (Nat.le_of_ble_eq_true rfl) (Nat.le_of_ble_eq_true rfl) (fun r w hp => ?_) (fun _ _ _ z => z.elim)
  obtain ⟨rfl, rfl⟩ := hp
  change G _ _ _ _ _ _ _ (.int p4906 :: _) _ _ _
  refine G_ws (ws' := [(q4892, .inr (12, [.ref q4894, .ref q4895, .ref q4896, .ref q4897, .int p4899, .int p4900, .int p4901, .int p4902, .int p4903, .int p4904, .int p4905])), (q4894, .inl (I .int, 2048, .inl f4907)), (q4895, .inl (I .int, 100, .inl f4908)), (q4896, .inl (I .int, 100, .inl f4909)), (q4897, .inl (I .int, 512, .inl f4910)), (q4893, .inr (15, [.ref q4898, .int p4906])), (q4898, .inl (I .byte, 8192, .inl f4911))]) (cs' := 0) (sl' := 0) rfl rfl rfl ?_
  refine G_iconst 4 d_cX7_takeInput_5 (by decide +kernel) ?_
  refine G_idiv d_cX7_takeInput_6 (by decide) (G_nam fun z4913 hz4913 => ?_)
  have ez4913 : z4913.toInt = p4906.toInt / 4 := gI_div hz4913 bp4906 (by decide) (by decide) (by decide)
  have bz4913 : gB z4913 0 2048 := ⟨by omega, by omega⟩
  refine G_aload_n 0 d_cX7_takeInput_7 rfl ?_
  refine G_getf 0 0 d_cX7_takeInput_8 rfl (gk_X7 D I) (Nat.le_of_ble_eq_true rfl) w_2_160 rfl ?_
  refine G_alen 2048 1 0 d_cX7_takeInput_11 rfl rfl rfl ?_
  refine G_mmin d_cX7_takeInput_12 w_4_177 w_3_227 w_1_6 w_3_228 (Nat.le_of_ble_eq_true rfl) (Nat.le_of_ble_eq_true rfl) (Nat.le_of_ble_eq_true rfl) (Nat.le_of_ble_eq_true rfl) (G_nam fun z4914 hz4914 => ?_)
  have ez4914 : z4913.toInt ≥ z4914.toInt ∧ 2048 ≥ z4914.toInt ∧ (z4914.toInt = z4913.toInt ∨ z4914.toInt = 2048) := by have := gI_min hz4914; rw [show Int32.toInt 2048 = 2048 from by decide] at this; omega
  have bz4914 : gB z4914 0 2048 := ⟨by omega, by omega⟩
  refine G_putf (ws' := [(q4892, .inr (12, [.ref q4894, .ref q4895, .ref q4896, .ref q4897, .int z4914, .int p4900, .int p4901, .int p4902, .int p4903, .int p4904, .int p4905])), (q4894, .inl (I .int, 2048, .inl f4907)), (q4895, .inl (I .int, 100, .inl f4908)), (q4896, .inl (I .int, 100, .inl f4909)), (q4897, .inl (I .int, 512, .inl f4910)), (q4893, .inr (15, [.ref q4898, .int p4906])), (q4898, .inl (I .byte, 8192, .inl f4911))]) 0 4 d_cX7_takeInput_15 rfl (gk_X7 D I) (Nat.le_of_ble_eq_true rfl) w_2_164 rfl rfl rfl (Nat.le_of_ble_eq_true rfl) rfl ?_
  refine G_iconst 0 d_cX7_takeInput_18 (by decide +kernel) ?_
  refine G_istore_n (L' := [(2, .int 0), (0, .ref q4892), (1, .ref q4893)]) d_cX7_takeInput_19 (Nat.le_of_ble_eq_true rfl) rfl ?_
  have hlp20_4966 : ∀ (n20_4966 : Nat) (g4965 : Int32) (f4966 : Nat → Int32), gB g4965 0 2048 → gF f4966 (-2147483648) 2147483647 → ((2049 : Int) - g4965.toInt).toNat < n20_4966 → G (gV D I) l (gRm 2 44 0 0) (gM (gV D I) (po_4912_Machine_takeInput I q4892 q4893 q4894 q4895 q4896 q4897 q4898 p4899 p4900 p4901 p4902 p4903 p4904 p4905 p4906 f4907 f4908 f4909 f4910 f4911) gN 0 0) ky_4912_Machine_takeInput 20 [(2, .int g4965), (0, .ref q4892), (1, .ref q4893)] [] [(q4892, .inr (12, [.ref q4894, .ref q4895, .ref q4896, .ref q4897, .int z4914, .int p4900, .int p4901, .int p4902, .int p4903, .int p4904, .int p4905])), (q4894, .inl (I .int, 2048, .inl f4966)), (q4895, .inl (I .int, 100, .inl f4908)), (q4896, .inl (I .int, 100, .inl f4909)), (q4897, .inl (I .int, 512, .inl f4910)), (q4893, .inr (15, [.ref q4898, .int p4906])), (q4898, .inl (I .byte, 8192, .inl f4911))] 0 0 := by
    intro n20_4966
    induction n20_4966 with
    | zero => intro g4965 f4966 bg4965 bf4966 hm20_4966; exact absurd hm20_4966 (Nat.not_lt_zero _)
    | succ n20_4966 ih20_4966 =>
      intro g4965 f4966 bg4965 bf4966 hm20_4966
      refine G_iload_n 0 d_cX7_takeInput_20 rfl ?_
      refine G_aload_n 1 d_cX7_takeInput_21 rfl ?_
      refine G_getf 0 4 d_cX7_takeInput_22 rfl (gk_X7 D I) (Nat.le_of_ble_eq_true rfl) w_2_164 rfl ?_
      refine G_icmp_ge 47 d_cX7_takeInput_25 (by decide +kernel) (fun hc4967 => ?_) (fun hc4967 => ?_)
      · have r4968 : z4914.toInt ≤ g4965.toInt := gC_le hc4967
        refine G_aload_n 1 d_cX7_takeInput_47 rfl ?_
        refine G_getf 0 4 d_cX7_takeInput_48 rfl (gk_X7 D I) (Nat.le_of_ble_eq_true rfl) w_2_164 rfl ?_
        refine G_sub (ws' := [(q4892, .inr (12, [.ref q4894, .ref q4895, .ref q4896, .ref q4897, .int z4914, .int p4900, .int p4901, .int p4902, .int p4903, .int p4904, .int p4905])), (q4893, .inr (15, [.ref q4898, .int p4906])), (q4894, .inl (I .int, 2048, .inl f4966)), (q4895, .inl (I .int, 100, .inl f4908)), (q4896, .inl (I .int, 100, .inl f4909)), (q4897, .inl (I .int, 512, .inl f4910)), (q4898, .inl (I .byte, 8192, .inl f4911))]) [0, 5, 1, 2, 3, 4, 6] rfl rfl ?_
        exact G_iret d_cX7_takeInput_51 rfl (Nat.le_of_ble_eq_true rfl) (Nat.le_of_ble_eq_true rfl) ⟨z4914, z4914, f4966, rfl, rfl, bz4914, bz4914, bf4966⟩
      · have r4969 : g4965.toInt < z4914.toInt := gC_nle hc4967
        have bg4965' : gB g4965 0 2047 := ⟨by omega, by omega⟩
        have bz4914' : gB z4914 1 2048 := ⟨by omega, by omega⟩
        refine G_aload_n 1 d_cX7_takeInput_28 rfl ?_
        refine G_getf 0 0 d_cX7_takeInput_29 rfl (gk_X7 D I) (Nat.le_of_ble_eq_true rfl) w_2_160 rfl ?_
        refine G_iload_n 0 d_cX7_takeInput_32 rfl ?_
        refine G_aload_n 2 d_cX7_takeInput_33 rfl ?_
        refine G_iconst 4 d_cX7_takeInput_34 (by decide +kernel) ?_
        refine G_iload_n 0 d_cX7_takeInput_35 rfl ?_
        refine G_imul d_cX7_takeInput_36 (G_nam fun z4970 hz4970 => ?_)
        have ez4970 : z4970.toInt = 4 * g4965.toInt := by rw [gI_mul hz4970 (gBl (show Int32.toInt 4 = 4 by decide)) bg4965' (by decide) (by decide) (by decide), show Int32.toInt 4 = 4 from by decide]
        have bz4970 : gB z4970 0 8188 := gB_mul hz4970 (gBl (show Int32.toInt 4 = 4 by decide)) bg4965' (by decide) (by decide) (by decide) (by decide)
        refine G_callV (As := [.int z4970]) (wr := [(q4892, .inr (12, [.ref q4894, .ref q4895, .ref q4896, .ref q4897, .int z4914, .int p4900, .int p4901, .int p4902, .int p4903, .int p4904, .int p4905])), (q4894, .inl (I .int, 2048, .inl f4966)), (q4895, .inl (I .int, 100, .inl f4908)), (q4896, .inl (I .int, 100, .inl f4909)), (q4897, .inl (I .int, 512, .inl f4910))]) (gV_ok D I) (ct_134_Tape_intAt l hl0 D I q4893 q4898 z4970 p4906 f4911 bp4906 bf4911) d_cX7_takeInput_37 ⟨w_4_178, w_1_2, w_4_181, by decide, rfl, (Nat.le_of_ble_eq_true rfl), (Nat.le_of_ble_eq_true rfl)⟩ w_4_179 w_4_180 5 rfl rfl [5, 6] [0, 1, 2, 3, 4] rfl rfl rfl rfl (by decide) (Nat.le_of_ble_eq_true rfl) (Nat.le_of_ble_eq_true rfl) (Nat.le_of_ble_eq_true rfl) (fun r w hp => ?_) (fun _ _ _ z => z.elim)
        obtain ⟨o4971, rfl, rfl, bo4971⟩ := hp
        change G _ _ _ _ _ _ _ (.int o4971 :: _) _ _ _
        refine G_ws (ws' := [(q4892, .inr (12, [.ref q4894, .ref q4895, .ref q4896, .ref q4897, .int z4914, .int p4900, .int p4901, .int p4902, .int p4903, .int p4904, .int p4905])), (q4894, .inl (I .int, 2048, .inl f4966)), (q4895, .inl (I .int, 100, .inl f4908)), (q4896, .inl (I .int, 100, .inl f4909)), (q4897, .inl (I .int, 512, .inl f4910)), (q4893, .inr (15, [.ref q4898, .int p4906])), (q4898, .inl (I .byte, 8192, .inl f4911))]) (cs' := 0) (sl' := 0) rfl rfl rfl ?_
        refine G_iastN 1 0 d_cX7_takeInput_40 rfl rfl (gB_in bg4965' (by decide) (by decide)) (fun f4972 hf4972 => ?_)
        refine G_ws (ws' := [(q4892, .inr (12, [.ref q4894, .ref q4895, .ref q4896, .ref q4897, .int z4914, .int p4900, .int p4901, .int p4902, .int p4903, .int p4904, .int p4905])), (q4894, .inl (I .int, 2048, .inl f4972)), (q4895, .inl (I .int, 100, .inl f4908)), (q4896, .inl (I .int, 100, .inl f4909)), (q4897, .inl (I .int, 512, .inl f4910)), (q4893, .inr (15, [.ref q4898, .int p4906])), (q4898, .inl (I .byte, 8192, .inl f4911))]) (cs' := 0) (sl' := 0) rfl rfl rfl ?_
        obtain ⟨z4973, hz4973⟩ : ∃ z : Int32, z = g4965 + Int32.ofInt 1 := ⟨_, rfl⟩
        have ez4973 : z4973.toInt = g4965.toInt + 1 := gI_inc hz4973 (by decide) bg4965' (by decide) (by decide)
        have bz4973 : gB z4973 1 2048 := ⟨by omega, by omega⟩
        refine G_iinc (L' := [(2, .int z4973), (0, .ref q4892), (1, .ref q4893)]) z4973 0 d_cX7_takeInput_41 rfl hz4973.symm (Nat.le_of_ble_eq_true rfl) rfl ?_
        refine G_goto 20 d_cX7_takeInput_44 (by decide +kernel) ?_
        exact ih20_4966 z4973 f4972 (gB_w bz4973 (by decide) (by decide)) (gF_any f4972) (by omega)
  exact hlp20_4966 (((2049 : Int) - 0).toNat + 1) 0 f4907 (gB_w (gBl (show Int32.toInt 0 = 0 by decide)) (by decide) (by decide)) (gF_any f4907) (Nat.lt_succ_self _)
abbrev ky_4993_Machine_answer : gKey := (cX7_answer, 1, yX7_answer.cls, (some FieldType.int), [], yX7_answer.name, fun _ _ => True)
abbrev po_4993_Machine_answer (I : FieldType → ClassId) (q4977 : Nat) (q4978 : Nat) (q4979 : Nat) (q4980 : Nat) (q4981 : Nat) (p4982 : Int32) (p4983 : Int32) (p4984 : Int32) (p4985 : Int32) (p4986 : Int32) (p4987 : Int32) (p4988 : Int32) (f4989 : Nat → Int32) (f4990 : Nat → Int32) (f4991 : Nat → Int32) (f4992 : Nat → Int32) : Option Value → va_W → Prop := fun r w => r = some (.int p4984) ∧ w = [(q4977, .inr (12, [.ref q4978, .ref q4979, .ref q4980, .ref q4981, .int p4982, .int p4983, .int p4984, .int p4985, .int p4986, .int p4987, .int p4988])), (q4978, .inl (I .int, 2048, .inl f4989)), (q4979, .inl (I .int, 100, .inl f4990)), (q4980, .inl (I .int, 100, .inl f4991)), (q4981, .inl (I .int, 512, .inl f4992))]
set_option maxRecDepth 100000 in
set_option maxHeartbeats 4000000 in
theorem ct_4993_Machine_answer (l : Launch) (hl0 : l.stackTraces = false) (D : va_G) (I : FieldType → ClassId) (q4977 : Nat) (q4978 : Nat) (q4979 : Nat) (q4980 : Nat) (q4981 : Nat) (p4982 : Int32) (p4983 : Int32) (p4984 : Int32) (p4985 : Int32) (p4986 : Int32) (p4987 : Int32) (p4988 : Int32) (f4989 : Nat → Int32) (f4990 : Nat → Int32) (f4991 : Nat → Int32) (f4992 : Nat → Int32) (bp4982 : gB p4982 0 2048) (bp4983 : gB p4983 0 39) (bp4985 : gB p4985 0 512) (bp4987 : gB p4987 0 2048) : Ct (gV D I) l yX7_answer cX7_answer 1 (some FieldType.int) 0 0 0 0 [.ref q4977] [(q4977, .inr (12, [.ref q4978, .ref q4979, .ref q4980, .ref q4981, .int p4982, .int p4983, .int p4984, .int p4985, .int p4986, .int p4987, .int p4988])), (q4978, .inl (I .int, 2048, .inl f4989)), (q4979, .inl (I .int, 100, .inl f4990)), (q4980, .inl (I .int, 100, .inl f4991)), (q4981, .inl (I .int, 512, .inl f4992))] (po_4993_Machine_answer I q4977 q4978 q4979 q4980 q4981 p4982 p4983 p4984 p4985 p4986 p4987 p4988 f4989 f4990 f4991 f4992) gN := by
  refine Ct_of hl0 (by decide) (Nat.le_of_ble_eq_true rfl) ?_
  have bp4984 := gB_any p4984
  have bp4986 := gB_any p4986
  have bp4988 := gB_any p4988
  refine G_aload_n 0 d_cX7_answer_0 rfl ?_
  refine G_getf 0 6 d_cX7_answer_1 rfl (gk_X7 D I) (Nat.le_of_ble_eq_true rfl) w_2_166 rfl ?_
  exact G_iret d_cX7_answer_4 rfl (Nat.le_of_ble_eq_true rfl) (Nat.le_of_ble_eq_true rfl) ⟨rfl, rfl⟩
abbrev ky_5010_Machine_shows : gKey := (cX7_shows, 1, yX7_shows.cls, (some FieldType.int), [], yX7_shows.name, fun _ _ => True)
abbrev po_5010_Machine_shows (I : FieldType → ClassId) (q4994 : Nat) (q4995 : Nat) (q4996 : Nat) (q4997 : Nat) (q4998 : Nat) (p4999 : Int32) (p5000 : Int32) (p5001 : Int32) (p5002 : Int32) (p5003 : Int32) (p5004 : Int32) (p5005 : Int32) (f5006 : Nat → Int32) (f5007 : Nat → Int32) (f5008 : Nat → Int32) (f5009 : Nat → Int32) : Option Value → va_W → Prop := fun r w => r = some (.int p5002) ∧ w = [(q4994, .inr (12, [.ref q4995, .ref q4996, .ref q4997, .ref q4998, .int p4999, .int p5000, .int p5001, .int p5002, .int p5003, .int p5004, .int p5005])), (q4995, .inl (I .int, 2048, .inl f5006)), (q4996, .inl (I .int, 100, .inl f5007)), (q4997, .inl (I .int, 100, .inl f5008)), (q4998, .inl (I .int, 512, .inl f5009))]
set_option maxRecDepth 100000 in
set_option maxHeartbeats 4000000 in
theorem ct_5010_Machine_shows (l : Launch) (hl0 : l.stackTraces = false) (D : va_G) (I : FieldType → ClassId) (q4994 : Nat) (q4995 : Nat) (q4996 : Nat) (q4997 : Nat) (q4998 : Nat) (p4999 : Int32) (p5000 : Int32) (p5001 : Int32) (p5002 : Int32) (p5003 : Int32) (p5004 : Int32) (p5005 : Int32) (f5006 : Nat → Int32) (f5007 : Nat → Int32) (f5008 : Nat → Int32) (f5009 : Nat → Int32) (bp4999 : gB p4999 0 2048) (bp5000 : gB p5000 0 39) (bp5002 : gB p5002 0 512) (bp5004 : gB p5004 0 2048) : Ct (gV D I) l yX7_shows cX7_shows 1 (some FieldType.int) 0 0 0 0 [.ref q4994] [(q4994, .inr (12, [.ref q4995, .ref q4996, .ref q4997, .ref q4998, .int p4999, .int p5000, .int p5001, .int p5002, .int p5003, .int p5004, .int p5005])), (q4995, .inl (I .int, 2048, .inl f5006)), (q4996, .inl (I .int, 100, .inl f5007)), (q4997, .inl (I .int, 100, .inl f5008)), (q4998, .inl (I .int, 512, .inl f5009))] (po_5010_Machine_shows I q4994 q4995 q4996 q4997 q4998 p4999 p5000 p5001 p5002 p5003 p5004 p5005 f5006 f5007 f5008 f5009) gN := by
  refine Ct_of hl0 (by decide) (Nat.le_of_ble_eq_true rfl) ?_
  have bp5001 := gB_any p5001
  have bp5003 := gB_any p5003
  have bp5005 := gB_any p5005
  refine G_aload_n 0 d_cX7_shows_0 rfl ?_
  refine G_getf 0 7 d_cX7_shows_1 rfl (gk_X7 D I) (Nat.le_of_ble_eq_true rfl) w_2_167 rfl ?_
  exact G_iret d_cX7_shows_4 rfl (Nat.le_of_ble_eq_true rfl) (Nat.le_of_ble_eq_true rfl) ⟨rfl, rfl⟩
abbrev ky_5028_Machine_showAt : gKey := (cX7_showAt, 2, yX7_showAt.cls, (some FieldType.int), [], yX7_showAt.name, fun _ _ => True)
abbrev po_5028_Machine_showAt (I : FieldType → ClassId) (q5011 : Nat) (q5012 : Nat) (q5013 : Nat) (q5014 : Nat) (q5015 : Nat) (p5016 : Int32) (p5017 : Int32) (p5018 : Int32) (p5019 : Int32) (p5020 : Int32) (p5021 : Int32) (p5022 : Int32) (p5023 : Int32) (f5024 : Nat → Int32) (f5025 : Nat → Int32) (f5026 : Nat → Int32) (f5027 : Nat → Int32) : Option Value → va_W → Prop := fun r w => (r = some (.int 0) ∧ w = [(q5011, .inr (12, [.ref q5012, .ref q5013, .ref q5014, .ref q5015, .int p5017, .int p5018, .int p5019, .int p5020, .int p5021, .int p5022, .int p5023])), (q5012, .inl (I .int, 2048, .inl f5024)), (q5013, .inl (I .int, 100, .inl f5025)), (q5014, .inl (I .int, 100, .inl f5026)), (q5015, .inl (I .int, 512, .inl f5027))] ∧ p5016.toInt < 0) ∨ (r = some (.int 0) ∧ w = [(q5011, .inr (12, [.ref q5012, .ref q5013, .ref q5014, .ref q5015, .int p5017, .int p5018, .int p5019, .int p5020, .int p5021, .int p5022, .int p5023])), (q5012, .inl (I .int, 2048, .inl f5024)), (q5013, .inl (I .int, 100, .inl f5025)), (q5014, .inl (I .int, 100, .inl f5026)), (q5015, .inl (I .int, 512, .inl f5027))] ∧ 0 ≤ p5016.toInt ∧ 512 ≤ p5016.toInt) ∨ (∃ (z5035 : Int32), r = some (.int z5035) ∧ w = [(q5011, .inr (12, [.ref q5012, .ref q5013, .ref q5014, .ref q5015, .int p5017, .int p5018, .int p5019, .int p5020, .int p5021, .int p5022, .int p5023])), (q5012, .inl (I .int, 2048, .inl f5024)), (q5013, .inl (I .int, 100, .inl f5025)), (q5014, .inl (I .int, 100, .inl f5026)), (q5015, .inl (I .int, 512, .inl f5027))] ∧ 0 ≤ p5016.toInt ∧ p5016.toInt < 512 ∧ gB z5035 (-2147483648) 2147483647)
set_option maxRecDepth 100000 in
set_option maxHeartbeats 4000000 in
theorem ct_5028_Machine_showAt (l : Launch) (hl0 : l.stackTraces = false) (D : va_G) (I : FieldType → ClassId) (q5011 : Nat) (q5012 : Nat) (q5013 : Nat) (q5014 : Nat) (q5015 : Nat) (p5016 : Int32) (p5017 : Int32) (p5018 : Int32) (p5019 : Int32) (p5020 : Int32) (p5021 : Int32) (p5022 : Int32) (p5023 : Int32) (f5024 : Nat → Int32) (f5025 : Nat → Int32) (f5026 : Nat → Int32) (f5027 : Nat → Int32) (bp5017 : gB p5017 0 2048) (bp5018 : gB p5018 0 39) (bp5020 : gB p5020 0 512) (bp5022 : gB p5022 0 2048) : Ct (gV D I) l yX7_showAt cX7_showAt 2 (some FieldType.int) 0 0 0 0 [.ref q5011, .int p5016] [(q5011, .inr (12, [.ref q5012, .ref q5013, .ref q5014, .ref q5015, .int p5017, .int p5018, .int p5019, .int p5020, .int p5021, .int p5022, .int p5023])), (q5012, .inl (I .int, 2048, .inl f5024)), (q5013, .inl (I .int, 100, .inl f5025)), (q5014, .inl (I .int, 100, .inl f5026)), (q5015, .inl (I .int, 512, .inl f5027))] (po_5028_Machine_showAt I q5011 q5012 q5013 q5014 q5015 p5016 p5017 p5018 p5019 p5020 p5021 p5022 p5023 f5024 f5025 f5026 f5027) gN := by
  refine Ct_of hl0 (by decide) (Nat.le_of_ble_eq_true rfl) ?_
  have bp5016 := gB_any p5016
  have bp5019 := gB_any p5019
  have bp5021 := gB_any p5021
  have bp5023 := gB_any p5023
  refine G_iload_n 1 d_cX7_showAt_0 rfl ?_
  refine G_if_lt 20 d_cX7_showAt_1 (by decide +kernel) (fun hc5029 => ?_) (fun hc5029 => ?_)
  · have r5030 : p5016.toInt < 0 := gj_lt hc5029 (show Int32.toInt 0 = 0 by decide)
    have bp5016' : gB p5016 (-2147483648) (-1) := ⟨by omega, by omega⟩
    refine G_iconst 0 d_cX7_showAt_20 (by decide +kernel) ?_
    exact G_iret d_cX7_showAt_21 rfl (Nat.le_of_ble_eq_true rfl) (Nat.le_of_ble_eq_true rfl) (Or.inl ⟨rfl, rfl, r5030⟩)
  · have r5031 : 0 ≤ p5016.toInt := gj_nlt hc5029 (show Int32.toInt 0 = 0 by decide)
    have bp5016' : gB p5016 0 2147483647 := ⟨by omega, by omega⟩
    refine G_iload_n 1 d_cX7_showAt_4 rfl ?_
    refine G_sipush 512 d_cX7_showAt_5 (by decide +kernel) ?_
    refine G_icmp_ge 20 d_cX7_showAt_8 (by decide +kernel) (fun hc5032 => ?_) (fun hc5032 => ?_)
    · have r5033 : 512 ≤ p5016.toInt := gj_leL hc5032 (show Int32.toInt 512 = 512 by decide)
      have bp5016'' : gB p5016 512 2147483647 := ⟨by omega, by omega⟩
      refine G_iconst 0 d_cX7_showAt_20 (by decide +kernel) ?_
      exact G_iret d_cX7_showAt_21 rfl (Nat.le_of_ble_eq_true rfl) (Nat.le_of_ble_eq_true rfl) (Or.inr (Or.inl ⟨rfl, rfl, r5031, r5033⟩))
    · have r5034 : p5016.toInt < 512 := gj_nleL hc5032 (show Int32.toInt 512 = 512 by decide)
      have bp5016'' : gB p5016 0 511 := ⟨by omega, by omega⟩
      refine G_aload_n 0 d_cX7_showAt_11 rfl ?_
      refine G_getf 0 3 d_cX7_showAt_12 rfl (gk_X7 D I) (Nat.le_of_ble_eq_true rfl) w_2_163 rfl ?_
      refine G_iload_n 1 d_cX7_showAt_15 rfl ?_
      refine G_iald 4 0 d_cX7_showAt_16 rfl rfl (gB_in bp5016'' (by decide) (by decide)) (G_nam fun z5035 hz5035 => ?_)
      have bz5035 : gB z5035 (-2147483648) 2147483647 := gB_any z5035
      refine G_goto 21 d_cX7_showAt_17 (by decide +kernel) ?_
      exact G_iret d_cX7_showAt_21 rfl (Nat.le_of_ble_eq_true rfl) (Nat.le_of_ble_eq_true rfl) (Or.inr (Or.inr (⟨z5035, rfl, rfl, r5031, r5034, bz5035⟩)))
abbrev ky_5052_Machine_steps : gKey := (cX7_steps, 1, yX7_steps.cls, (some FieldType.int), [], yX7_steps.name, fun _ _ => True)
abbrev po_5052_Machine_steps (I : FieldType → ClassId) (q5036 : Nat) (q5037 : Nat) (q5038 : Nat) (q5039 : Nat) (q5040 : Nat) (p5041 : Int32) (p5042 : Int32) (p5043 : Int32) (p5044 : Int32) (p5045 : Int32) (p5046 : Int32) (p5047 : Int32) (f5048 : Nat → Int32) (f5049 : Nat → Int32) (f5050 : Nat → Int32) (f5051 : Nat → Int32) : Option Value → va_W → Prop := fun r w => r = some (.int p5045) ∧ w = [(q5036, .inr (12, [.ref q5037, .ref q5038, .ref q5039, .ref q5040, .int p5041, .int p5042, .int p5043, .int p5044, .int p5045, .int p5046, .int p5047])), (q5037, .inl (I .int, 2048, .inl f5048)), (q5038, .inl (I .int, 100, .inl f5049)), (q5039, .inl (I .int, 100, .inl f5050)), (q5040, .inl (I .int, 512, .inl f5051))]
set_option maxRecDepth 100000 in
set_option maxHeartbeats 4000000 in
theorem ct_5052_Machine_steps (l : Launch) (hl0 : l.stackTraces = false) (D : va_G) (I : FieldType → ClassId) (q5036 : Nat) (q5037 : Nat) (q5038 : Nat) (q5039 : Nat) (q5040 : Nat) (p5041 : Int32) (p5042 : Int32) (p5043 : Int32) (p5044 : Int32) (p5045 : Int32) (p5046 : Int32) (p5047 : Int32) (f5048 : Nat → Int32) (f5049 : Nat → Int32) (f5050 : Nat → Int32) (f5051 : Nat → Int32) (bp5041 : gB p5041 0 2048) (bp5042 : gB p5042 0 39) (bp5044 : gB p5044 0 512) (bp5046 : gB p5046 0 2048) : Ct (gV D I) l yX7_steps cX7_steps 1 (some FieldType.int) 0 0 0 0 [.ref q5036] [(q5036, .inr (12, [.ref q5037, .ref q5038, .ref q5039, .ref q5040, .int p5041, .int p5042, .int p5043, .int p5044, .int p5045, .int p5046, .int p5047])), (q5037, .inl (I .int, 2048, .inl f5048)), (q5038, .inl (I .int, 100, .inl f5049)), (q5039, .inl (I .int, 100, .inl f5050)), (q5040, .inl (I .int, 512, .inl f5051))] (po_5052_Machine_steps I q5036 q5037 q5038 q5039 q5040 p5041 p5042 p5043 p5044 p5045 p5046 p5047 f5048 f5049 f5050 f5051) gN := by
  refine Ct_of hl0 (by decide) (Nat.le_of_ble_eq_true rfl) ?_
  have bp5043 := gB_any p5043
  have bp5045 := gB_any p5045
  have bp5047 := gB_any p5047
  refine G_aload_n 0 d_cX7_steps_0 rfl ?_
  refine G_getf 0 8 d_cX7_steps_1 rfl (gk_X7 D I) (Nat.le_of_ble_eq_true rfl) w_2_168 rfl ?_
  exact G_iret d_cX7_steps_4 rfl (Nat.le_of_ble_eq_true rfl) (Nat.le_of_ble_eq_true rfl) ⟨rfl, rfl⟩
