abbrev ky_3297_Loops_depth : gKey := (cX6_depth, 2, yX6_depth.cls, (some FieldType.int), [], yX6_depth.name, fun _ _ => True)
abbrev po_3297_Loops_depth (I : FieldType → ClassId) (q3289 : Nat) (q3290 : Nat) (q3291 : Nat) (q3292 : Nat) (p3293 : Int32) (f3294 : Nat → Int64) (f3295 : Nat → Int64) (f3296 : Nat → Int32) : Option Value → va_W → Prop := fun r w => (r = some (.int 0) ∧ w = [(q3289, .inr (11, [.ref q3290, .ref q3291, .ref q3292])), (q3290, .inl (I .long, 40, .inr (.inl f3294))), (q3291, .inl (I .long, 40, .inr (.inl f3295))), (q3292, .inl (I .int, 40, .inl f3296))] ∧ p3293.toInt < 0) ∨ (r = some (.int 0) ∧ w = [(q3289, .inr (11, [.ref q3290, .ref q3291, .ref q3292])), (q3290, .inl (I .long, 40, .inr (.inl f3294))), (q3291, .inl (I .long, 40, .inr (.inl f3295))), (q3292, .inl (I .int, 40, .inl f3296))] ∧ 0 ≤ p3293.toInt ∧ 40 ≤ p3293.toInt) ∨ (∃ (z3304 : Int32), r = some (.int z3304) ∧ w = [(q3289, .inr (11, [.ref q3290, .ref q3291, .ref q3292])), (q3290, .inl (I .long, 40, .inr (.inl f3294))), (q3291, .inl (I .long, 40, .inr (.inl f3295))), (q3292, .inl (I .int, 40, .inl f3296))] ∧ 0 ≤ p3293.toInt ∧ p3293.toInt < 40 ∧ gB z3304 (-2147483648) 2147483647)
set_option maxRecDepth 100000 in
set_option maxHeartbeats 4000000 in
theorem ct_3297_Loops_depth (l : Launch) (hl0 : l.stackTraces = false) (D : va_G) (I : FieldType → ClassId) (q3289 : Nat) (q3290 : Nat) (q3291 : Nat) (q3292 : Nat) (p3293 : Int32) (f3294 : Nat → Int64) (f3295 : Nat → Int64) (f3296 : Nat → Int32)  : Ct (gV D I) l yX6_depth cX6_depth 2 (some FieldType.int) 0 0 0 0 [.ref q3289, .int p3293] [(q3289, .inr (11, [.ref q3290, .ref q3291, .ref q3292])), (q3290, .inl (I .long, 40, .inr (.inl f3294))), (q3291, .inl (I .long, 40, .inr (.inl f3295))), (q3292, .inl (I .int, 40, .inl f3296))] (po_3297_Loops_depth I q3289 q3290 q3291 q3292 p3293 f3294 f3295 f3296) gN := by
  refine Ct_of hl0 (by decide) (Nat.le_of_ble_eq_true rfl) ?_
  have bp3293 := gB_any p3293
  refine G_iload_n 1 d_cX6_depth_0 rfl ?_
  refine G_if_lt 19 d_cX6_depth_1 (by decide +kernel) (fun hc3298 => ?_) (fun hc3298 => ?_)
  · have r3299 : p3293.toInt < 0 := gj_lt hc3298 (show Int32.toInt 0 = 0 by decide)
    have bp3293' : gB p3293 (-2147483648) (-1) := ⟨by omega, by omega⟩
    refine G_iconst 0 d_cX6_depth_19 (by decide +kernel) ?_
    exact G_iret d_cX6_depth_20 rfl (Nat.le_of_ble_eq_true rfl) (Nat.le_of_ble_eq_true rfl) (Or.inl ⟨rfl, rfl, r3299⟩)
  · have r3300 : 0 ≤ p3293.toInt := gj_nlt hc3298 (show Int32.toInt 0 = 0 by decide)
    have bp3293' : gB p3293 0 2147483647 := ⟨by omega, by omega⟩
    refine G_iload_n 1 d_cX6_depth_4 rfl ?_
    refine G_bipush 40 d_cX6_depth_5 (by decide +kernel) ?_
    refine G_icmp_ge 19 d_cX6_depth_7 (by decide +kernel) (fun hc3301 => ?_) (fun hc3301 => ?_)
    · have r3302 : 40 ≤ p3293.toInt := gj_leL hc3301 (show Int32.toInt 40 = 40 by decide)
      have bp3293'' : gB p3293 40 2147483647 := ⟨by omega, by omega⟩
      refine G_iconst 0 d_cX6_depth_19 (by decide +kernel) ?_
      exact G_iret d_cX6_depth_20 rfl (Nat.le_of_ble_eq_true rfl) (Nat.le_of_ble_eq_true rfl) (Or.inr (Or.inl ⟨rfl, rfl, r3300, r3302⟩))
    · have r3303 : p3293.toInt < 40 := gj_nleL hc3301 (show Int32.toInt 40 = 40 by decide)
      have bp3293'' : gB p3293 0 39 := ⟨by omega, by omega⟩
      refine G_aload_n 0 d_cX6_depth_10 rfl ?_
      refine G_getf 0 2 d_cX6_depth_11 rfl (gk_X6 D I) (Nat.le_of_ble_eq_true rfl) w_1_235 rfl ?_
      refine G_iload_n 1 d_cX6_depth_14 rfl ?_
      refine G_iald 3 0 d_cX6_depth_15 rfl rfl (gB_in bp3293'' (by decide) (by decide)) (G_nam fun z3304 hz3304 => ?_)
      have bz3304 : gB z3304 (-2147483648) 2147483647 := gB_any z3304
      refine G_goto 20 d_cX6_depth_16 (by decide +kernel) ?_
      exact G_iret d_cX6_depth_20 rfl (Nat.le_of_ble_eq_true rfl) (Nat.le_of_ble_eq_true rfl) (Or.inr (Or.inr (⟨z3304, rfl, rfl, r3300, r3303, bz3304⟩)))
abbrev ky_3313_Loops_factor : gKey := (cX6_factor, 4, yX6_factor.cls, (some FieldType.int), [], yX6_factor.name, fun _ _ => True)
abbrev po_3313_Loops_factor (I : FieldType → ClassId) (q3305 : Nat) (q3306 : Nat) (q3307 : Nat) (q3308 : Nat) (p3309 : Int32) (f3310 : Nat → Int64) (f3311 : Nat → Int64) (f3312 : Nat → Int32) : Option Value → va_W → Prop := fun r w => ∃ (o3408 : Int32), r = some (.int o3408) ∧ w = [(q3305, .inr (11, [.ref q3306, .ref q3307, .ref q3308])), (q3306, .inl (I .long, 40, .inr (.inl f3310))), (q3307, .inl (I .long, 40, .inr (.inl f3311))), (q3308, .inl (I .int, 40, .inl f3312))] ∧ gB o3408 (-2147483648) 2147483647
set_option maxRecDepth 100000 in
set_option maxHeartbeats 4000000 in
theorem ct_3313_Loops_factor (l : Launch) (hl0 : l.stackTraces = false) (D : va_G) (I : FieldType → ClassId) (q3305 : Nat) (q3306 : Nat) (q3307 : Nat) (q3308 : Nat) (p3309 : Int32) (f3310 : Nat → Int64) (f3311 : Nat → Int64) (f3312 : Nat → Int32)  : Ct (gV D I) l yX6_factor cX6_factor 4 (some FieldType.int) 1 21 0 0 [.ref q3305, .int p3309] [(q3305, .inr (11, [.ref q3306, .ref q3307, .ref q3308])), (q3306, .inl (I .long, 40, .inr (.inl f3310))), (q3307, .inl (I .long, 40, .inr (.inl f3311))), (q3308, .inl (I .int, 40, .inl f3312))] (po_3313_Loops_factor I q3305 q3306 q3307 q3308 p3309 f3310 f3311 f3312) gN := by
  refine Ct_of hl0 (by decide) (Nat.le_of_ble_eq_true rfl) ?_
  have bp3309 := gB_any p3309
  refine G_iconst 1 d_cX6_factor_0 (by decide +kernel) ?_
  refine G_istore_n (L' := [(2, .int 1), (0, .ref q3305), (1, .int p3309)]) d_cX6_factor_1 (Nat.le_of_ble_eq_true rfl) rfl ?_
  refine G_iconst 0 d_cX6_factor_2 (by decide +kernel) ?_
  refine G_istore_n (L' := [(3, .int 0), (2, .int 1), (0, .ref q3305), (1, .int p3309)]) d_cX6_factor_3 (Nat.le_of_ble_eq_true rfl) rfl ?_
  have hlp4_3395 : ∀ (n4_3395 : Nat) (g3394 : Int32) (g3395 : Int32), gB g3394 0 2147483647 → gB g3395 (-2147483648) 2147483647 → ((2147483648 : Int) - g3394.toInt).toNat < n4_3395 → G (gV D I) l (gRm 1 21 0 0) (gM (gV D I) (po_3313_Loops_factor I q3305 q3306 q3307 q3308 p3309 f3310 f3311 f3312) gN 0 0) ky_3313_Loops_factor 4 [(3, .int g3394), (2, .int g3395), (0, .ref q3305), (1, .int p3309)] [] [(q3305, .inr (11, [.ref q3306, .ref q3307, .ref q3308])), (q3306, .inl (I .long, 40, .inr (.inl f3310))), (q3307, .inl (I .long, 40, .inr (.inl f3311))), (q3308, .inl (I .int, 40, .inl f3312))] 0 0 := by
    intro n4_3395
    induction n4_3395 with
    | zero => intro g3394 g3395 bg3394 bg3395 hm4_3395; exact absurd hm4_3395 (Nat.not_lt_zero _)
    | succ n4_3395 ih4_3395 =>
      intro g3394 g3395 bg3394 bg3395 hm4_3395
      refine G_iload_n 0 d_cX6_factor_4 rfl ?_
      refine G_aload_n 2 d_cX6_factor_5 rfl ?_
      refine G_iload_n 3 d_cX6_factor_6 rfl ?_
      refine G_callV (As := [.int p3309]) (wr := []) (gV_ok D I) (ct_3297_Loops_depth l hl0 D I q3305 q3306 q3307 q3308 p3309 f3310 f3311 f3312 ) d_cX6_factor_7 ⟨w_4_151, w_1_7, w_4_154, by decide, rfl, (Nat.le_of_ble_eq_true rfl), (Nat.le_of_ble_eq_true rfl)⟩ w_4_152 w_4_153 0 rfl rfl [0, 1, 2, 3] [] rfl rfl rfl rfl (by decide) (Nat.le_of_ble_eq_true rfl) (Nat.le_of_ble_eq_true rfl) (Nat.le_of_ble_eq_true rfl) (fun r w hp => ?_) (fun _ _ _ z => z.elim)
      rcases hp with ⟨rfl, rfl, r3396⟩ | ⟨rfl, rfl, r3397, r3398⟩ | ⟨z3399, rfl, rfl, r3400, r3401, r3402⟩
      · have bp3309' : gB p3309 (-2147483648) (-1) := ⟨by omega, by omega⟩
        change G _ _ _ _ _ _ _ (.int 0 :: _) _ _ _
        refine G_ws (ws' := [(q3305, .inr (11, [.ref q3306, .ref q3307, .ref q3308])), (q3306, .inl (I .long, 40, .inr (.inl f3310))), (q3307, .inl (I .long, 40, .inr (.inl f3311))), (q3308, .inl (I .int, 40, .inl f3312))]) (cs' := 0) (sl' := 0) rfl rfl rfl ?_
        refine G_icmp_ge 24 d_cX6_factor_10 (by decide +kernel) (fun _ => ?_) (fun hc => absurd (show False by have := gj_nleL hc (show Int32.toInt 0 = 0 by decide); omega) not_false)
        refine G_iload_n 1 d_cX6_factor_24 rfl ?_
        exact G_iret d_cX6_factor_25 rfl (Nat.le_of_ble_eq_true rfl) (Nat.le_of_ble_eq_true rfl) ⟨g3395, rfl, rfl, bg3395⟩
      · have bp3309' : gB p3309 0 2147483647 := ⟨by omega, by omega⟩
        have bp3309'' : gB p3309 40 2147483647 := ⟨by omega, by omega⟩
        change G _ _ _ _ _ _ _ (.int 0 :: _) _ _ _
        refine G_ws (ws' := [(q3305, .inr (11, [.ref q3306, .ref q3307, .ref q3308])), (q3306, .inl (I .long, 40, .inr (.inl f3310))), (q3307, .inl (I .long, 40, .inr (.inl f3311))), (q3308, .inl (I .int, 40, .inl f3312))]) (cs' := 0) (sl' := 0) rfl rfl rfl ?_
        refine G_icmp_ge 24 d_cX6_factor_10 (by decide +kernel) (fun _ => ?_) (fun hc => absurd (show False by have := gj_nleL hc (show Int32.toInt 0 = 0 by decide); omega) not_false)
        refine G_iload_n 1 d_cX6_factor_24 rfl ?_
        exact G_iret d_cX6_factor_25 rfl (Nat.le_of_ble_eq_true rfl) (Nat.le_of_ble_eq_true rfl) ⟨g3395, rfl, rfl, bg3395⟩
      · have bp3309' : gB p3309 0 2147483647 := ⟨by omega, by omega⟩
        have bp3309'' : gB p3309 0 39 := ⟨by omega, by omega⟩
        change G _ _ _ _ _ _ _ (.int z3399 :: _) _ _ _
        refine G_ws (ws' := [(q3305, .inr (11, [.ref q3306, .ref q3307, .ref q3308])), (q3306, .inl (I .long, 40, .inr (.inl f3310))), (q3307, .inl (I .long, 40, .inr (.inl f3311))), (q3308, .inl (I .int, 40, .inl f3312))]) (cs' := 0) (sl' := 0) rfl rfl rfl ?_
        refine G_icmp_ge 24 d_cX6_factor_10 (by decide +kernel) (fun hc3403 => ?_) (fun hc3403 => ?_)
        · have r3404 : z3399.toInt ≤ g3394.toInt := gC_le hc3403
          refine G_iload_n 1 d_cX6_factor_24 rfl ?_
          exact G_iret d_cX6_factor_25 rfl (Nat.le_of_ble_eq_true rfl) (Nat.le_of_ble_eq_true rfl) ⟨g3395, rfl, rfl, bg3395⟩
        · have r3405 : g3394.toInt < z3399.toInt := gC_nle hc3403
          have bg3394' : gB g3394 0 2147483646 := ⟨by omega, by omega⟩
          have r3402' : gB z3399 1 2147483647 := ⟨by omega, by omega⟩
          refine G_iload_n 1 d_cX6_factor_13 rfl ?_
          refine G_bipush 10 d_cX6_factor_14 (by decide +kernel) ?_
          refine G_imul d_cX6_factor_16 (G_nam fun z3406 hz3406 => ?_)
          have bz3406 : gB z3406 (-2147483648) 2147483647 := gB_any z3406
          refine G_istore_n (L' := [(2, .int z3406), (3, .int g3394), (0, .ref q3305), (1, .int p3309)]) d_cX6_factor_17 (Nat.le_of_ble_eq_true rfl) rfl ?_
          obtain ⟨z3407, hz3407⟩ : ∃ z : Int32, z = g3394 + Int32.ofInt 1 := ⟨_, rfl⟩
          have ez3407 : z3407.toInt = g3394.toInt + 1 := gI_inc hz3407 (by decide) bg3394' (by decide) (by decide)
          have bz3407 : gB z3407 1 2147483647 := ⟨by omega, by omega⟩
          refine G_iinc (L' := [(3, .int z3407), (2, .int z3406), (0, .ref q3305), (1, .int p3309)]) z3407 1 d_cX6_factor_18 rfl hz3407.symm (Nat.le_of_ble_eq_true rfl) rfl ?_
          refine G_goto 4 d_cX6_factor_21 (by decide +kernel) ?_
          exact ih4_3395 z3407 z3406 (gB_w bz3407 (by decide) (by decide)) bz3406 (by omega)
  exact hlp4_3395 (((2147483648 : Int) - 0).toNat + 1) 0 1 (gB_w (gBl (show Int32.toInt 0 = 0 by decide)) (by decide) (by decide)) (gB_w (gBl (show Int32.toInt 1 = 1 by decide)) (by decide) (by decide)) (Nat.lt_succ_self _)
abbrev ky_3418_Loops_link : gKey := (cX6_link, 3, yX6_link.cls, none, [], yX6_link.name, fun _ _ => True)
abbrev po_3418_Loops_link (I : FieldType → ClassId) (q3409 : Nat) (q3410 : Nat) (q3411 : Nat) (q3412 : Nat) (p3413 : Int32) (p3414 : Int32) (f3415 : Nat → Int64) (f3416 : Nat → Int64) (f3417 : Nat → Int32) : Option Value → va_W → Prop := fun r w => ∃ (f3433 : Nat → Int64) (f3434 : Nat → Int64), r = none ∧ w = [(q3409, .inr (11, [.ref q3410, .ref q3411, .ref q3412])), (q3410, .inl (I .long, 40, .inr (.inl f3433))), (q3411, .inl (I .long, 40, .inr (.inl f3434))), (q3412, .inl (I .int, 40, .inl f3417))]
set_option maxRecDepth 100000 in
set_option maxHeartbeats 4000000 in
theorem ct_3418_Loops_link (l : Launch) (hl0 : l.stackTraces = false) (D : va_G) (I : FieldType → ClassId) (q3409 : Nat) (q3410 : Nat) (q3411 : Nat) (q3412 : Nat) (p3413 : Int32) (p3414 : Int32) (f3415 : Nat → Int64) (f3416 : Nat → Int64) (f3417 : Nat → Int32) (bp3413 : gB p3413 0 39) : Ct (gV D I) l yX6_link cX6_link 3 none 0 0 0 0 [.ref q3409, .int p3413, .int p3414] [(q3409, .inr (11, [.ref q3410, .ref q3411, .ref q3412])), (q3410, .inl (I .long, 40, .inr (.inl f3415))), (q3411, .inl (I .long, 40, .inr (.inl f3416))), (q3412, .inl (I .int, 40, .inl f3417))] (po_3418_Loops_link I q3409 q3410 q3411 q3412 p3413 p3414 f3415 f3416 f3417) gN := by
  refine Ct_of hl0 (by decide) (Nat.le_of_ble_eq_true rfl) ?_
  have bp3414 := gB_any p3414
  refine G_iload_n 2 d_cX6_link_0 rfl ?_
  refine G_if_lt 34 d_cX6_link_1 (by decide +kernel) (fun hc3419 => ?_) (fun hc3419 => ?_)
  · have r3420 : p3414.toInt < 0 := gj_lt hc3419 (show Int32.toInt 0 = 0 by decide)
    have bp3414' : gB p3414 (-2147483648) (-1) := ⟨by omega, by omega⟩
    exact G_vret d_cX6_link_34 rfl (Nat.le_of_ble_eq_true rfl) (Nat.le_of_ble_eq_true rfl) ⟨f3415, f3416, rfl, rfl⟩
  · have r3421 : 0 ≤ p3414.toInt := gj_nlt hc3419 (show Int32.toInt 0 = 0 by decide)
    have bp3414' : gB p3414 0 2147483647 := ⟨by omega, by omega⟩
    refine G_iload_n 2 d_cX6_link_4 rfl ?_
    refine G_bipush 40 d_cX6_link_5 (by decide +kernel) ?_
    refine G_icmp_ge 34 d_cX6_link_7 (by decide +kernel) (fun hc3422 => ?_) (fun hc3422 => ?_)
    · have r3423 : 40 ≤ p3414.toInt := gj_leL hc3422 (show Int32.toInt 40 = 40 by decide)
      have bp3414'' : gB p3414 40 2147483647 := ⟨by omega, by omega⟩
      exact G_vret d_cX6_link_34 rfl (Nat.le_of_ble_eq_true rfl) (Nat.le_of_ble_eq_true rfl) ⟨f3415, f3416, rfl, rfl⟩
    · have r3424 : p3414.toInt < 40 := gj_nleL hc3422 (show Int32.toInt 40 = 40 by decide)
      have bp3414'' : gB p3414 0 39 := ⟨by omega, by omega⟩
      refine G_aload_n 0 d_cX6_link_10 rfl ?_
      refine G_getf 0 0 d_cX6_link_11 rfl (gk_X6 D I) (Nat.le_of_ble_eq_true rfl) w_1_233 rfl ?_
      refine G_iload_n 1 d_cX6_link_14 rfl ?_
      refine G_dup2_11 d_cX6_link_15 rfl rfl ?_
      refine G_lald 1 2 d_cX6_link_16 rfl rfl (gB_in bp3413 (by decide) (by decide)) (G_namL fun u3425 hu3425 => ?_)
      refine G_lconst 1 d_cX6_link_17 rfl ?_
      refine G_iload_n 2 d_cX6_link_18 rfl ?_
      refine G_lshl d_cX6_link_19 (G_namL fun u3426 hu3426 => ?_)
      refine G_lor d_cX6_link_20 (G_namL fun u3427 hu3427 => ?_)
      refine G_lastN 1 2 d_cX6_link_21 rfl rfl (gB_in bp3413 (by decide) (by decide)) (fun f3428 hf3428 => ?_)
      refine G_ws (ws' := [(q3409, .inr (11, [.ref q3410, .ref q3411, .ref q3412])), (q3410, .inl (I .long, 40, .inr (.inl f3428))), (q3411, .inl (I .long, 40, .inr (.inl f3416))), (q3412, .inl (I .int, 40, .inl f3417))]) (cs' := 0) (sl' := 0) rfl rfl rfl ?_
      refine G_aload_n 0 d_cX6_link_22 rfl ?_
      refine G_getf 0 1 d_cX6_link_23 rfl (gk_X6 D I) (Nat.le_of_ble_eq_true rfl) w_1_234 rfl ?_
      refine G_iload_n 2 d_cX6_link_26 rfl ?_
      refine G_dup2_11 d_cX6_link_27 rfl rfl ?_
      refine G_lald 2 2 d_cX6_link_28 rfl rfl (gB_in bp3414'' (by decide) (by decide)) (G_namL fun u3429 hu3429 => ?_)
      refine G_lconst 1 d_cX6_link_29 rfl ?_
      refine G_iload_n 1 d_cX6_link_30 rfl ?_
      refine G_lshl d_cX6_link_31 (G_namL fun u3430 hu3430 => ?_)
      refine G_lor d_cX6_link_32 (G_namL fun u3431 hu3431 => ?_)
      refine G_lastN 2 2 d_cX6_link_33 rfl rfl (gB_in bp3414'' (by decide) (by decide)) (fun f3432 hf3432 => ?_)
      refine G_ws (ws' := [(q3409, .inr (11, [.ref q3410, .ref q3411, .ref q3412])), (q3410, .inl (I .long, 40, .inr (.inl f3428))), (q3411, .inl (I .long, 40, .inr (.inl f3432))), (q3412, .inl (I .int, 40, .inl f3417))]) (cs' := 0) (sl' := 0) rfl rfl rfl ?_
      exact G_vret d_cX6_link_34 rfl (Nat.le_of_ble_eq_true rfl) (Nat.le_of_ble_eq_true rfl) ⟨f3428, f3432, rfl, rfl⟩
abbrev ky_3439_Loops_walk : gKey := (cX6_walk, 11, yX6_walk.cls, (some FieldType.long), [], yX6_walk.name, fun _ _ => True)
abbrev po_3439_Loops_walk (I : FieldType → ClassId) (q3435 : Nat) (pl3436 : Int64) (pl3437 : Int64) (f3438 : Nat → Int64) : Option Value → va_W → Prop := fun r w => ∃ (ol4286 : Int64), r = some (.long ol4286) ∧ w = [(q3435, .inl (I .long, 40, .inr (.inl f3438)))]
set_option maxRecDepth 100000 in
set_option maxHeartbeats 4000000 in
theorem ct_3439_Loops_walk (l : Launch) (hl0 : l.stackTraces = false) (D : va_G) (I : FieldType → ClassId) (q3435 : Nat) (pl3436 : Int64) (pl3437 : Int64) (f3438 : Nat → Int64)  : Ct (gV D I) l yX6_walk cX6_walk 11 (some FieldType.long) 0 0 0 0 [.ref q3435, .long pl3436, .long pl3437] [(q3435, .inl (I .long, 40, .inr (.inl f3438)))] (po_3439_Loops_walk I q3435 pl3436 pl3437 f3438) gN := by
  refine Ct_of hl0 (by decide) (Nat.le_of_ble_eq_true rfl) ?_
  refine G_lload_n 1 d_cX6_walk_0 rfl ?_
  refine G_lload_n 2 d_cX6_walk_1 rfl ?_
  refine G_ldc2 (-1) d_cX6_walk_2 w_4_7 ?_
  refine G_lxor d_cX6_walk_5 (G_namL fun u3440 hu3440 => ?_)
  refine G_land d_cX6_walk_6 (G_namL fun u3441 hu3441 => ?_)
  refine G_lstore (L' := [(5, .long u3441), (0, .ref q3435), (1, .long pl3436), (3, .long pl3437)]) d_cX6_walk_7 (Nat.le_of_ble_eq_true rfl) rfl ?_
  refine G_iconst 0 d_cX6_walk_9 (by decide +kernel) ?_
  refine G_istore (L' := [(7, .int 0), (5, .long u3441), (0, .ref q3435), (1, .long pl3436), (3, .long pl3437)]) d_cX6_walk_10 (Nat.le_of_ble_eq_true rfl) rfl ?_
  have hlp12_4164 : ∀ (n12_4164 : Nat) (g4163 : Int32) (gl4164 : Int64), gB g4163 0 40 → ((41 : Int) - g4163.toInt).toNat < n12_4164 → G (gV D I) l (gRm 0 0 0 0) (gM (gV D I) (po_3439_Loops_walk I q3435 pl3436 pl3437 f3438) gN 0 0) ky_3439_Loops_walk 12 [(7, .int g4163), (5, .long gl4164), (0, .ref q3435), (1, .long pl3436), (3, .long pl3437)] [] [(q3435, .inl (I .long, 40, .inr (.inl f3438)))] 0 0 := by
    intro n12_4164
    induction n12_4164 with
    | zero => intro g4163 gl4164 bg4163 hm12_4164; exact absurd hm12_4164 (Nat.not_lt_zero _)
    | succ n12_4164 ih12_4164 =>
      intro g4163 gl4164 bg4163 hm12_4164
      refine G_iload 0 d_cX6_walk_12 rfl ?_
      refine G_aload_n 2 d_cX6_walk_14 rfl ?_
      refine G_alen 40 0 2 d_cX6_walk_15 rfl rfl rfl ?_
      refine G_icmp_ge 87 d_cX6_walk_16 (by decide +kernel) (fun hc4165 => ?_) (fun hc4165 => ?_)
      · have r4166 : 40 ≤ g4163.toInt := gj_leL hc4165 (show Int32.toInt 40 = 40 by decide)
        have bg4163' : gB g4163 40 40 := ⟨by omega, by omega⟩
        refine G_lload 1 d_cX6_walk_87 rfl ?_
        exact G_lret d_cX6_walk_89 rfl (Nat.le_of_ble_eq_true rfl) (Nat.le_of_ble_eq_true rfl) ⟨gl4164, rfl, rfl⟩
      · have r4167 : g4163.toInt < 40 := gj_nleL hc4165 (show Int32.toInt 40 = 40 by decide)
        have bg4163' : gB g4163 0 39 := ⟨by omega, by omega⟩
        refine G_lload 1 d_cX6_walk_19 rfl ?_
        refine G_lstore (L' := [(8, .long gl4164), (7, .int g4163), (5, .long gl4164), (0, .ref q3435), (1, .long pl3436), (3, .long pl3437)]) d_cX6_walk_21 (Nat.le_of_ble_eq_true rfl) rfl ?_
        refine G_iconst 0 d_cX6_walk_23 (by decide +kernel) ?_
        refine G_istore (L' := [(10, .int 0), (8, .long gl4164), (7, .int g4163), (5, .long gl4164), (0, .ref q3435), (1, .long pl3436), (3, .long pl3437)]) d_cX6_walk_24 (Nat.le_of_ble_eq_true rfl) rfl ?_
        have hlp26_4265 : ∀ (n26_4265 : Nat) (g4264 : Int32) (gl4265 : Int64), gB g4264 0 40 → ((41 : Int) - g4264.toInt).toNat < n26_4265 → G (gV D I) l (gRm 0 0 0 0) (gM (gV D I) (po_3439_Loops_walk I q3435 pl3436 pl3437 f3438) gN 0 0) ky_3439_Loops_walk 26 [(10, .int g4264), (8, .long gl4265), (7, .int g4163), (5, .long gl4164), (0, .ref q3435), (1, .long pl3436), (3, .long pl3437)] [] [(q3435, .inl (I .long, 40, .inr (.inl f3438)))] 0 0 := by
          intro n26_4265
          induction n26_4265 with
          | zero => intro g4264 gl4265 bg4264 hm26_4265; exact absurd hm26_4265 (Nat.not_lt_zero _)
          | succ n26_4265 ih26_4265 =>
            intro g4264 gl4265 bg4264 hm26_4265
            refine G_iload 0 d_cX6_walk_26 rfl ?_
            refine G_aload_n 4 d_cX6_walk_28 rfl ?_
            refine G_alen 40 0 2 d_cX6_walk_29 rfl rfl rfl ?_
            refine G_icmp_ge 66 d_cX6_walk_30 (by decide +kernel) (fun hc4266 => ?_) (fun hc4266 => ?_)
            · have r4267 : 40 ≤ g4264.toInt := gj_leL hc4266 (show Int32.toInt 40 = 40 by decide)
              have bg4264' : gB g4264 40 40 := ⟨by omega, by omega⟩
              refine G_lload 1 d_cX6_walk_66 rfl ?_
              refine G_lload 3 d_cX6_walk_68 rfl ?_
              refine G_lcmp d_cX6_walk_70 (G_nam fun z4268 hz4268 => ?_)
              have bz4268 : gB z4268 (-1) 1 := gB_cmp hz4268
              refine G_if_ne 77 d_cX6_walk_71 (by decide +kernel) (fun hc4269 => ?_) (fun hc4269 => ?_)
              · have r4270 : z4268.toInt ≠ 0 := gj_neq hc4269 (show Int32.toInt 0 = 0 by decide)
                have lhc4269 := gC_cmpN hz4268 hc4269
                refine G_lload 1 d_cX6_walk_77 rfl ?_
                refine G_lstore (L' := [(5, .long gl4265), (10, .int g4264), (8, .long gl4265), (7, .int g4163), (0, .ref q3435), (1, .long pl3436), (3, .long pl3437)]) d_cX6_walk_79 (Nat.le_of_ble_eq_true rfl) rfl ?_
                obtain ⟨z4271, hz4271⟩ : ∃ z : Int32, z = g4163 + Int32.ofInt 1 := ⟨_, rfl⟩
                have ez4271 : z4271.toInt = g4163.toInt + 1 := gI_inc hz4271 (by decide) bg4163' (by decide) (by decide)
                have bz4271 : gB z4271 1 40 := ⟨by omega, by omega⟩
                refine G_iinc (L' := [(7, .int z4271), (5, .long gl4265), (10, .int g4264), (8, .long gl4265), (0, .ref q3435), (1, .long pl3436), (3, .long pl3437)]) z4271 3 d_cX6_walk_81 rfl hz4271.symm (Nat.le_of_ble_eq_true rfl) rfl ?_
                refine G_goto 12 d_cX6_walk_84 (by decide +kernel) ?_
                refine G_lv (L' := [(7, .int z4271), (5, .long gl4265), (0, .ref q3435), (1, .long pl3436), (3, .long pl3437)]) [0, 1, 4, 5, 6] rfl ?_
                exact ih12_4164 z4271 gl4265 (gB_w bz4271 (by decide) (by decide)) (by omega)
              · have r4272 : z4268.toInt = 0 := gj_eq hc4269 (show Int32.toInt 0 = 0 by decide)
                have bz4268' : gB z4268 0 0 := ⟨by omega, by omega⟩
                have lhc4269 := gC_cmpE hz4268 hc4269
                refine G_lload 3 d_cX6_walk_74 rfl ?_
                exact G_lret d_cX6_walk_76 rfl (Nat.le_of_ble_eq_true rfl) (Nat.le_of_ble_eq_true rfl) ⟨gl4164, rfl, rfl⟩
            · have r4273 : g4264.toInt < 40 := gj_nleL hc4266 (show Int32.toInt 40 = 40 by decide)
              have bg4264' : gB g4264 0 39 := ⟨by omega, by omega⟩
              refine G_lload 3 d_cX6_walk_33 rfl ?_
              refine G_iload 0 d_cX6_walk_35 rfl ?_
              refine G_lshr d_cX6_walk_37 (G_namL fun u4274 hu4274 => ?_)
              refine G_lconst 1 d_cX6_walk_38 rfl ?_
              refine G_land d_cX6_walk_39 (G_namL fun u4275 hu4275 => ?_)
              refine G_lconst 0 d_cX6_walk_40 rfl ?_
              refine G_lcmp d_cX6_walk_41 (G_nam fun z4276 hz4276 => ?_)
              have bz4276 : gB z4276 (-1) 1 := gB_cmp hz4276
              refine G_if_eq 60 d_cX6_walk_42 (by decide +kernel) (fun hc4277 => ?_) (fun hc4277 => ?_)
              · have r4278 : z4276.toInt = 0 := gj_eq hc4277 (show Int32.toInt 0 = 0 by decide)
                have bz4276' : gB z4276 0 0 := ⟨by omega, by omega⟩
                have lhc4277 := gC_cmpE hz4276 hc4277
                obtain ⟨z4279, hz4279⟩ : ∃ z : Int32, z = g4264 + Int32.ofInt 1 := ⟨_, rfl⟩
                have ez4279 : z4279.toInt = g4264.toInt + 1 := gI_inc hz4279 (by decide) bg4264' (by decide) (by decide)
                have bz4279 : gB z4279 1 40 := ⟨by omega, by omega⟩
                refine G_iinc (L' := [(10, .int z4279), (8, .long gl4265), (7, .int g4163), (5, .long gl4164), (0, .ref q3435), (1, .long pl3436), (3, .long pl3437)]) z4279 0 d_cX6_walk_60 rfl hz4279.symm (Nat.le_of_ble_eq_true rfl) rfl ?_
                refine G_goto 26 d_cX6_walk_63 (by decide +kernel) ?_
                exact ih26_4265 z4279 gl4265 (gB_w bz4279 (by decide) (by decide)) (by omega)
              · have r4280 : z4276.toInt ≠ 0 := gj_neq hc4277 (show Int32.toInt 0 = 0 by decide)
                have lhc4277 := gC_cmpN hz4276 hc4277
                refine G_lload 1 d_cX6_walk_45 rfl ?_
                refine G_aload_n 4 d_cX6_walk_47 rfl ?_
                refine G_iload 0 d_cX6_walk_48 rfl ?_
                refine G_lald 0 2 d_cX6_walk_50 rfl rfl (gB_in bg4264' (by decide) (by decide)) (G_namL fun u4281 hu4281 => ?_)
                refine G_lload_n 6 d_cX6_walk_51 rfl ?_
                refine G_ldc2 (-1) d_cX6_walk_52 w_4_7 ?_
                refine G_lxor d_cX6_walk_55 (G_namL fun u4282 hu4282 => ?_)
                refine G_land d_cX6_walk_56 (G_namL fun u4283 hu4283 => ?_)
                refine G_lor d_cX6_walk_57 (G_namL fun u4284 hu4284 => ?_)
                refine G_lstore (L' := [(8, .long u4284), (10, .int g4264), (7, .int g4163), (5, .long gl4164), (0, .ref q3435), (1, .long pl3436), (3, .long pl3437)]) d_cX6_walk_58 (Nat.le_of_ble_eq_true rfl) rfl ?_
                obtain ⟨z4285, hz4285⟩ : ∃ z : Int32, z = g4264 + Int32.ofInt 1 := ⟨_, rfl⟩
                have ez4285 : z4285.toInt = g4264.toInt + 1 := gI_inc hz4285 (by decide) bg4264' (by decide) (by decide)
                have bz4285 : gB z4285 1 40 := ⟨by omega, by omega⟩
                refine G_iinc (L' := [(10, .int z4285), (8, .long u4284), (7, .int g4163), (5, .long gl4164), (0, .ref q3435), (1, .long pl3436), (3, .long pl3437)]) z4285 1 d_cX6_walk_60 rfl hz4285.symm (Nat.le_of_ble_eq_true rfl) rfl ?_
                refine G_goto 26 d_cX6_walk_63 (by decide +kernel) ?_
                exact ih26_4265 z4285 u4284 (gB_w bz4285 (by decide) (by decide)) (by omega)
        exact hlp26_4265 (((41 : Int) - 0).toNat + 1) 0 gl4164 (gB_w (gBl (show Int32.toInt 0 = 0 by decide)) (by decide) (by decide)) (Nat.lt_succ_self _)
  exact hlp12_4164 (((41 : Int) - 0).toNat + 1) 0 u3441 (gB_w (gBl (show Int32.toInt 0 = 0 by decide)) (by decide) (by decide)) (Nat.lt_succ_self _)
abbrev ky_4296_Loops_loopOf : gKey := (cX6_loopOf, 10, yX6_loopOf.cls, (some FieldType.long), [], yX6_loopOf.name, fun _ _ => True)
abbrev po_4296_Loops_loopOf (I : FieldType → ClassId) (q4287 : Nat) (q4288 : Nat) (q4289 : Nat) (q4290 : Nat) (p4291 : Int32) (pl4292 : Int64) (f4293 : Nat → Int64) (f4294 : Nat → Int64) (f4295 : Nat → Int32) : Option Value → va_W → Prop := fun r w => ∃ (ol4311 : Int64), r = some (.long ol4311) ∧ w = [(q4287, .inr (11, [.ref q4288, .ref q4289, .ref q4290])), (q4288, .inl (I .long, 40, .inr (.inl f4293))), (q4289, .inl (I .long, 40, .inr (.inl f4294))), (q4290, .inl (I .int, 40, .inl f4295))]
set_option maxRecDepth 100000 in
set_option maxHeartbeats 4000000 in
theorem ct_4296_Loops_loopOf (l : Launch) (hl0 : l.stackTraces = false) (D : va_G) (I : FieldType → ClassId) (q4287 : Nat) (q4288 : Nat) (q4289 : Nat) (q4290 : Nat) (p4291 : Int32) (pl4292 : Int64) (f4293 : Nat → Int64) (f4294 : Nat → Int64) (f4295 : Nat → Int32) (bp4291 : gB p4291 0 39) : Ct (gV D I) l yX6_loopOf cX6_loopOf 10 (some FieldType.long) 1 30 0 0 [.ref q4287, .int p4291, .long pl4292] [(q4287, .inr (11, [.ref q4288, .ref q4289, .ref q4290])), (q4288, .inl (I .long, 40, .inr (.inl f4293))), (q4289, .inl (I .long, 40, .inr (.inl f4294))), (q4290, .inl (I .int, 40, .inl f4295))] (po_4296_Loops_loopOf I q4287 q4288 q4289 q4290 p4291 pl4292 f4293 f4294 f4295) gN := by
  refine Ct_of hl0 (by decide) (Nat.le_of_ble_eq_true rfl) ?_
  refine G_lconst 1 d_cX6_loopOf_0 rfl ?_
  refine G_iload_n 1 d_cX6_loopOf_1 rfl ?_
  refine G_lshl d_cX6_loopOf_2 (G_namL fun u4297 hu4297 => ?_)
  refine G_lstore (L' := [(4, .long u4297), (0, .ref q4287), (1, .int p4291), (2, .long pl4292)]) d_cX6_loopOf_3 (Nat.le_of_ble_eq_true rfl) rfl ?_
  refine G_aload_n 1 d_cX6_loopOf_5 rfl ?_
  refine G_getf 0 0 d_cX6_loopOf_6 rfl (gk_X6 D I) (Nat.le_of_ble_eq_true rfl) w_1_233 rfl ?_
  refine G_lconst 1 d_cX6_loopOf_9 rfl ?_
  refine G_lload 0 d_cX6_loopOf_10 rfl ?_
  refine G_callS (As := [.ref q4288, .long 1, .long u4297]) (wr := [(q4287, .inr (11, [.ref q4288, .ref q4289, .ref q4290])), (q4289, .inl (I .long, 40, .inr (.inl f4294))), (q4290, .inl (I .int, 40, .inl f4295))]) (gV_ok D I) (ct_3439_Loops_walk l hl0 D I q4288 1 u4297 f4293 ) d_cX6_loopOf_12 ⟨w_4_4, w_1_7, w_4_6, by decide, rfl, (Nat.le_of_ble_eq_true rfl), (Nat.le_of_ble_eq_true rfl)⟩ w_4_5 [1] [0, 2, 3] rfl rfl rfl rfl (by decide) (Nat.le_of_ble_eq_true rfl) (Nat.le_of_ble_eq_true rfl) (Nat.le_of_ble_eq_true rfl) (fun r w hp => ?_) (fun _ _ _ z => z.elim)
  obtain ⟨ol4298, rfl, rfl⟩ := hp
  change G _ _ _ _ _ _ _ (.long ol4298 :: _) _ _ _
  refine G_ws (ws' := [(q4287, .inr (11, [.ref q4288, .ref q4289, .ref q4290])), (q4289, .inl (I .long, 40, .inr (.inl f4294))), (q4290, .inl (I .int, 40, .inl f4295)), (q4288, .inl (I .long, 40, .inr (.inl f4293)))]) (cs' := 0) (sl' := 0) rfl rfl rfl ?_
  refine G_lstore (L' := [(6, .long ol4298), (4, .long u4297), (0, .ref q4287), (1, .int p4291), (2, .long pl4292)]) d_cX6_loopOf_15 (Nat.le_of_ble_eq_true rfl) rfl ?_
  refine G_aload_n 2 d_cX6_loopOf_17 rfl ?_
  refine G_getf 0 1 d_cX6_loopOf_18 rfl (gk_X6 D I) (Nat.le_of_ble_eq_true rfl) w_1_234 rfl ?_
  refine G_iload_n 3 d_cX6_loopOf_21 rfl ?_
  refine G_lald 1 2 d_cX6_loopOf_22 rfl rfl (gB_in bp4291 (by decide) (by decide)) (G_namL fun u4299 hu4299 => ?_)
  refine G_lload_n 4 d_cX6_loopOf_23 rfl ?_
  refine G_land d_cX6_loopOf_24 (G_namL fun u4300 hu4300 => ?_)
  refine G_lload 0 d_cX6_loopOf_25 rfl ?_
  refine G_ldc2 (-1) d_cX6_loopOf_27 w_4_7 ?_
  refine G_lxor d_cX6_loopOf_30 (G_namL fun u4301 hu4301 => ?_)
  refine G_land d_cX6_loopOf_31 (G_namL fun u4302 hu4302 => ?_)
  refine G_lstore (L' := [(8, .long u4302), (6, .long ol4298), (4, .long u4297), (0, .ref q4287), (1, .int p4291), (2, .long pl4292)]) d_cX6_loopOf_32 (Nat.le_of_ble_eq_true rfl) rfl ?_
  refine G_lload 0 d_cX6_loopOf_34 rfl ?_
  refine G_lconst 0 d_cX6_loopOf_36 rfl ?_
  refine G_lcmp d_cX6_loopOf_37 (G_nam fun z4303 hz4303 => ?_)
  have bz4303 : gB z4303 (-1) 1 := gB_cmp hz4303
  refine G_if_ne 45 d_cX6_loopOf_38 (by decide +kernel) (fun hc4304 => ?_) (fun hc4304 => ?_)
  · have r4305 : z4303.toInt ≠ 0 := gj_neq hc4304 (show Int32.toInt 0 = 0 by decide)
    have lhc4304 := gC_cmpN hz4303 hc4304
    refine G_lload 2 d_cX6_loopOf_45 rfl ?_
    refine G_aload_n 3 d_cX6_loopOf_47 rfl ?_
    refine G_getf 0 1 d_cX6_loopOf_48 rfl (gk_X6 D I) (Nat.le_of_ble_eq_true rfl) w_1_234 rfl ?_
    refine G_lload 0 d_cX6_loopOf_51 rfl ?_
    refine G_lload 2 d_cX6_loopOf_53 rfl ?_
    refine G_lload_n 5 d_cX6_loopOf_55 rfl ?_
    refine G_ldc2 (-1) d_cX6_loopOf_56 w_4_7 ?_
    refine G_lxor d_cX6_loopOf_59 (G_namL fun u4306 hu4306 => ?_)
    refine G_lor d_cX6_loopOf_60 (G_namL fun u4307 hu4307 => ?_)
    refine G_callS (As := [.ref q4289, .long u4302, .long u4307]) (wr := [(q4287, .inr (11, [.ref q4288, .ref q4289, .ref q4290])), (q4290, .inl (I .int, 40, .inl f4295)), (q4288, .inl (I .long, 40, .inr (.inl f4293)))]) (gV_ok D I) (ct_3439_Loops_walk l hl0 D I q4289 u4302 u4307 f4294 ) d_cX6_loopOf_61 ⟨w_4_4, w_1_7, w_4_6, by decide, rfl, (Nat.le_of_ble_eq_true rfl), (Nat.le_of_ble_eq_true rfl)⟩ w_4_5 [1] [0, 2, 3] rfl rfl rfl rfl (by decide) (Nat.le_of_ble_eq_true rfl) (Nat.le_of_ble_eq_true rfl) (Nat.le_of_ble_eq_true rfl) (fun r w hp => ?_) (fun _ _ _ z => z.elim)
    obtain ⟨ol4308, rfl, rfl⟩ := hp
    change G _ _ _ _ _ _ _ (.long ol4308 :: _) _ _ _
    refine G_ws (ws' := [(q4287, .inr (11, [.ref q4288, .ref q4289, .ref q4290])), (q4290, .inl (I .int, 40, .inl f4295)), (q4288, .inl (I .long, 40, .inr (.inl f4293))), (q4289, .inl (I .long, 40, .inr (.inl f4294)))]) (cs' := 0) (sl' := 0) rfl rfl rfl ?_
    refine G_lor d_cX6_loopOf_64 (G_namL fun u4309 hu4309 => ?_)
    refine G_sub (ws' := [(q4287, .inr (11, [.ref q4288, .ref q4289, .ref q4290])), (q4288, .inl (I .long, 40, .inr (.inl f4293))), (q4289, .inl (I .long, 40, .inr (.inl f4294))), (q4290, .inl (I .int, 40, .inl f4295))]) [0, 2, 3, 1] rfl rfl ?_
    exact G_lret d_cX6_loopOf_65 rfl (Nat.le_of_ble_eq_true rfl) (Nat.le_of_ble_eq_true rfl) ⟨u4309, rfl, rfl⟩
  · have r4310 : z4303.toInt = 0 := gj_eq hc4304 (show Int32.toInt 0 = 0 by decide)
    have bz4303' : gB z4303 0 0 := ⟨by omega, by omega⟩
    have lhc4304 := gC_cmpE hz4303 hc4304
    refine G_lconst 0 d_cX6_loopOf_41 rfl ?_
    refine G_goto 65 d_cX6_loopOf_42 (by decide +kernel) ?_
    refine G_sub (ws' := [(q4287, .inr (11, [.ref q4288, .ref q4289, .ref q4290])), (q4288, .inl (I .long, 40, .inr (.inl f4293))), (q4289, .inl (I .long, 40, .inr (.inl f4294))), (q4290, .inl (I .int, 40, .inl f4295))]) [0, 3, 1, 2] rfl rfl ?_
    exact G_lret d_cX6_loopOf_65 rfl (Nat.le_of_ble_eq_true rfl) (Nat.le_of_ble_eq_true rfl) ⟨0, rfl, rfl⟩
abbrev ky_4320_Loops_deepen : gKey := (cX6_deepen, 4, yX6_deepen.cls, none, [], yX6_deepen.name, fun _ _ => True)
abbrev po_4320_Loops_deepen (I : FieldType → ClassId) (q4312 : Nat) (q4313 : Nat) (q4314 : Nat) (q4315 : Nat) (pl4316 : Int64) (f4317 : Nat → Int64) (f4318 : Nat → Int64) (f4319 : Nat → Int32) : Option Value → va_W → Prop := fun r w => ∃ (f4444 : Nat → Int32), r = none ∧ w = [(q4312, .inr (11, [.ref q4313, .ref q4314, .ref q4315])), (q4313, .inl (I .long, 40, .inr (.inl f4317))), (q4314, .inl (I .long, 40, .inr (.inl f4318))), (q4315, .inl (I .int, 40, .inl f4444))] ∧ gF f4444 (-2147483648) 2147483647
set_option maxRecDepth 100000 in
set_option maxHeartbeats 4000000 in
theorem ct_4320_Loops_deepen (l : Launch) (hl0 : l.stackTraces = false) (D : va_G) (I : FieldType → ClassId) (q4312 : Nat) (q4313 : Nat) (q4314 : Nat) (q4315 : Nat) (pl4316 : Int64) (f4317 : Nat → Int64) (f4318 : Nat → Int64) (f4319 : Nat → Int32)  : Ct (gV D I) l yX6_deepen cX6_deepen 4 none 0 0 0 0 [.ref q4312, .long pl4316] [(q4312, .inr (11, [.ref q4313, .ref q4314, .ref q4315])), (q4313, .inl (I .long, 40, .inr (.inl f4317))), (q4314, .inl (I .long, 40, .inr (.inl f4318))), (q4315, .inl (I .int, 40, .inl f4319))] (po_4320_Loops_deepen I q4312 q4313 q4314 q4315 pl4316 f4317 f4318 f4319) gN := by
  refine Ct_of hl0 (by decide) (Nat.le_of_ble_eq_true rfl) ?_
  refine G_iconst 0 d_cX6_deepen_0 (by decide +kernel) ?_
  refine G_istore_n (L' := [(3, .int 0), (0, .ref q4312), (1, .long pl4316)]) d_cX6_deepen_1 (Nat.le_of_ble_eq_true rfl) rfl ?_
  have hlp2_4425 : ∀ (n2_4425 : Nat) (g4424 : Int32) (f4425 : Nat → Int32), gB g4424 0 40 → gF f4425 (-2147483648) 2147483647 → ((41 : Int) - g4424.toInt).toNat < n2_4425 → G (gV D I) l (gRm 0 0 0 0) (gM (gV D I) (po_4320_Loops_deepen I q4312 q4313 q4314 q4315 pl4316 f4317 f4318 f4319) gN 0 0) ky_4320_Loops_deepen 2 [(3, .int g4424), (0, .ref q4312), (1, .long pl4316)] [] [(q4312, .inr (11, [.ref q4313, .ref q4314, .ref q4315])), (q4313, .inl (I .long, 40, .inr (.inl f4317))), (q4314, .inl (I .long, 40, .inr (.inl f4318))), (q4315, .inl (I .int, 40, .inl f4425))] 0 0 := by
    intro n2_4425
    induction n2_4425 with
    | zero => intro g4424 f4425 bg4424 bf4425 hm2_4425; exact absurd hm2_4425 (Nat.not_lt_zero _)
    | succ n2_4425 ih2_4425 =>
      intro g4424 f4425 bg4424 bf4425 hm2_4425
      refine G_iload_n 0 d_cX6_deepen_2 rfl ?_
      refine G_bipush 40 d_cX6_deepen_3 (by decide +kernel) ?_
      refine G_icmp_ge 44 d_cX6_deepen_5 (by decide +kernel) (fun hc4426 => ?_) (fun hc4426 => ?_)
      · have r4427 : 40 ≤ g4424.toInt := gj_leL hc4426 (show Int32.toInt 40 = 40 by decide)
        have bg4424' : gB g4424 40 40 := ⟨by omega, by omega⟩
        exact G_vret d_cX6_deepen_44 rfl (Nat.le_of_ble_eq_true rfl) (Nat.le_of_ble_eq_true rfl) ⟨f4425, rfl, rfl, bf4425⟩
      · have r4428 : g4424.toInt < 40 := gj_nleL hc4426 (show Int32.toInt 40 = 40 by decide)
        have bg4424' : gB g4424 0 39 := ⟨by omega, by omega⟩
        refine G_lload_n 2 d_cX6_deepen_8 rfl ?_
        refine G_iload_n 0 d_cX6_deepen_9 rfl ?_
        refine G_lshr d_cX6_deepen_10 (G_namL fun u4429 hu4429 => ?_)
        refine G_lconst 1 d_cX6_deepen_11 rfl ?_
        refine G_land d_cX6_deepen_12 (G_namL fun u4430 hu4430 => ?_)
        refine G_lconst 0 d_cX6_deepen_13 rfl ?_
        refine G_lcmp d_cX6_deepen_14 (G_nam fun z4431 hz4431 => ?_)
        have bz4431 : gB z4431 (-1) 1 := gB_cmp hz4431
        refine G_if_eq 38 d_cX6_deepen_15 (by decide +kernel) (fun hc4432 => ?_) (fun hc4432 => ?_)
        · have r4433 : z4431.toInt = 0 := gj_eq hc4432 (show Int32.toInt 0 = 0 by decide)
          have bz4431' : gB z4431 0 0 := ⟨by omega, by omega⟩
          have lhc4432 := gC_cmpE hz4431 hc4432
          obtain ⟨z4434, hz4434⟩ : ∃ z : Int32, z = g4424 + Int32.ofInt 1 := ⟨_, rfl⟩
          have ez4434 : z4434.toInt = g4424.toInt + 1 := gI_inc hz4434 (by decide) bg4424' (by decide) (by decide)
          have bz4434 : gB z4434 1 40 := ⟨by omega, by omega⟩
          refine G_iinc (L' := [(3, .int z4434), (0, .ref q4312), (1, .long pl4316)]) z4434 0 d_cX6_deepen_38 rfl hz4434.symm (Nat.le_of_ble_eq_true rfl) rfl ?_
          refine G_goto 2 d_cX6_deepen_41 (by decide +kernel) ?_
          exact ih2_4425 z4434 f4425 (gB_w bz4434 (by decide) (by decide)) bf4425 (by omega)
        · have r4435 : z4431.toInt ≠ 0 := gj_neq hc4432 (show Int32.toInt 0 = 0 by decide)
          have lhc4432 := gC_cmpN hz4431 hc4432
          refine G_aload_n 1 d_cX6_deepen_18 rfl ?_
          refine G_getf 0 2 d_cX6_deepen_19 rfl (gk_X6 D I) (Nat.le_of_ble_eq_true rfl) w_1_235 rfl ?_
          refine G_iload_n 0 d_cX6_deepen_22 rfl ?_
          refine G_iald 3 0 d_cX6_deepen_23 rfl rfl (gB_in bg4424' (by decide) (by decide)) (G_nam fun z4436 hz4436 => ?_)
          have bz4436 : gB z4436 (-2147483648) 2147483647 := by rw [hz4436]; exact bf4425 _
          refine G_iconst 4 d_cX6_deepen_24 (by decide +kernel) ?_
          refine G_icmp_ge 38 d_cX6_deepen_25 (by decide +kernel) (fun hc4437 => ?_) (fun hc4437 => ?_)
          · have r4438 : 4 ≤ z4436.toInt := gj_leL hc4437 (show Int32.toInt 4 = 4 by decide)
            have bz4436' : gB z4436 4 2147483647 := ⟨by omega, by omega⟩
            obtain ⟨z4439, hz4439⟩ : ∃ z : Int32, z = g4424 + Int32.ofInt 1 := ⟨_, rfl⟩
            have ez4439 : z4439.toInt = g4424.toInt + 1 := gI_inc hz4439 (by decide) bg4424' (by decide) (by decide)
            have bz4439 : gB z4439 1 40 := ⟨by omega, by omega⟩
            refine G_iinc (L' := [(3, .int z4439), (0, .ref q4312), (1, .long pl4316)]) z4439 0 d_cX6_deepen_38 rfl hz4439.symm (Nat.le_of_ble_eq_true rfl) rfl ?_
            refine G_goto 2 d_cX6_deepen_41 (by decide +kernel) ?_
            exact ih2_4425 z4439 f4425 (gB_w bz4439 (by decide) (by decide)) bf4425 (by omega)
          · have r4440 : z4436.toInt < 4 := gj_nleL hc4437 (show Int32.toInt 4 = 4 by decide)
            have bz4436' : gB z4436 (-2147483648) 3 := ⟨by omega, by omega⟩
            refine G_aload_n 1 d_cX6_deepen_28 rfl ?_
            refine G_getf 0 2 d_cX6_deepen_29 rfl (gk_X6 D I) (Nat.le_of_ble_eq_true rfl) w_1_235 rfl ?_
            refine G_iload_n 0 d_cX6_deepen_32 rfl ?_
            refine G_dup2_11 d_cX6_deepen_33 rfl rfl ?_
            refine G_iald 3 0 d_cX6_deepen_34 rfl rfl (gB_in bg4424' (by decide) (by decide)) (G_eqi (y := z4436) hz4436.symm ?_)
            refine G_iconst 1 d_cX6_deepen_35 (by decide +kernel) ?_
            refine G_iadd d_cX6_deepen_36 (G_nam fun z4441 hz4441 => ?_)
            have ez4441 : z4441.toInt = z4436.toInt + 1 := by rw [gI_add hz4441 bz4436' (gBl (show Int32.toInt 1 = 1 by decide)) (by decide) (by decide), show Int32.toInt 1 = 1 from by decide]
            have bz4441 : gB z4441 (-2147483647) 4 := gB_add (gI_add hz4441 bz4436' (gBl (show Int32.toInt 1 = 1 by decide)) (by decide) (by decide)) bz4436' (gBl (show Int32.toInt 1 = 1 by decide)) (by decide) (by decide)
            refine G_iastN 3 0 d_cX6_deepen_37 rfl rfl (gB_in bg4424' (by decide) (by decide)) (fun f4442 hf4442 => ?_)
            refine G_ws (ws' := [(q4312, .inr (11, [.ref q4313, .ref q4314, .ref q4315])), (q4313, .inl (I .long, 40, .inr (.inl f4317))), (q4314, .inl (I .long, 40, .inr (.inl f4318))), (q4315, .inl (I .int, 40, .inl f4442))]) (cs' := 0) (sl' := 0) rfl rfl rfl ?_
            obtain ⟨z4443, hz4443⟩ : ∃ z : Int32, z = g4424 + Int32.ofInt 1 := ⟨_, rfl⟩
            have ez4443 : z4443.toInt = g4424.toInt + 1 := gI_inc hz4443 (by decide) bg4424' (by decide) (by decide)
            have bz4443 : gB z4443 1 40 := ⟨by omega, by omega⟩
            refine G_iinc (L' := [(3, .int z4443), (0, .ref q4312), (1, .long pl4316)]) z4443 0 d_cX6_deepen_38 rfl hz4443.symm (Nat.le_of_ble_eq_true rfl) rfl ?_
            refine G_goto 2 d_cX6_deepen_41 (by decide +kernel) ?_
            exact ih2_4425 z4443 f4442 (gB_w bz4443 (by decide) (by decide)) (gF_any f4442) (by omega)
  exact hlp2_4425 (((41 : Int) - 0).toNat + 1) 0 f4319 (gB_w (gBl (show Int32.toInt 0 = 0 by decide)) (by decide) (by decide)) (gF_any f4319) (Nat.lt_succ_self _)
abbrev ky_4478_Arrays_fill : gKey := (cJ7_fill_d0a16, 5, yJ7_fill_d0a16.cls, none, [], yJ7_fill_d0a16.name, fun _ _ => True)
abbrev po_4478_Arrays_fill (I : FieldType → ClassId) (q4475 : Nat) (pl4476 : Int64) (f4477 : Nat → Int64) : Option Value → va_W → Prop := fun r w => ∃ (f4513 : Nat → Int64), r = none ∧ w = [(q4475, .inl (I .long, 40, .inr (.inl f4513)))]
set_option maxRecDepth 100000 in
set_option maxHeartbeats 4000000 in
theorem ct_4478_Arrays_fill (l : Launch) (hl0 : l.stackTraces = false) (D : va_G) (I : FieldType → ClassId) (q4475 : Nat) (pl4476 : Int64) (f4477 : Nat → Int64)  : Ct (gV D I) l yJ7_fill_d0a16 cJ7_fill_d0a16 5 none 0 0 0 0 [.ref q4475, .long pl4476] [(q4475, .inl (I .long, 40, .inr (.inl f4477)))] (po_4478_Arrays_fill I q4475 pl4476 f4477) gN := by
  refine Ct_ofF hl0 (by decide +kernel) (Nat.le_of_ble_eq_true rfl) ?_
  refine G_iconst 0 d_cJ7_fill_d0a16_0 (by decide +kernel) ?_
  refine G_istore_n (L' := [(3, .int 0), (0, .ref q4475), (1, .long pl4476)]) d_cJ7_fill_d0a16_1 (Nat.le_of_ble_eq_true rfl) rfl ?_
  refine G_aload_n 1 d_cJ7_fill_d0a16_2 rfl ?_
  refine G_alen 40 0 2 d_cJ7_fill_d0a16_3 rfl rfl rfl ?_
  refine G_istore (L' := [(4, .int 40), (3, .int 0), (0, .ref q4475), (1, .long pl4476)]) d_cJ7_fill_d0a16_4 (Nat.le_of_ble_eq_true rfl) rfl ?_
  have hlp6_4507 : ∀ (n6_4507 : Nat) (g4506 : Int32) (f4507 : Nat → Int64), gB g4506 0 40 → ((41 : Int) - g4506.toInt).toNat < n6_4507 → G (gV D I) l (gRm 0 0 0 0) (gM (gV D I) (po_4478_Arrays_fill I q4475 pl4476 f4477) gN 0 0) ky_4478_Arrays_fill 6 [(4, .int 40), (3, .int g4506), (0, .ref q4475), (1, .long pl4476)] [] [(q4475, .inl (I .long, 40, .inr (.inl f4507)))] 0 0 := by
    intro n6_4507
    induction n6_4507 with
    | zero => intro g4506 f4507 bg4506 hm6_4507; exact absurd hm6_4507 (Nat.not_lt_zero _)
    | succ n6_4507 ih6_4507 =>
      intro g4506 f4507 bg4506 hm6_4507
      refine G_iload_n 1 d_cJ7_fill_d0a16_6 rfl ?_
      refine G_iload 0 d_cJ7_fill_d0a16_7 rfl ?_
      refine G_icmp_ge 22 d_cJ7_fill_d0a16_9 (by decide +kernel) (fun hc4508 => ?_) (fun hc4508 => ?_)
      · have r4509 : 40 ≤ g4506.toInt := gj_leL hc4508 (show Int32.toInt 40 = 40 by decide)
        have bg4506' : gB g4506 40 40 := ⟨by omega, by omega⟩
        exact G_vret d_cJ7_fill_d0a16_22 rfl (Nat.le_of_ble_eq_true rfl) (Nat.le_of_ble_eq_true rfl) ⟨f4507, rfl, rfl⟩
      · have r4510 : g4506.toInt < 40 := gj_nleL hc4508 (show Int32.toInt 40 = 40 by decide)
        have bg4506' : gB g4506 0 39 := ⟨by omega, by omega⟩
        refine G_aload_n 2 d_cJ7_fill_d0a16_12 rfl ?_
        refine G_iload_n 1 d_cJ7_fill_d0a16_13 rfl ?_
        refine G_lload_n 3 d_cJ7_fill_d0a16_14 rfl ?_
        refine G_lastN 0 2 d_cJ7_fill_d0a16_15 rfl rfl (gB_in bg4506' (by decide) (by decide)) (fun f4511 hf4511 => ?_)
        refine G_ws (ws' := [(q4475, .inl (I .long, 40, .inr (.inl f4511)))]) (cs' := 0) (sl' := 0) rfl rfl rfl ?_
        obtain ⟨z4512, hz4512⟩ : ∃ z : Int32, z = g4506 + Int32.ofInt 1 := ⟨_, rfl⟩
        have ez4512 : z4512.toInt = g4506.toInt + 1 := gI_inc hz4512 (by decide) bg4506' (by decide) (by decide)
        have bz4512 : gB z4512 1 40 := ⟨by omega, by omega⟩
        refine G_iinc (L' := [(3, .int z4512), (4, .int 40), (0, .ref q4475), (1, .long pl4476)]) z4512 1 d_cJ7_fill_d0a16_16 rfl hz4512.symm (Nat.le_of_ble_eq_true rfl) rfl ?_
        refine G_goto 6 d_cJ7_fill_d0a16_19 (by decide +kernel) ?_
        refine G_lv (L' := [(4, .int 40), (3, .int z4512), (0, .ref q4475), (1, .long pl4476)]) [1, 0, 2, 3] rfl ?_
        exact ih6_4507 z4512 f4511 (gB_w bz4512 (by decide) (by decide)) (by have qa0 : Int32.toInt 40 = 40 := (by decide); omega)
  exact hlp6_4507 (((41 : Int) - 0).toNat + 1) 0 f4477 (gB_w (gBl (show Int32.toInt 0 = 0 by decide)) (by decide) (by decide)) (Nat.lt_succ_self _)
abbrev ky_4519_Arrays_fill : gKey := (cJ7_fill_53178, 4, yJ7_fill_53178.cls, none, [], yJ7_fill_53178.name, fun _ _ => True)
abbrev po_4519_Arrays_fill (I : FieldType → ClassId) (q4516 : Nat) (p4517 : Int32) (f4518 : Nat → Int32) : Option Value → va_W → Prop := fun r w => ∃ (f4554 : Nat → Int32), r = none ∧ w = [(q4516, .inl (I .int, 40, .inl f4554))] ∧ gF f4554 (-2147483648) 2147483647
set_option maxRecDepth 100000 in
set_option maxHeartbeats 4000000 in
theorem ct_4519_Arrays_fill (l : Launch) (hl0 : l.stackTraces = false) (D : va_G) (I : FieldType → ClassId) (q4516 : Nat) (p4517 : Int32) (f4518 : Nat → Int32)  : Ct (gV D I) l yJ7_fill_53178 cJ7_fill_53178 4 none 0 0 0 0 [.ref q4516, .int p4517] [(q4516, .inl (I .int, 40, .inl f4518))] (po_4519_Arrays_fill I q4516 p4517 f4518) gN := by
  refine Ct_ofF hl0 (by decide +kernel) (Nat.le_of_ble_eq_true rfl) ?_
  have bp4517 := gB_any p4517
  refine G_iconst 0 d_cJ7_fill_53178_0 (by decide +kernel) ?_
  refine G_istore_n (L' := [(2, .int 0), (0, .ref q4516), (1, .int p4517)]) d_cJ7_fill_53178_1 (Nat.le_of_ble_eq_true rfl) rfl ?_
  refine G_aload_n 1 d_cJ7_fill_53178_2 rfl ?_
  refine G_alen 40 0 0 d_cJ7_fill_53178_3 rfl rfl rfl ?_
  refine G_istore_n (L' := [(3, .int 40), (2, .int 0), (0, .ref q4516), (1, .int p4517)]) d_cJ7_fill_53178_4 (Nat.le_of_ble_eq_true rfl) rfl ?_
  have hlp5_4548 : ∀ (n5_4548 : Nat) (g4547 : Int32) (f4548 : Nat → Int32), gB g4547 0 40 → gF f4548 (-2147483648) 2147483647 → ((41 : Int) - g4547.toInt).toNat < n5_4548 → G (gV D I) l (gRm 0 0 0 0) (gM (gV D I) (po_4519_Arrays_fill I q4516 p4517 f4518) gN 0 0) ky_4519_Arrays_fill 5 [(3, .int 40), (2, .int g4547), (0, .ref q4516), (1, .int p4517)] [] [(q4516, .inl (I .int, 40, .inl f4548))] 0 0 := by
    intro n5_4548
    induction n5_4548 with
    | zero => intro g4547 f4548 bg4547 bf4548 hm5_4548; exact absurd hm5_4548 (Nat.not_lt_zero _)
    | succ n5_4548 ih5_4548 =>
      intro g4547 f4548 bg4547 bf4548 hm5_4548
      refine G_iload_n 1 d_cJ7_fill_53178_5 rfl ?_
      refine G_iload_n 0 d_cJ7_fill_53178_6 rfl ?_
      refine G_icmp_ge 20 d_cJ7_fill_53178_7 (by decide +kernel) (fun hc4549 => ?_) (fun hc4549 => ?_)
      · have r4550 : 40 ≤ g4547.toInt := gj_leL hc4549 (show Int32.toInt 40 = 40 by decide)
        have bg4547' : gB g4547 40 40 := ⟨by omega, by omega⟩
        exact G_vret d_cJ7_fill_53178_20 rfl (Nat.le_of_ble_eq_true rfl) (Nat.le_of_ble_eq_true rfl) ⟨f4548, rfl, rfl, bf4548⟩
      · have r4551 : g4547.toInt < 40 := gj_nleL hc4549 (show Int32.toInt 40 = 40 by decide)
        have bg4547' : gB g4547 0 39 := ⟨by omega, by omega⟩
        refine G_aload_n 2 d_cJ7_fill_53178_10 rfl ?_
        refine G_iload_n 1 d_cJ7_fill_53178_11 rfl ?_
        refine G_iload_n 3 d_cJ7_fill_53178_12 rfl ?_
        refine G_iastN 0 0 d_cJ7_fill_53178_13 rfl rfl (gB_in bg4547' (by decide) (by decide)) (fun f4552 hf4552 => ?_)
        refine G_ws (ws' := [(q4516, .inl (I .int, 40, .inl f4552))]) (cs' := 0) (sl' := 0) rfl rfl rfl ?_
        obtain ⟨z4553, hz4553⟩ : ∃ z : Int32, z = g4547 + Int32.ofInt 1 := ⟨_, rfl⟩
        have ez4553 : z4553.toInt = g4547.toInt + 1 := gI_inc hz4553 (by decide) bg4547' (by decide) (by decide)
        have bz4553 : gB z4553 1 40 := ⟨by omega, by omega⟩
        refine G_iinc (L' := [(2, .int z4553), (3, .int 40), (0, .ref q4516), (1, .int p4517)]) z4553 1 d_cJ7_fill_53178_14 rfl hz4553.symm (Nat.le_of_ble_eq_true rfl) rfl ?_
        refine G_goto 5 d_cJ7_fill_53178_17 (by decide +kernel) ?_
        refine G_lv (L' := [(3, .int 40), (2, .int z4553), (0, .ref q4516), (1, .int p4517)]) [1, 0, 2, 3] rfl ?_
        exact ih5_4548 z4553 f4552 (gB_w bz4553 (by decide) (by decide)) (gF_any f4552) (by have qa0 : Int32.toInt 40 = 40 := (by decide); omega)
  exact hlp5_4548 (((41 : Int) - 0).toNat + 1) 0 f4518 (gB_w (gBl (show Int32.toInt 0 = 0 by decide)) (by decide) (by decide)) (gF_any f4518) (Nat.lt_succ_self _)
abbrev ky_4474_Loops_find : gKey := (cX6_find, 5, yX6_find.cls, none, [], yX6_find.name, fun _ _ => True)
abbrev po_4474_Loops_find (I : FieldType → ClassId) (q4445 : Nat) (q4446 : Nat) (q4447 : Nat) (q4448 : Nat) (q4449 : Nat) (q4450 : Nat) (q4451 : Nat) (q4452 : Nat) (q4453 : Nat) (q4454 : Nat) (q4455 : Nat) (q4456 : Nat) (q4457 : Nat) (q4458 : Nat) (p4459 : Int32) (p4460 : Int32) (p4461 : Int32) (f4462 : Nat → Int64) (f4463 : Nat → Int64) (f4464 : Nat → Int32) (f4465 : Nat → Int32) (f4466 : Nat → Int32) (f4467 : Nat → Int32) (f4468 : Nat → Int32) (f4469 : Nat → Int32) (f4470 : Nat → Int32) (f4471 : Nat → Int32) (f4472 : Nat → Int32) (f4473 : Nat → Int32) : Option Value → va_W → Prop := fun r w => ∃ (f4896 : Nat → Int64) (f4897 : Nat → Int64) (f4898 : Nat → Int32), r = none ∧ w = [(q4445, .inr (11, [.ref q4447, .ref q4448, .ref q4449])), (q4446, .inr (5, [.ref q4450, .ref q4451, .ref q4452, .ref q4453, .ref q4454, .ref q4455, .ref q4456, .ref q4457, .ref q4458, .int p4459, .int p4460, .int p4461])), (q4447, .inl (I .long, 40, .inr (.inl f4896))), (q4448, .inl (I .long, 40, .inr (.inl f4897))), (q4449, .inl (I .int, 40, .inl f4898)), (q4450, .inl (I .int, 40, .inl f4465)), (q4451, .inl (I .int, 40, .inl f4466)), (q4452, .inl (I .int, 40, .inl f4467)), (q4453, .inl (I .int, 200, .inl f4468)), (q4454, .inl (I .int, 200, .inl f4469)), (q4455, .inl (I .int, 200, .inl f4470)), (q4456, .inl (I .int, 200, .inl f4471)), (q4457, .inl (I .int, 200, .inl f4472)), (q4458, .inl (I .int, 200, .inl f4473))] ∧ gF f4898 (-2147483648) 2147483647
set_option maxRecDepth 100000 in
set_option maxHeartbeats 4000000 in
theorem ct_4474_Loops_find (l : Launch) (hl0 : l.stackTraces = false) (D : va_G) (I : FieldType → ClassId) (q4445 : Nat) (q4446 : Nat) (q4447 : Nat) (q4448 : Nat) (q4449 : Nat) (q4450 : Nat) (q4451 : Nat) (q4452 : Nat) (q4453 : Nat) (q4454 : Nat) (q4455 : Nat) (q4456 : Nat) (q4457 : Nat) (q4458 : Nat) (p4459 : Int32) (p4460 : Int32) (p4461 : Int32) (f4462 : Nat → Int64) (f4463 : Nat → Int64) (f4464 : Nat → Int32) (f4465 : Nat → Int32) (f4466 : Nat → Int32) (f4467 : Nat → Int32) (f4468 : Nat → Int32) (f4469 : Nat → Int32) (f4470 : Nat → Int32) (f4471 : Nat → Int32) (f4472 : Nat → Int32) (f4473 : Nat → Int32) (bp4459 : gB p4459 0 40) (bp4460 : gB p4460 0 200) (bp4461 : gB p4461 0 1) (bf4465 : gF f4465 0 200) (bf4468 : gF f4468 0 21) : Ct (gV D I) l yX6_find cX6_find 5 none 2 59 0 0 [.ref q4445, .ref q4446] [(q4445, .inr (11, [.ref q4447, .ref q4448, .ref q4449])), (q4446, .inr (5, [.ref q4450, .ref q4451, .ref q4452, .ref q4453, .ref q4454, .ref q4455, .ref q4456, .ref q4457, .ref q4458, .int p4459, .int p4460, .int p4461])), (q4447, .inl (I .long, 40, .inr (.inl f4462))), (q4448, .inl (I .long, 40, .inr (.inl f4463))), (q4449, .inl (I .int, 40, .inl f4464)), (q4450, .inl (I .int, 40, .inl f4465)), (q4451, .inl (I .int, 40, .inl f4466)), (q4452, .inl (I .int, 40, .inl f4467)), (q4453, .inl (I .int, 200, .inl f4468)), (q4454, .inl (I .int, 200, .inl f4469)), (q4455, .inl (I .int, 200, .inl f4470)), (q4456, .inl (I .int, 200, .inl f4471)), (q4457, .inl (I .int, 200, .inl f4472)), (q4458, .inl (I .int, 200, .inl f4473))] (po_4474_Loops_find I q4445 q4446 q4447 q4448 q4449 q4450 q4451 q4452 q4453 q4454 q4455 q4456 q4457 q4458 p4459 p4460 p4461 f4462 f4463 f4464 f4465 f4466 f4467 f4468 f4469 f4470 f4471 f4472 f4473) gN := by
  refine Ct_of hl0 (by decide) (Nat.le_of_ble_eq_true rfl) ?_
  refine G_aload_n 0 d_cX6_find_0 rfl ?_
  refine G_getf 0 0 d_cX6_find_1 rfl (gk_X6 D I) (Nat.le_of_ble_eq_true rfl) w_1_233 rfl ?_
  refine G_lconst 0 d_cX6_find_4 rfl ?_
  refine G_callS (As := [.ref q4447, .long 0]) (wr := [(q4445, .inr (11, [.ref q4447, .ref q4448, .ref q4449])), (q4446, .inr (5, [.ref q4450, .ref q4451, .ref q4452, .ref q4453, .ref q4454, .ref q4455, .ref q4456, .ref q4457, .ref q4458, .int p4459, .int p4460, .int p4461])), (q4448, .inl (I .long, 40, .inr (.inl f4463))), (q4449, .inl (I .int, 40, .inl f4464)), (q4450, .inl (I .int, 40, .inl f4465)), (q4451, .inl (I .int, 40, .inl f4466)), (q4452, .inl (I .int, 40, .inl f4467)), (q4453, .inl (I .int, 200, .inl f4468)), (q4454, .inl (I .int, 200, .inl f4469)), (q4455, .inl (I .int, 200, .inl f4470)), (q4456, .inl (I .int, 200, .inl f4471)), (q4457, .inl (I .int, 200, .inl f4472)), (q4458, .inl (I .int, 200, .inl f4473))]) (gV_ok D I) (ct_4478_Arrays_fill l hl0 D I q4447 0 f4462 ) d_cX6_find_5 ⟨w_3_234, w_1_30, w_3_236, by decide, rfl, (Nat.le_of_ble_eq_true rfl), (Nat.le_of_ble_eq_true rfl)⟩ w_3_235 [2] [0, 1, 3, 4, 5, 6, 7, 8, 9, 10, 11, 12, 13] rfl rfl rfl rfl (by decide) (Nat.le_of_ble_eq_true rfl) (Nat.le_of_ble_eq_true rfl) (Nat.le_of_ble_eq_true rfl) (fun r w hp => ?_) (fun _ _ _ z => z.elim)
  obtain ⟨f4514, rfl, rfl⟩ := hp
  change G _ _ _ _ _ _ _ _ _ _ _
  refine G_ws (ws' := [(q4445, .inr (11, [.ref q4447, .ref q4448, .ref q4449])), (q4446, .inr (5, [.ref q4450, .ref q4451, .ref q4452, .ref q4453, .ref q4454, .ref q4455, .ref q4456, .ref q4457, .ref q4458, .int p4459, .int p4460, .int p4461])), (q4448, .inl (I .long, 40, .inr (.inl f4463))), (q4449, .inl (I .int, 40, .inl f4464)), (q4450, .inl (I .int, 40, .inl f4465)), (q4451, .inl (I .int, 40, .inl f4466)), (q4452, .inl (I .int, 40, .inl f4467)), (q4453, .inl (I .int, 200, .inl f4468)), (q4454, .inl (I .int, 200, .inl f4469)), (q4455, .inl (I .int, 200, .inl f4470)), (q4456, .inl (I .int, 200, .inl f4471)), (q4457, .inl (I .int, 200, .inl f4472)), (q4458, .inl (I .int, 200, .inl f4473)), (q4447, .inl (I .long, 40, .inr (.inl f4514)))]) (cs' := 0) (sl' := 0) rfl rfl rfl ?_
  refine G_aload_n 0 d_cX6_find_8 rfl ?_
  refine G_getf 0 1 d_cX6_find_9 rfl (gk_X6 D I) (Nat.le_of_ble_eq_true rfl) w_1_234 rfl ?_
  refine G_lconst 0 d_cX6_find_12 rfl ?_
  refine G_callS (As := [.ref q4448, .long 0]) (wr := [(q4445, .inr (11, [.ref q4447, .ref q4448, .ref q4449])), (q4446, .inr (5, [.ref q4450, .ref q4451, .ref q4452, .ref q4453, .ref q4454, .ref q4455, .ref q4456, .ref q4457, .ref q4458, .int p4459, .int p4460, .int p4461])), (q4449, .inl (I .int, 40, .inl f4464)), (q4450, .inl (I .int, 40, .inl f4465)), (q4451, .inl (I .int, 40, .inl f4466)), (q4452, .inl (I .int, 40, .inl f4467)), (q4453, .inl (I .int, 200, .inl f4468)), (q4454, .inl (I .int, 200, .inl f4469)), (q4455, .inl (I .int, 200, .inl f4470)), (q4456, .inl (I .int, 200, .inl f4471)), (q4457, .inl (I .int, 200, .inl f4472)), (q4458, .inl (I .int, 200, .inl f4473)), (q4447, .inl (I .long, 40, .inr (.inl f4514)))]) (gV_ok D I) (ct_4478_Arrays_fill l hl0 D I q4448 0 f4463 ) d_cX6_find_13 ⟨w_3_234, w_1_30, w_3_236, by decide, rfl, (Nat.le_of_ble_eq_true rfl), (Nat.le_of_ble_eq_true rfl)⟩ w_3_235 [2] [0, 1, 3, 4, 5, 6, 7, 8, 9, 10, 11, 12, 13] rfl rfl rfl rfl (by decide) (Nat.le_of_ble_eq_true rfl) (Nat.le_of_ble_eq_true rfl) (Nat.le_of_ble_eq_true rfl) (fun r w hp => ?_) (fun _ _ _ z => z.elim)
  obtain ⟨f4515, rfl, rfl⟩ := hp
  change G _ _ _ _ _ _ _ _ _ _ _
  refine G_ws (ws' := [(q4445, .inr (11, [.ref q4447, .ref q4448, .ref q4449])), (q4446, .inr (5, [.ref q4450, .ref q4451, .ref q4452, .ref q4453, .ref q4454, .ref q4455, .ref q4456, .ref q4457, .ref q4458, .int p4459, .int p4460, .int p4461])), (q4449, .inl (I .int, 40, .inl f4464)), (q4450, .inl (I .int, 40, .inl f4465)), (q4451, .inl (I .int, 40, .inl f4466)), (q4452, .inl (I .int, 40, .inl f4467)), (q4453, .inl (I .int, 200, .inl f4468)), (q4454, .inl (I .int, 200, .inl f4469)), (q4455, .inl (I .int, 200, .inl f4470)), (q4456, .inl (I .int, 200, .inl f4471)), (q4457, .inl (I .int, 200, .inl f4472)), (q4458, .inl (I .int, 200, .inl f4473)), (q4447, .inl (I .long, 40, .inr (.inl f4514))), (q4448, .inl (I .long, 40, .inr (.inl f4515)))]) (cs' := 0) (sl' := 0) rfl rfl rfl ?_
  refine G_aload_n 0 d_cX6_find_16 rfl ?_
  refine G_getf 0 2 d_cX6_find_17 rfl (gk_X6 D I) (Nat.le_of_ble_eq_true rfl) w_1_235 rfl ?_
  refine G_iconst 0 d_cX6_find_20 (by decide +kernel) ?_
  refine G_callS (As := [.ref q4449, .int 0]) (wr := [(q4445, .inr (11, [.ref q4447, .ref q4448, .ref q4449])), (q4446, .inr (5, [.ref q4450, .ref q4451, .ref q4452, .ref q4453, .ref q4454, .ref q4455, .ref q4456, .ref q4457, .ref q4458, .int p4459, .int p4460, .int p4461])), (q4450, .inl (I .int, 40, .inl f4465)), (q4451, .inl (I .int, 40, .inl f4466)), (q4452, .inl (I .int, 40, .inl f4467)), (q4453, .inl (I .int, 200, .inl f4468)), (q4454, .inl (I .int, 200, .inl f4469)), (q4455, .inl (I .int, 200, .inl f4470)), (q4456, .inl (I .int, 200, .inl f4471)), (q4457, .inl (I .int, 200, .inl f4472)), (q4458, .inl (I .int, 200, .inl f4473)), (q4447, .inl (I .long, 40, .inr (.inl f4514))), (q4448, .inl (I .long, 40, .inr (.inl f4515)))]) (gV_ok D I) (ct_4519_Arrays_fill l hl0 D I q4449 0 f4464 ) d_cX6_find_21 ⟨w_3_237, w_1_30, w_3_239, by decide, rfl, (Nat.le_of_ble_eq_true rfl), (Nat.le_of_ble_eq_true rfl)⟩ w_3_238 [2] [0, 1, 3, 4, 5, 6, 7, 8, 9, 10, 11, 12, 13] rfl rfl rfl rfl (by decide) (Nat.le_of_ble_eq_true rfl) (Nat.le_of_ble_eq_true rfl) (Nat.le_of_ble_eq_true rfl) (fun r w hp => ?_) (fun _ _ _ z => z.elim)
  obtain ⟨f4555, rfl, rfl, bf4555⟩ := hp
  change G _ _ _ _ _ _ _ _ _ _ _
  refine G_ws (ws' := [(q4445, .inr (11, [.ref q4447, .ref q4448, .ref q4449])), (q4446, .inr (5, [.ref q4450, .ref q4451, .ref q4452, .ref q4453, .ref q4454, .ref q4455, .ref q4456, .ref q4457, .ref q4458, .int p4459, .int p4460, .int p4461])), (q4450, .inl (I .int, 40, .inl f4465)), (q4451, .inl (I .int, 40, .inl f4466)), (q4452, .inl (I .int, 40, .inl f4467)), (q4453, .inl (I .int, 200, .inl f4468)), (q4454, .inl (I .int, 200, .inl f4469)), (q4455, .inl (I .int, 200, .inl f4470)), (q4456, .inl (I .int, 200, .inl f4471)), (q4457, .inl (I .int, 200, .inl f4472)), (q4458, .inl (I .int, 200, .inl f4473)), (q4447, .inl (I .long, 40, .inr (.inl f4514))), (q4448, .inl (I .long, 40, .inr (.inl f4515))), (q4449, .inl (I .int, 40, .inl f4555))]) (cs' := 0) (sl' := 0) rfl rfl rfl ?_
  refine G_iconst 0 d_cX6_find_24 (by decide +kernel) ?_
  refine G_istore_n (L' := [(2, .int 0), (0, .ref q4445), (1, .ref q4446)]) d_cX6_find_25 (Nat.le_of_ble_eq_true rfl) rfl ?_
  have hlp26_4831 : ∀ (n26_4831 : Nat) (g4829 : Int32) (f4830 : Nat → Int64) (f4831 : Nat → Int64), gB g4829 0 40 → ((41 : Int) - g4829.toInt).toNat < n26_4831 → G (gV D I) l (gRm 2 59 0 0) (gM (gV D I) (po_4474_Loops_find I q4445 q4446 q4447 q4448 q4449 q4450 q4451 q4452 q4453 q4454 q4455 q4456 q4457 q4458 p4459 p4460 p4461 f4462 f4463 f4464 f4465 f4466 f4467 f4468 f4469 f4470 f4471 f4472 f4473) gN 0 0) ky_4474_Loops_find 26 [(2, .int g4829), (0, .ref q4445), (1, .ref q4446)] [] [(q4445, .inr (11, [.ref q4447, .ref q4448, .ref q4449])), (q4446, .inr (5, [.ref q4450, .ref q4451, .ref q4452, .ref q4453, .ref q4454, .ref q4455, .ref q4456, .ref q4457, .ref q4458, .int p4459, .int p4460, .int p4461])), (q4450, .inl (I .int, 40, .inl f4465)), (q4451, .inl (I .int, 40, .inl f4466)), (q4452, .inl (I .int, 40, .inl f4467)), (q4453, .inl (I .int, 200, .inl f4468)), (q4454, .inl (I .int, 200, .inl f4469)), (q4455, .inl (I .int, 200, .inl f4470)), (q4456, .inl (I .int, 200, .inl f4471)), (q4457, .inl (I .int, 200, .inl f4472)), (q4458, .inl (I .int, 200, .inl f4473)), (q4447, .inl (I .long, 40, .inr (.inl f4830))), (q4448, .inl (I .long, 40, .inr (.inl f4831))), (q4449, .inl (I .int, 40, .inl f4555))] 0 0 := by
    intro n26_4831
    induction n26_4831 with
    | zero => intro g4829 f4830 f4831 bg4829 hm26_4831; exact absurd hm26_4831 (Nat.not_lt_zero _)
    | succ n26_4831 ih26_4831 =>
      intro g4829 f4830 f4831 bg4829 hm26_4831
      refine G_iload_n 0 d_cX6_find_26 rfl ?_
      refine G_aload_n 2 d_cX6_find_27 rfl ?_
      refine G_getfN 1 9 d_cX6_find_28 rfl (gk_X0 D I) (Nat.le_of_ble_eq_true rfl) (fun _ _ _ h => gn_w 40 rfl h) rfl ?_
      refine G_icmp_ge 62 d_cX6_find_31 (by decide +kernel) (fun hc4832 => ?_) (fun hc4832 => ?_)
      · have r4833 : p4459.toInt ≤ g4829.toInt := gC_le hc4832
        refine G_aload_n 1 d_cX6_find_62 rfl ?_
        refine G_getf 0 0 d_cX6_find_63 rfl (gk_X6 D I) (Nat.le_of_ble_eq_true rfl) w_1_233 rfl ?_
        refine G_lconst 1 d_cX6_find_66 rfl ?_
        refine G_lconst 0 d_cX6_find_67 rfl ?_
        refine G_callS (As := [.ref q4447, .long 1, .long 0]) (wr := [(q4445, .inr (11, [.ref q4447, .ref q4448, .ref q4449])), (q4446, .inr (5, [.ref q4450, .ref q4451, .ref q4452, .ref q4453, .ref q4454, .ref q4455, .ref q4456, .ref q4457, .ref q4458, .int p4459, .int p4460, .int p4461])), (q4450, .inl (I .int, 40, .inl f4465)), (q4451, .inl (I .int, 40, .inl f4466)), (q4452, .inl (I .int, 40, .inl f4467)), (q4453, .inl (I .int, 200, .inl f4468)), (q4454, .inl (I .int, 200, .inl f4469)), (q4455, .inl (I .int, 200, .inl f4470)), (q4456, .inl (I .int, 200, .inl f4471)), (q4457, .inl (I .int, 200, .inl f4472)), (q4458, .inl (I .int, 200, .inl f4473)), (q4448, .inl (I .long, 40, .inr (.inl f4831))), (q4449, .inl (I .int, 40, .inl f4555))]) (gV_ok D I) (ct_3439_Loops_walk l hl0 D I q4447 1 0 f4830 ) d_cX6_find_68 ⟨w_4_4, w_1_7, w_4_6, by decide, rfl, (Nat.le_of_ble_eq_true rfl), (Nat.le_of_ble_eq_true rfl)⟩ w_4_5 [11] [0, 1, 2, 3, 4, 5, 6, 7, 8, 9, 10, 12, 13] rfl rfl rfl rfl (by decide) (Nat.le_of_ble_eq_true rfl) (Nat.le_of_ble_eq_true rfl) (Nat.le_of_ble_eq_true rfl) (fun r w hp => ?_) (fun _ _ _ z => z.elim)
        obtain ⟨ol4834, rfl, rfl⟩ := hp
        change G _ _ _ _ _ _ _ (.long ol4834 :: _) _ _ _
        refine G_ws (ws' := [(q4445, .inr (11, [.ref q4447, .ref q4448, .ref q4449])), (q4446, .inr (5, [.ref q4450, .ref q4451, .ref q4452, .ref q4453, .ref q4454, .ref q4455, .ref q4456, .ref q4457, .ref q4458, .int p4459, .int p4460, .int p4461])), (q4450, .inl (I .int, 40, .inl f4465)), (q4451, .inl (I .int, 40, .inl f4466)), (q4452, .inl (I .int, 40, .inl f4467)), (q4453, .inl (I .int, 200, .inl f4468)), (q4454, .inl (I .int, 200, .inl f4469)), (q4455, .inl (I .int, 200, .inl f4470)), (q4456, .inl (I .int, 200, .inl f4471)), (q4457, .inl (I .int, 200, .inl f4472)), (q4458, .inl (I .int, 200, .inl f4473)), (q4448, .inl (I .long, 40, .inr (.inl f4831))), (q4449, .inl (I .int, 40, .inl f4555)), (q4447, .inl (I .long, 40, .inr (.inl f4830)))]) (cs' := 0) (sl' := 0) rfl rfl rfl ?_
        refine G_lstore_n (L' := [(2, .long ol4834), (0, .ref q4445), (1, .ref q4446)]) d_cX6_find_71 (Nat.le_of_ble_eq_true rfl) rfl ?_
        refine G_iconst 0 d_cX6_find_72 (by decide +kernel) ?_
        refine G_istore (L' := [(4, .int 0), (2, .long ol4834), (0, .ref q4445), (1, .ref q4446)]) d_cX6_find_73 (Nat.le_of_ble_eq_true rfl) rfl ?_
        have hlp75_4881 : ∀ (n75_4881 : Nat) (g4880 : Int32) (f4881 : Nat → Int32), gB g4880 0 40 → gF f4881 (-2147483648) 2147483647 → ((41 : Int) - g4880.toInt).toNat < n75_4881 → G (gV D I) l (gRm 2 59 0 0) (gM (gV D I) (po_4474_Loops_find I q4445 q4446 q4447 q4448 q4449 q4450 q4451 q4452 q4453 q4454 q4455 q4456 q4457 q4458 p4459 p4460 p4461 f4462 f4463 f4464 f4465 f4466 f4467 f4468 f4469 f4470 f4471 f4472 f4473) gN 0 0) ky_4474_Loops_find 75 [(4, .int g4880), (2, .long ol4834), (0, .ref q4445), (1, .ref q4446)] [] [(q4445, .inr (11, [.ref q4447, .ref q4448, .ref q4449])), (q4446, .inr (5, [.ref q4450, .ref q4451, .ref q4452, .ref q4453, .ref q4454, .ref q4455, .ref q4456, .ref q4457, .ref q4458, .int p4459, .int p4460, .int p4461])), (q4450, .inl (I .int, 40, .inl f4465)), (q4451, .inl (I .int, 40, .inl f4466)), (q4452, .inl (I .int, 40, .inl f4467)), (q4453, .inl (I .int, 200, .inl f4468)), (q4454, .inl (I .int, 200, .inl f4469)), (q4455, .inl (I .int, 200, .inl f4470)), (q4456, .inl (I .int, 200, .inl f4471)), (q4457, .inl (I .int, 200, .inl f4472)), (q4458, .inl (I .int, 200, .inl f4473)), (q4448, .inl (I .long, 40, .inr (.inl f4831))), (q4449, .inl (I .int, 40, .inl f4881)), (q4447, .inl (I .long, 40, .inr (.inl f4830)))] 0 0 := by
          intro n75_4881
          induction n75_4881 with
          | zero => intro g4880 f4881 bg4880 bf4881 hm75_4881; exact absurd hm75_4881 (Nat.not_lt_zero _)
          | succ n75_4881 ih75_4881 =>
            intro g4880 f4881 bg4880 bf4881 hm75_4881
            refine G_iload 0 d_cX6_find_75 rfl ?_
            refine G_aload_n 3 d_cX6_find_77 rfl ?_
            refine G_getfN 1 9 d_cX6_find_78 rfl (gk_X0 D I) (Nat.le_of_ble_eq_true rfl) (fun _ _ _ h => gn_w 40 rfl h) rfl ?_
            refine G_icmp_ge 101 d_cX6_find_81 (by decide +kernel) (fun hc4882 => ?_) (fun hc4882 => ?_)
            · have r4883 : p4459.toInt ≤ g4880.toInt := gC_le hc4882
              refine G_sub (ws' := [(q4445, .inr (11, [.ref q4447, .ref q4448, .ref q4449])), (q4446, .inr (5, [.ref q4450, .ref q4451, .ref q4452, .ref q4453, .ref q4454, .ref q4455, .ref q4456, .ref q4457, .ref q4458, .int p4459, .int p4460, .int p4461])), (q4447, .inl (I .long, 40, .inr (.inl f4830))), (q4448, .inl (I .long, 40, .inr (.inl f4831))), (q4449, .inl (I .int, 40, .inl f4881)), (q4450, .inl (I .int, 40, .inl f4465)), (q4451, .inl (I .int, 40, .inl f4466)), (q4452, .inl (I .int, 40, .inl f4467)), (q4453, .inl (I .int, 200, .inl f4468)), (q4454, .inl (I .int, 200, .inl f4469)), (q4455, .inl (I .int, 200, .inl f4470)), (q4456, .inl (I .int, 200, .inl f4471)), (q4457, .inl (I .int, 200, .inl f4472)), (q4458, .inl (I .int, 200, .inl f4473))]) [0, 1, 13, 11, 12, 2, 3, 4, 5, 6, 7, 8, 9, 10] rfl rfl ?_
              exact G_vret d_cX6_find_101 rfl (Nat.le_of_ble_eq_true rfl) (Nat.le_of_ble_eq_true rfl) ⟨f4830, f4831, f4881, rfl, rfl, bf4881⟩
            · have r4884 : g4880.toInt < p4459.toInt := gC_nle hc4882
              have bg4880' : gB g4880 0 39 := ⟨by omega, by omega⟩
              have bp4459' : gB p4459 1 40 := ⟨by omega, by omega⟩
              refine G_aload_n 2 d_cX6_find_84 rfl ?_
              refine G_aload_n 2 d_cX6_find_85 rfl ?_
              refine G_iload 0 d_cX6_find_86 rfl ?_
              refine G_lload_n 1 d_cX6_find_88 rfl ?_
              refine G_callV (As := [.int g4880, .long ol4834]) (wr := [(q4446, .inr (5, [.ref q4450, .ref q4451, .ref q4452, .ref q4453, .ref q4454, .ref q4455, .ref q4456, .ref q4457, .ref q4458, .int p4459, .int p4460, .int p4461])), (q4450, .inl (I .int, 40, .inl f4465)), (q4451, .inl (I .int, 40, .inl f4466)), (q4452, .inl (I .int, 40, .inl f4467)), (q4453, .inl (I .int, 200, .inl f4468)), (q4454, .inl (I .int, 200, .inl f4469)), (q4455, .inl (I .int, 200, .inl f4470)), (q4456, .inl (I .int, 200, .inl f4471)), (q4457, .inl (I .int, 200, .inl f4472)), (q4458, .inl (I .int, 200, .inl f4473))]) (gV_ok D I) (ct_4296_Loops_loopOf l hl0 D I q4445 q4447 q4448 q4449 g4880 ol4834 f4830 f4831 f4881 bg4880') d_cX6_find_89 ⟨w_4_8, w_1_7, w_4_11, by decide, rfl, (Nat.le_of_ble_eq_true rfl), (Nat.le_of_ble_eq_true rfl)⟩ w_4_10 w_p_27 0 rfl rfl [0, 13, 11, 12] [1, 2, 3, 4, 5, 6, 7, 8, 9, 10] rfl rfl rfl rfl (by decide) (Nat.le_of_ble_eq_true rfl) (Nat.le_of_ble_eq_true rfl) (Nat.le_of_ble_eq_true rfl) (fun r w hp => ?_) (fun _ _ _ z => z.elim)
              obtain ⟨ol4885, rfl, rfl⟩ := hp
              change G _ _ _ _ _ _ _ (.long ol4885 :: _) _ _ _
              refine G_ws (ws' := [(q4446, .inr (5, [.ref q4450, .ref q4451, .ref q4452, .ref q4453, .ref q4454, .ref q4455, .ref q4456, .ref q4457, .ref q4458, .int p4459, .int p4460, .int p4461])), (q4450, .inl (I .int, 40, .inl f4465)), (q4451, .inl (I .int, 40, .inl f4466)), (q4452, .inl (I .int, 40, .inl f4467)), (q4453, .inl (I .int, 200, .inl f4468)), (q4454, .inl (I .int, 200, .inl f4469)), (q4455, .inl (I .int, 200, .inl f4470)), (q4456, .inl (I .int, 200, .inl f4471)), (q4457, .inl (I .int, 200, .inl f4472)), (q4458, .inl (I .int, 200, .inl f4473)), (q4445, .inr (11, [.ref q4447, .ref q4448, .ref q4449])), (q4447, .inl (I .long, 40, .inr (.inl f4830))), (q4448, .inl (I .long, 40, .inr (.inl f4831))), (q4449, .inl (I .int, 40, .inl f4881))]) (cs' := 0) (sl' := 0) rfl rfl rfl ?_
              refine G_callV (As := [.long ol4885]) (wr := [(q4446, .inr (5, [.ref q4450, .ref q4451, .ref q4452, .ref q4453, .ref q4454, .ref q4455, .ref q4456, .ref q4457, .ref q4458, .int p4459, .int p4460, .int p4461])), (q4450, .inl (I .int, 40, .inl f4465)), (q4451, .inl (I .int, 40, .inl f4466)), (q4452, .inl (I .int, 40, .inl f4467)), (q4453, .inl (I .int, 200, .inl f4468)), (q4454, .inl (I .int, 200, .inl f4469)), (q4455, .inl (I .int, 200, .inl f4470)), (q4456, .inl (I .int, 200, .inl f4471)), (q4457, .inl (I .int, 200, .inl f4472)), (q4458, .inl (I .int, 200, .inl f4473))]) (gV_ok D I) (ct_4320_Loops_deepen l hl0 D I q4445 q4447 q4448 q4449 ol4885 f4830 f4831 f4881 ) d_cX6_find_92 ⟨w_4_12, w_1_7, w_4_15, by decide, rfl, (Nat.le_of_ble_eq_true rfl), (Nat.le_of_ble_eq_true rfl)⟩ w_4_14 w_p_28 10 rfl rfl [10, 11, 12, 13] [0, 1, 2, 3, 4, 5, 6, 7, 8, 9] rfl rfl rfl rfl (by decide) (Nat.le_of_ble_eq_true rfl) (Nat.le_of_ble_eq_true rfl) (Nat.le_of_ble_eq_true rfl) (fun r w hp => ?_) (fun _ _ _ z => z.elim)
              obtain ⟨f4886, rfl, rfl, bf4886⟩ := hp
              change G _ _ _ _ _ _ _ _ _ _ _
              refine G_ws (ws' := [(q4446, .inr (5, [.ref q4450, .ref q4451, .ref q4452, .ref q4453, .ref q4454, .ref q4455, .ref q4456, .ref q4457, .ref q4458, .int p4459, .int p4460, .int p4461])), (q4450, .inl (I .int, 40, .inl f4465)), (q4451, .inl (I .int, 40, .inl f4466)), (q4452, .inl (I .int, 40, .inl f4467)), (q4453, .inl (I .int, 200, .inl f4468)), (q4454, .inl (I .int, 200, .inl f4469)), (q4455, .inl (I .int, 200, .inl f4470)), (q4456, .inl (I .int, 200, .inl f4471)), (q4457, .inl (I .int, 200, .inl f4472)), (q4458, .inl (I .int, 200, .inl f4473)), (q4445, .inr (11, [.ref q4447, .ref q4448, .ref q4449])), (q4447, .inl (I .long, 40, .inr (.inl f4830))), (q4448, .inl (I .long, 40, .inr (.inl f4831))), (q4449, .inl (I .int, 40, .inl f4886))]) (cs' := 0) (sl' := 0) rfl rfl rfl ?_
              obtain ⟨z4887, hz4887⟩ : ∃ z : Int32, z = g4880 + Int32.ofInt 1 := ⟨_, rfl⟩
              have ez4887 : z4887.toInt = g4880.toInt + 1 := gI_inc hz4887 (by decide) bg4880' (by decide) (by decide)
              have bz4887 : gB z4887 1 40 := ⟨by omega, by omega⟩
              refine G_iinc (L' := [(4, .int z4887), (2, .long ol4834), (0, .ref q4445), (1, .ref q4446)]) z4887 0 d_cX6_find_95 rfl hz4887.symm (Nat.le_of_ble_eq_true rfl) rfl ?_
              refine G_goto 75 d_cX6_find_98 (by decide +kernel) ?_
              refine G_sub (ws' := [(q4445, .inr (11, [.ref q4447, .ref q4448, .ref q4449])), (q4446, .inr (5, [.ref q4450, .ref q4451, .ref q4452, .ref q4453, .ref q4454, .ref q4455, .ref q4456, .ref q4457, .ref q4458, .int p4459, .int p4460, .int p4461])), (q4450, .inl (I .int, 40, .inl f4465)), (q4451, .inl (I .int, 40, .inl f4466)), (q4452, .inl (I .int, 40, .inl f4467)), (q4453, .inl (I .int, 200, .inl f4468)), (q4454, .inl (I .int, 200, .inl f4469)), (q4455, .inl (I .int, 200, .inl f4470)), (q4456, .inl (I .int, 200, .inl f4471)), (q4457, .inl (I .int, 200, .inl f4472)), (q4458, .inl (I .int, 200, .inl f4473)), (q4448, .inl (I .long, 40, .inr (.inl f4831))), (q4449, .inl (I .int, 40, .inl f4886)), (q4447, .inl (I .long, 40, .inr (.inl f4830)))]) [10, 0, 1, 2, 3, 4, 5, 6, 7, 8, 9, 12, 13, 11] rfl rfl ?_
              exact ih75_4881 z4887 f4886 (gB_w bz4887 (by decide) (by decide)) bf4886 (by omega)
        exact hlp75_4881 (((41 : Int) - 0).toNat + 1) 0 f4555 (gB_w (gBl (show Int32.toInt 0 = 0 by decide)) (by decide) (by decide)) bf4555 (Nat.lt_succ_self _)
      · have r4888 : g4829.toInt < p4459.toInt := gC_nle hc4832
        have bg4829' : gB g4829 0 39 := ⟨by omega, by omega⟩
        have bp4459' : gB p4459 1 40 := ⟨by omega, by omega⟩
        refine G_aload_n 1 d_cX6_find_34 rfl ?_
        refine G_iload_n 0 d_cX6_find_35 rfl ?_
        refine G_aload_n 2 d_cX6_find_36 rfl ?_
        refine G_getfN 1 1 d_cX6_find_37 rfl (gk_X0 D I) (Nat.le_of_ble_eq_true rfl) (fun _ _ _ h => gn_w 7 rfl h) rfl ?_
        refine G_iload_n 0 d_cX6_find_40 rfl ?_
        refine G_iald 3 0 d_cX6_find_41 rfl rfl (gB_in bg4829' (by decide) (by decide)) (G_nam fun z4889 hz4889 => ?_)
        have bz4889 : gB z4889 (-2147483648) 2147483647 := gB_any z4889
        refine G_callV (As := [.int g4829, .int z4889]) (wr := [(q4446, .inr (5, [.ref q4450, .ref q4451, .ref q4452, .ref q4453, .ref q4454, .ref q4455, .ref q4456, .ref q4457, .ref q4458, .int p4459, .int p4460, .int p4461])), (q4450, .inl (I .int, 40, .inl f4465)), (q4451, .inl (I .int, 40, .inl f4466)), (q4452, .inl (I .int, 40, .inl f4467)), (q4453, .inl (I .int, 200, .inl f4468)), (q4454, .inl (I .int, 200, .inl f4469)), (q4455, .inl (I .int, 200, .inl f4470)), (q4456, .inl (I .int, 200, .inl f4471)), (q4457, .inl (I .int, 200, .inl f4472)), (q4458, .inl (I .int, 200, .inl f4473))]) (gV_ok D I) (ct_3418_Loops_link l hl0 D I q4445 q4447 q4448 q4449 g4829 z4889 f4830 f4831 f4555 bg4829') d_cX6_find_42 ⟨w_4_0, w_1_7, w_4_3, by decide, rfl, (Nat.le_of_ble_eq_true rfl), (Nat.le_of_ble_eq_true rfl)⟩ w_4_2 w_p_26 0 rfl rfl [0, 11, 12, 13] [1, 2, 3, 4, 5, 6, 7, 8, 9, 10] rfl rfl rfl rfl (by decide) (Nat.le_of_ble_eq_true rfl) (Nat.le_of_ble_eq_true rfl) (Nat.le_of_ble_eq_true rfl) (fun r w hp => ?_) (fun _ _ _ z => z.elim)
        obtain ⟨f4890, f4891, rfl, rfl⟩ := hp
        change G _ _ _ _ _ _ _ _ _ _ _
        refine G_ws (ws' := [(q4446, .inr (5, [.ref q4450, .ref q4451, .ref q4452, .ref q4453, .ref q4454, .ref q4455, .ref q4456, .ref q4457, .ref q4458, .int p4459, .int p4460, .int p4461])), (q4450, .inl (I .int, 40, .inl f4465)), (q4451, .inl (I .int, 40, .inl f4466)), (q4452, .inl (I .int, 40, .inl f4467)), (q4453, .inl (I .int, 200, .inl f4468)), (q4454, .inl (I .int, 200, .inl f4469)), (q4455, .inl (I .int, 200, .inl f4470)), (q4456, .inl (I .int, 200, .inl f4471)), (q4457, .inl (I .int, 200, .inl f4472)), (q4458, .inl (I .int, 200, .inl f4473)), (q4445, .inr (11, [.ref q4447, .ref q4448, .ref q4449])), (q4447, .inl (I .long, 40, .inr (.inl f4890))), (q4448, .inl (I .long, 40, .inr (.inl f4891))), (q4449, .inl (I .int, 40, .inl f4555))]) (cs' := 0) (sl' := 0) rfl rfl rfl ?_
        refine G_aload_n 1 d_cX6_find_45 rfl ?_
        refine G_iload_n 0 d_cX6_find_46 rfl ?_
        refine G_aload_n 2 d_cX6_find_47 rfl ?_
        refine G_getfN 0 2 d_cX6_find_48 rfl (gk_X0 D I) (Nat.le_of_ble_eq_true rfl) (fun _ _ _ h => gn_w 11 rfl h) rfl ?_
        refine G_iload_n 0 d_cX6_find_51 rfl ?_
        refine G_iald 3 0 d_cX6_find_52 rfl rfl (gB_in bg4829' (by decide) (by decide)) (G_nam fun z4892 hz4892 => ?_)
        have bz4892 : gB z4892 (-2147483648) 2147483647 := gB_any z4892
        refine G_callV (As := [.int g4829, .int z4892]) (wr := [(q4446, .inr (5, [.ref q4450, .ref q4451, .ref q4452, .ref q4453, .ref q4454, .ref q4455, .ref q4456, .ref q4457, .ref q4458, .int p4459, .int p4460, .int p4461])), (q4450, .inl (I .int, 40, .inl f4465)), (q4451, .inl (I .int, 40, .inl f4466)), (q4452, .inl (I .int, 40, .inl f4467)), (q4453, .inl (I .int, 200, .inl f4468)), (q4454, .inl (I .int, 200, .inl f4469)), (q4455, .inl (I .int, 200, .inl f4470)), (q4456, .inl (I .int, 200, .inl f4471)), (q4457, .inl (I .int, 200, .inl f4472)), (q4458, .inl (I .int, 200, .inl f4473))]) (gV_ok D I) (ct_3418_Loops_link l hl0 D I q4445 q4447 q4448 q4449 g4829 z4892 f4890 f4891 f4555 bg4829') d_cX6_find_53 ⟨w_4_0, w_1_7, w_4_3, by decide, rfl, (Nat.le_of_ble_eq_true rfl), (Nat.le_of_ble_eq_true rfl)⟩ w_4_2 w_p_26 10 rfl rfl [10, 11, 12, 13] [0, 1, 2, 3, 4, 5, 6, 7, 8, 9] rfl rfl rfl rfl (by decide) (Nat.le_of_ble_eq_true rfl) (Nat.le_of_ble_eq_true rfl) (Nat.le_of_ble_eq_true rfl) (fun r w hp => ?_) (fun _ _ _ z => z.elim)
        obtain ⟨f4893, f4894, rfl, rfl⟩ := hp
        change G _ _ _ _ _ _ _ _ _ _ _
        refine G_ws (ws' := [(q4446, .inr (5, [.ref q4450, .ref q4451, .ref q4452, .ref q4453, .ref q4454, .ref q4455, .ref q4456, .ref q4457, .ref q4458, .int p4459, .int p4460, .int p4461])), (q4450, .inl (I .int, 40, .inl f4465)), (q4451, .inl (I .int, 40, .inl f4466)), (q4452, .inl (I .int, 40, .inl f4467)), (q4453, .inl (I .int, 200, .inl f4468)), (q4454, .inl (I .int, 200, .inl f4469)), (q4455, .inl (I .int, 200, .inl f4470)), (q4456, .inl (I .int, 200, .inl f4471)), (q4457, .inl (I .int, 200, .inl f4472)), (q4458, .inl (I .int, 200, .inl f4473)), (q4445, .inr (11, [.ref q4447, .ref q4448, .ref q4449])), (q4447, .inl (I .long, 40, .inr (.inl f4893))), (q4448, .inl (I .long, 40, .inr (.inl f4894))), (q4449, .inl (I .int, 40, .inl f4555))]) (cs' := 0) (sl' := 0) rfl rfl rfl ?_
        obtain ⟨z4895, hz4895⟩ : ∃ z : Int32, z = g4829 + Int32.ofInt 1 := ⟨_, rfl⟩
        have ez4895 : z4895.toInt = g4829.toInt + 1 := gI_inc hz4895 (by decide) bg4829' (by decide) (by decide)
        have bz4895 : gB z4895 1 40 := ⟨by omega, by omega⟩
        refine G_iinc (L' := [(2, .int z4895), (0, .ref q4445), (1, .ref q4446)]) z4895 0 d_cX6_find_56 rfl hz4895.symm (Nat.le_of_ble_eq_true rfl) rfl ?_
        refine G_goto 26 d_cX6_find_59 (by decide +kernel) ?_
        refine G_sub (ws' := [(q4445, .inr (11, [.ref q4447, .ref q4448, .ref q4449])), (q4446, .inr (5, [.ref q4450, .ref q4451, .ref q4452, .ref q4453, .ref q4454, .ref q4455, .ref q4456, .ref q4457, .ref q4458, .int p4459, .int p4460, .int p4461])), (q4450, .inl (I .int, 40, .inl f4465)), (q4451, .inl (I .int, 40, .inl f4466)), (q4452, .inl (I .int, 40, .inl f4467)), (q4453, .inl (I .int, 200, .inl f4468)), (q4454, .inl (I .int, 200, .inl f4469)), (q4455, .inl (I .int, 200, .inl f4470)), (q4456, .inl (I .int, 200, .inl f4471)), (q4457, .inl (I .int, 200, .inl f4472)), (q4458, .inl (I .int, 200, .inl f4473)), (q4447, .inl (I .long, 40, .inr (.inl f4893))), (q4448, .inl (I .long, 40, .inr (.inl f4894))), (q4449, .inl (I .int, 40, .inl f4555))]) [10, 0, 1, 2, 3, 4, 5, 6, 7, 8, 9, 11, 12, 13] rfl rfl ?_
        exact ih26_4831 z4895 f4893 f4894 (gB_w bz4895 (by decide) (by decide)) (by omega)
  exact hlp26_4831 (((41 : Int) - 0).toNat + 1) 0 f4514 f4515 (gB_w (gBl (show Int32.toInt 0 = 0 by decide)) (by decide) (by decide)) (Nat.lt_succ_self _)
abbrev ky_4919_Machine_takeInput : gKey := (cX7_takeInput, 3, yX7_takeInput.cls, (some FieldType.int), [], yX7_takeInput.name, fun _ _ => True)
abbrev po_4919_Machine_takeInput (I : FieldType → ClassId) (q4899 : Nat) (q4900 : Nat) (q4901 : Nat) (q4902 : Nat) (q4903 : Nat) (q4904 : Nat) (q4905 : Nat) (p4906 : Int32) (p4907 : Int32) (p4908 : Int32) (p4909 : Int32) (p4910 : Int32) (p4911 : Int32) (p4912 : Int32) (p4913 : Int32) (f4914 : Nat → Int32) (f4915 : Nat → Int32) (f4916 : Nat → Int32) (f4917 : Nat → Int32) (f4918 : Nat → Int32) : Option Value → va_W → Prop := fun r w => ∃ (o4983 : Int32) (o4981 : Int32) (f4982 : Nat → Int32), r = some (.int o4983) ∧ w = [(q4899, .inr (12, [.ref q4901, .ref q4902, .ref q4903, .ref q4904, .int o4981, .int p4907, .int p4908, .int p4909, .int p4910, .int p4911, .int p4912])), (q4900, .inr (15, [.ref q4905, .int p4913])), (q4901, .inl (I .int, 2048, .inl f4982)), (q4902, .inl (I .int, 100, .inl f4915)), (q4903, .inl (I .int, 100, .inl f4916)), (q4904, .inl (I .int, 512, .inl f4917)), (q4905, .inl (I .byte, 8192, .inl f4918))] ∧ gB o4983 0 2048 ∧ gB o4981 0 2048 ∧ gF f4982 (-2147483648) 2147483647
set_option maxRecDepth 100000 in
set_option maxHeartbeats 4000000 in
theorem ct_4919_Machine_takeInput (l : Launch) (hl0 : l.stackTraces = false) (D : va_G) (I : FieldType → ClassId) (q4899 : Nat) (q4900 : Nat) (q4901 : Nat) (q4902 : Nat) (q4903 : Nat) (q4904 : Nat) (q4905 : Nat) (p4906 : Int32) (p4907 : Int32) (p4908 : Int32) (p4909 : Int32) (p4910 : Int32) (p4911 : Int32) (p4912 : Int32) (p4913 : Int32) (f4914 : Nat → Int32) (f4915 : Nat → Int32) (f4916 : Nat → Int32) (f4917 : Nat → Int32) (f4918 : Nat → Int32) (bp4906 : gB p4906 0 2048) (bp4907 : gB p4907 0 39) (bp4909 : gB p4909 0 512) (bp4911 : gB p4911 0 2048) (bp4913 : gB p4913 0 8192) (bf4918 : gF f4918 (-128) 127) : Ct (gV D I) l yX7_takeInput cX7_takeInput 3 (some FieldType.int) 2 44 0 0 [.ref q4899, .ref q4900] [(q4899, .inr (12, [.ref q4901, .ref q4902, .ref q4903, .ref q4904, .int p4906, .int p4907, .int p4908, .int p4909, .int p4910, .int p4911, .int p4912])), (q4900, .inr (15, [.ref q4905, .int p4913])), (q4901, .inl (I .int, 2048, .inl f4914)), (q4902, .inl (I .int, 100, .inl f4915)), (q4903, .inl (I .int, 100, .inl f4916)), (q4904, .inl (I .int, 512, .inl f4917)), (q4905, .inl (I .byte, 8192, .inl f4918))] (po_4919_Machine_takeInput I q4899 q4900 q4901 q4902 q4903 q4904 q4905 p4906 p4907 p4908 p4909 p4910 p4911 p4912 p4913 f4914 f4915 f4916 f4917 f4918) gN := by
  refine Ct_of hl0 (by decide) (Nat.le_of_ble_eq_true rfl) ?_
  have bp4908 := gB_any p4908
  have bp4910 := gB_any p4910
  have bp4912 := gB_any p4912
  refine G_aload_n 0 d_cX7_takeInput_0 rfl ?_
  refine G_aload_n 1 d_cX7_takeInput_1 rfl ?_
  refine G_callV (As := []) (wr := [(q4899, .inr (12, [.ref q4901, .ref q4902, .ref q4903, .ref q4904, .int p4906, .int p4907, .int p4908, .int p4909, .int p4910, .int p4911, .int p4912])), (q4901, .inl (I .int, 2048, .inl f4914)), (q4902, .inl (I .int, 100, .inl f4915)), (q4903, .inl (I .int, 100, .inl f4916)), (q4904, .inl (I .int, 512, .inl f4917))]) (gV_ok D I) (ct_5_Tape_size l hl0 D I q4900 q4905 p4913 f4918 bp4913 bf4918) d_cX7_takeInput_2 ⟨w_4_176, w_1_2, w_3_19, by decide, rfl, (Nat.le_of_ble_eq_true rfl), (Nat.le_of_ble_eq_true rfl)⟩ w_3_17 w_3_18 1 rfl rfl [1, 6] [0, 2, 3, 4, 5] rfl rfl rfl rfl (by decide) (Nat.le_of_ble_eq_true rfl) (Nat.le_of_ble_eq_true rfl) (Nat.le_of_ble_eq_true rfl) (fun r w hp => ?_) (fun _ _ _ z => z.elim)
  obtain ⟨rfl, rfl⟩ := hp
  change G _ _ _ _ _ _ _ (.int p4913 :: _) _ _ _
  refine G_ws (ws' := [(q4899, .inr (12, [.ref q4901, .ref q4902, .ref q4903, .ref q4904, .int p4906, .int p4907, .int p4908, .int p4909, .int p4910, .int p4911, .int p4912])), (q4901, .inl (I .int, 2048, .inl f4914)), (q4902, .inl (I .int, 100, .inl f4915)), (q4903, .inl (I .int, 100, .inl f4916)), (q4904, .inl (I .int, 512, .inl f4917)), (q4900, .inr (15, [.ref q4905, .int p4913])), (q4905, .inl (I .byte, 8192, .inl f4918))]) (cs' := 0) (sl' := 0) rfl rfl rfl ?_
  refine G_iconst 4 d_cX7_takeInput_5 (by decide +kernel) ?_
  refine G_idiv d_cX7_takeInput_6 (by decide) (G_nam fun z4920 hz4920 => ?_)
  have ez4920 : z4920.toInt = p4913.toInt / 4 := gI_div hz4920 bp4913 (by decide) (by decide) (by decide)
  have bz4920 : gB z4920 0 2048 := ⟨by omega, by omega⟩
  refine G_aload_n 0 d_cX7_takeInput_7 rfl ?_
  refine G_getf 0 0 d_cX7_takeInput_8 rfl (gk_X7 D I) (Nat.le_of_ble_eq_true rfl) w_2_160 rfl ?_
  refine G_alen 2048 1 0 d_cX7_takeInput_11 rfl rfl rfl ?_
  refine G_mmin d_cX7_takeInput_12 w_4_177 w_3_227 w_1_6 w_3_228 (Nat.le_of_ble_eq_true rfl) (Nat.le_of_ble_eq_true rfl) (Nat.le_of_ble_eq_true rfl) (Nat.le_of_ble_eq_true rfl) (G_nam fun z4921 hz4921 => ?_)
  have ez4921 : z4920.toInt ≥ z4921.toInt ∧ 2048 ≥ z4921.toInt ∧ (z4921.toInt = z4920.toInt ∨ z4921.toInt = 2048) := by have := gI_min hz4921; rw [show Int32.toInt 2048 = 2048 from by decide] at this; omega
  have bz4921 : gB z4921 0 2048 := ⟨by omega, by omega⟩
  refine G_putf (ws' := [(q4899, .inr (12, [.ref q4901, .ref q4902, .ref q4903, .ref q4904, .int z4921, .int p4907, .int p4908, .int p4909, .int p4910, .int p4911, .int p4912])), (q4901, .inl (I .int, 2048, .inl f4914)), (q4902, .inl (I .int, 100, .inl f4915)), (q4903, .inl (I .int, 100, .inl f4916)), (q4904, .inl (I .int, 512, .inl f4917)), (q4900, .inr (15, [.ref q4905, .int p4913])), (q4905, .inl (I .byte, 8192, .inl f4918))]) 0 4 d_cX7_takeInput_15 rfl (gk_X7 D I) (Nat.le_of_ble_eq_true rfl) w_2_164 rfl rfl rfl (Nat.le_of_ble_eq_true rfl) rfl ?_
  refine G_iconst 0 d_cX7_takeInput_18 (by decide +kernel) ?_
  refine G_istore_n (L' := [(2, .int 0), (0, .ref q4899), (1, .ref q4900)]) d_cX7_takeInput_19 (Nat.le_of_ble_eq_true rfl) rfl ?_
  have hlp20_4973 : ∀ (n20_4973 : Nat) (g4972 : Int32) (f4973 : Nat → Int32), gB g4972 0 2048 → gF f4973 (-2147483648) 2147483647 → ((2049 : Int) - g4972.toInt).toNat < n20_4973 → G (gV D I) l (gRm 2 44 0 0) (gM (gV D I) (po_4919_Machine_takeInput I q4899 q4900 q4901 q4902 q4903 q4904 q4905 p4906 p4907 p4908 p4909 p4910 p4911 p4912 p4913 f4914 f4915 f4916 f4917 f4918) gN 0 0) ky_4919_Machine_takeInput 20 [(2, .int g4972), (0, .ref q4899), (1, .ref q4900)] [] [(q4899, .inr (12, [.ref q4901, .ref q4902, .ref q4903, .ref q4904, .int z4921, .int p4907, .int p4908, .int p4909, .int p4910, .int p4911, .int p4912])), (q4901, .inl (I .int, 2048, .inl f4973)), (q4902, .inl (I .int, 100, .inl f4915)), (q4903, .inl (I .int, 100, .inl f4916)), (q4904, .inl (I .int, 512, .inl f4917)), (q4900, .inr (15, [.ref q4905, .int p4913])), (q4905, .inl (I .byte, 8192, .inl f4918))] 0 0 := by
    intro n20_4973
    induction n20_4973 with
    | zero => intro g4972 f4973 bg4972 bf4973 hm20_4973; exact absurd hm20_4973 (Nat.not_lt_zero _)
    | succ n20_4973 ih20_4973 =>
      intro g4972 f4973 bg4972 bf4973 hm20_4973
      refine G_iload_n 0 d_cX7_takeInput_20 rfl ?_
      refine G_aload_n 1 d_cX7_takeInput_21 rfl ?_
      refine G_getf 0 4 d_cX7_takeInput_22 rfl (gk_X7 D I) (Nat.le_of_ble_eq_true rfl) w_2_164 rfl ?_
      refine G_icmp_ge 47 d_cX7_takeInput_25 (by decide +kernel) (fun hc4974 => ?_) (fun hc4974 => ?_)
      · have r4975 : z4921.toInt ≤ g4972.toInt := gC_le hc4974
        refine G_aload_n 1 d_cX7_takeInput_47 rfl ?_
        refine G_getf 0 4 d_cX7_takeInput_48 rfl (gk_X7 D I) (Nat.le_of_ble_eq_true rfl) w_2_164 rfl ?_
        refine G_sub (ws' := [(q4899, .inr (12, [.ref q4901, .ref q4902, .ref q4903, .ref q4904, .int z4921, .int p4907, .int p4908, .int p4909, .int p4910, .int p4911, .int p4912])), (q4900, .inr (15, [.ref q4905, .int p4913])), (q4901, .inl (I .int, 2048, .inl f4973)), (q4902, .inl (I .int, 100, .inl f4915)), (q4903, .inl (I .int, 100, .inl f4916)), (q4904, .inl (I .int, 512, .inl f4917)), (q4905, .inl (I .byte, 8192, .inl f4918))]) [0, 5, 1, 2, 3, 4, 6] rfl rfl ?_
        exact G_iret d_cX7_takeInput_51 rfl (Nat.le_of_ble_eq_true rfl) (Nat.le_of_ble_eq_true rfl) ⟨z4921, z4921, f4973, rfl, rfl, bz4921, bz4921, bf4973⟩
      · have r4976 : g4972.toInt < z4921.toInt := gC_nle hc4974
        have bg4972' : gB g4972 0 2047 := ⟨by omega, by omega⟩
        have bz4921' : gB z4921 1 2048 := ⟨by omega, by omega⟩
        refine G_aload_n 1 d_cX7_takeInput_28 rfl ?_
        refine G_getf 0 0 d_cX7_takeInput_29 rfl (gk_X7 D I) (Nat.le_of_ble_eq_true rfl) w_2_160 rfl ?_
        refine G_iload_n 0 d_cX7_takeInput_32 rfl ?_
        refine G_aload_n 2 d_cX7_takeInput_33 rfl ?_
        refine G_iconst 4 d_cX7_takeInput_34 (by decide +kernel) ?_
        refine G_iload_n 0 d_cX7_takeInput_35 rfl ?_
        refine G_imul d_cX7_takeInput_36 (G_nam fun z4977 hz4977 => ?_)
        have ez4977 : z4977.toInt = 4 * g4972.toInt := by rw [gI_mul hz4977 (gBl (show Int32.toInt 4 = 4 by decide)) bg4972' (by decide) (by decide) (by decide), show Int32.toInt 4 = 4 from by decide]
        have bz4977 : gB z4977 0 8188 := gB_mul hz4977 (gBl (show Int32.toInt 4 = 4 by decide)) bg4972' (by decide) (by decide) (by decide) (by decide)
        refine G_callV (As := [.int z4977]) (wr := [(q4899, .inr (12, [.ref q4901, .ref q4902, .ref q4903, .ref q4904, .int z4921, .int p4907, .int p4908, .int p4909, .int p4910, .int p4911, .int p4912])), (q4901, .inl (I .int, 2048, .inl f4973)), (q4902, .inl (I .int, 100, .inl f4915)), (q4903, .inl (I .int, 100, .inl f4916)), (q4904, .inl (I .int, 512, .inl f4917))]) (gV_ok D I) (ct_134_Tape_intAt l hl0 D I q4900 q4905 z4977 p4913 f4918 bp4913 bf4918) d_cX7_takeInput_37 ⟨w_4_178, w_1_2, w_4_181, by decide, rfl, (Nat.le_of_ble_eq_true rfl), (Nat.le_of_ble_eq_true rfl)⟩ w_4_179 w_4_180 5 rfl rfl [5, 6] [0, 1, 2, 3, 4] rfl rfl rfl rfl (by decide) (Nat.le_of_ble_eq_true rfl) (Nat.le_of_ble_eq_true rfl) (Nat.le_of_ble_eq_true rfl) (fun r w hp => ?_) (fun _ _ _ z => z.elim)
        obtain ⟨o4978, rfl, rfl, bo4978⟩ := hp
        change G _ _ _ _ _ _ _ (.int o4978 :: _) _ _ _
        refine G_ws (ws' := [(q4899, .inr (12, [.ref q4901, .ref q4902, .ref q4903, .ref q4904, .int z4921, .int p4907, .int p4908, .int p4909, .int p4910, .int p4911, .int p4912])), (q4901, .inl (I .int, 2048, .inl f4973)), (q4902, .inl (I .int, 100, .inl f4915)), (q4903, .inl (I .int, 100, .inl f4916)), (q4904, .inl (I .int, 512, .inl f4917)), (q4900, .inr (15, [.ref q4905, .int p4913])), (q4905, .inl (I .byte, 8192, .inl f4918))]) (cs' := 0) (sl' := 0) rfl rfl rfl ?_
        refine G_iastN 1 0 d_cX7_takeInput_40 rfl rfl (gB_in bg4972' (by decide) (by decide)) (fun f4979 hf4979 => ?_)
        refine G_ws (ws' := [(q4899, .inr (12, [.ref q4901, .ref q4902, .ref q4903, .ref q4904, .int z4921, .int p4907, .int p4908, .int p4909, .int p4910, .int p4911, .int p4912])), (q4901, .inl (I .int, 2048, .inl f4979)), (q4902, .inl (I .int, 100, .inl f4915)), (q4903, .inl (I .int, 100, .inl f4916)), (q4904, .inl (I .int, 512, .inl f4917)), (q4900, .inr (15, [.ref q4905, .int p4913])), (q4905, .inl (I .byte, 8192, .inl f4918))]) (cs' := 0) (sl' := 0) rfl rfl rfl ?_
        obtain ⟨z4980, hz4980⟩ : ∃ z : Int32, z = g4972 + Int32.ofInt 1 := ⟨_, rfl⟩
        have ez4980 : z4980.toInt = g4972.toInt + 1 := gI_inc hz4980 (by decide) bg4972' (by decide) (by decide)
        have bz4980 : gB z4980 1 2048 := ⟨by omega, by omega⟩
        refine G_iinc (L' := [(2, .int z4980), (0, .ref q4899), (1, .ref q4900)]) z4980 0 d_cX7_takeInput_41 rfl hz4980.symm (Nat.le_of_ble_eq_true rfl) rfl ?_
        refine G_goto 20 d_cX7_takeInput_44 (by decide +kernel) ?_
        exact ih20_4973 z4980 f4979 (gB_w bz4980 (by decide) (by decide)) (gF_any f4979) (by omega)
  exact hlp20_4973 (((2049 : Int) - 0).toNat + 1) 0 f4914 (gB_w (gBl (show Int32.toInt 0 = 0 by decide)) (by decide) (by decide)) (gF_any f4914) (Nat.lt_succ_self _)
abbrev ky_5000_Machine_answer : gKey := (cX7_answer, 1, yX7_answer.cls, (some FieldType.int), [], yX7_answer.name, fun _ _ => True)
abbrev po_5000_Machine_answer (I : FieldType → ClassId) (q4984 : Nat) (q4985 : Nat) (q4986 : Nat) (q4987 : Nat) (q4988 : Nat) (p4989 : Int32) (p4990 : Int32) (p4991 : Int32) (p4992 : Int32) (p4993 : Int32) (p4994 : Int32) (p4995 : Int32) (f4996 : Nat → Int32) (f4997 : Nat → Int32) (f4998 : Nat → Int32) (f4999 : Nat → Int32) : Option Value → va_W → Prop := fun r w => r = some (.int p4991) ∧ w = [(q4984, .inr (12, [.ref q4985, .ref q4986, .ref q4987, .ref q4988, .int p4989, .int p4990, .int p4991, .int p4992, .int p4993, .int p4994, .int p4995])), (q4985, .inl (I .int, 2048, .inl f4996)), (q4986, .inl (I .int, 100, .inl f4997)), (q4987, .inl (I .int, 100, .inl f4998)), (q4988, .inl (I .int, 512, .inl f4999))]
set_option maxRecDepth 100000 in
set_option maxHeartbeats 4000000 in
theorem ct_5000_Machine_answer (l : Launch) (hl0 : l.stackTraces = false) (D : va_G) (I : FieldType → ClassId) (q4984 : Nat) (q4985 : Nat) (q4986 : Nat) (q4987 : Nat) (q4988 : Nat) (p4989 : Int32) (p4990 : Int32) (p4991 : Int32) (p4992 : Int32) (p4993 : Int32) (p4994 : Int32) (p4995 : Int32) (f4996 : Nat → Int32) (f4997 : Nat → Int32) (f4998 : Nat → Int32) (f4999 : Nat → Int32) (bp4989 : gB p4989 0 2048) (bp4990 : gB p4990 0 39) (bp4992 : gB p4992 0 512) (bp4994 : gB p4994 0 2048) : Ct (gV D I) l yX7_answer cX7_answer 1 (some FieldType.int) 0 0 0 0 [.ref q4984] [(q4984, .inr (12, [.ref q4985, .ref q4986, .ref q4987, .ref q4988, .int p4989, .int p4990, .int p4991, .int p4992, .int p4993, .int p4994, .int p4995])), (q4985, .inl (I .int, 2048, .inl f4996)), (q4986, .inl (I .int, 100, .inl f4997)), (q4987, .inl (I .int, 100, .inl f4998)), (q4988, .inl (I .int, 512, .inl f4999))] (po_5000_Machine_answer I q4984 q4985 q4986 q4987 q4988 p4989 p4990 p4991 p4992 p4993 p4994 p4995 f4996 f4997 f4998 f4999) gN := by
  refine Ct_of hl0 (by decide) (Nat.le_of_ble_eq_true rfl) ?_
  have bp4991 := gB_any p4991
  have bp4993 := gB_any p4993
  have bp4995 := gB_any p4995
  refine G_aload_n 0 d_cX7_answer_0 rfl ?_
  refine G_getf 0 6 d_cX7_answer_1 rfl (gk_X7 D I) (Nat.le_of_ble_eq_true rfl) w_2_166 rfl ?_
  exact G_iret d_cX7_answer_4 rfl (Nat.le_of_ble_eq_true rfl) (Nat.le_of_ble_eq_true rfl) ⟨rfl, rfl⟩
abbrev ky_5017_Machine_shows : gKey := (cX7_shows, 1, yX7_shows.cls, (some FieldType.int), [], yX7_shows.name, fun _ _ => True)
abbrev po_5017_Machine_shows (I : FieldType → ClassId) (q5001 : Nat) (q5002 : Nat) (q5003 : Nat) (q5004 : Nat) (q5005 : Nat) (p5006 : Int32) (p5007 : Int32) (p5008 : Int32) (p5009 : Int32) (p5010 : Int32) (p5011 : Int32) (p5012 : Int32) (f5013 : Nat → Int32) (f5014 : Nat → Int32) (f5015 : Nat → Int32) (f5016 : Nat → Int32) : Option Value → va_W → Prop := fun r w => r = some (.int p5009) ∧ w = [(q5001, .inr (12, [.ref q5002, .ref q5003, .ref q5004, .ref q5005, .int p5006, .int p5007, .int p5008, .int p5009, .int p5010, .int p5011, .int p5012])), (q5002, .inl (I .int, 2048, .inl f5013)), (q5003, .inl (I .int, 100, .inl f5014)), (q5004, .inl (I .int, 100, .inl f5015)), (q5005, .inl (I .int, 512, .inl f5016))]
set_option maxRecDepth 100000 in
set_option maxHeartbeats 4000000 in
theorem ct_5017_Machine_shows (l : Launch) (hl0 : l.stackTraces = false) (D : va_G) (I : FieldType → ClassId) (q5001 : Nat) (q5002 : Nat) (q5003 : Nat) (q5004 : Nat) (q5005 : Nat) (p5006 : Int32) (p5007 : Int32) (p5008 : Int32) (p5009 : Int32) (p5010 : Int32) (p5011 : Int32) (p5012 : Int32) (f5013 : Nat → Int32) (f5014 : Nat → Int32) (f5015 : Nat → Int32) (f5016 : Nat → Int32) (bp5006 : gB p5006 0 2048) (bp5007 : gB p5007 0 39) (bp5009 : gB p5009 0 512) (bp5011 : gB p5011 0 2048) : Ct (gV D I) l yX7_shows cX7_shows 1 (some FieldType.int) 0 0 0 0 [.ref q5001] [(q5001, .inr (12, [.ref q5002, .ref q5003, .ref q5004, .ref q5005, .int p5006, .int p5007, .int p5008, .int p5009, .int p5010, .int p5011, .int p5012])), (q5002, .inl (I .int, 2048, .inl f5013)), (q5003, .inl (I .int, 100, .inl f5014)), (q5004, .inl (I .int, 100, .inl f5015)), (q5005, .inl (I .int, 512, .inl f5016))] (po_5017_Machine_shows I q5001 q5002 q5003 q5004 q5005 p5006 p5007 p5008 p5009 p5010 p5011 p5012 f5013 f5014 f5015 f5016) gN := by
  refine Ct_of hl0 (by decide) (Nat.le_of_ble_eq_true rfl) ?_
  have bp5008 := gB_any p5008
  have bp5010 := gB_any p5010
  have bp5012 := gB_any p5012
  refine G_aload_n 0 d_cX7_shows_0 rfl ?_
  refine G_getf 0 7 d_cX7_shows_1 rfl (gk_X7 D I) (Nat.le_of_ble_eq_true rfl) w_2_167 rfl ?_
  exact G_iret d_cX7_shows_4 rfl (Nat.le_of_ble_eq_true rfl) (Nat.le_of_ble_eq_true rfl) ⟨rfl, rfl⟩
abbrev ky_5035_Machine_showAt : gKey := (cX7_showAt, 2, yX7_showAt.cls, (some FieldType.int), [], yX7_showAt.name, fun _ _ => True)
abbrev po_5035_Machine_showAt (I : FieldType → ClassId) (q5018 : Nat) (q5019 : Nat) (q5020 : Nat) (q5021 : Nat) (q5022 : Nat) (p5023 : Int32) (p5024 : Int32) (p5025 : Int32) (p5026 : Int32) (p5027 : Int32) (p5028 : Int32) (p5029 : Int32) (p5030 : Int32) (f5031 : Nat → Int32) (f5032 : Nat → Int32) (f5033 : Nat → Int32) (f5034 : Nat → Int32) : Option Value → va_W → Prop := fun r w => (r = some (.int 0) ∧ w = [(q5018, .inr (12, [.ref q5019, .ref q5020, .ref q5021, .ref q5022, .int p5024, .int p5025, .int p5026, .int p5027, .int p5028, .int p5029, .int p5030])), (q5019, .inl (I .int, 2048, .inl f5031)), (q5020, .inl (I .int, 100, .inl f5032)), (q5021, .inl (I .int, 100, .inl f5033)), (q5022, .inl (I .int, 512, .inl f5034))] ∧ p5023.toInt < 0) ∨ (r = some (.int 0) ∧ w = [(q5018, .inr (12, [.ref q5019, .ref q5020, .ref q5021, .ref q5022, .int p5024, .int p5025, .int p5026, .int p5027, .int p5028, .int p5029, .int p5030])), (q5019, .inl (I .int, 2048, .inl f5031)), (q5020, .inl (I .int, 100, .inl f5032)), (q5021, .inl (I .int, 100, .inl f5033)), (q5022, .inl (I .int, 512, .inl f5034))] ∧ 0 ≤ p5023.toInt ∧ 512 ≤ p5023.toInt) ∨ (∃ (z5042 : Int32), r = some (.int z5042) ∧ w = [(q5018, .inr (12, [.ref q5019, .ref q5020, .ref q5021, .ref q5022, .int p5024, .int p5025, .int p5026, .int p5027, .int p5028, .int p5029, .int p5030])), (q5019, .inl (I .int, 2048, .inl f5031)), (q5020, .inl (I .int, 100, .inl f5032)), (q5021, .inl (I .int, 100, .inl f5033)), (q5022, .inl (I .int, 512, .inl f5034))] ∧ 0 ≤ p5023.toInt ∧ p5023.toInt < 512 ∧ gB z5042 (-2147483648) 2147483647)
set_option maxRecDepth 100000 in
set_option maxHeartbeats 4000000 in
theorem ct_5035_Machine_showAt (l : Launch) (hl0 : l.stackTraces = false) (D : va_G) (I : FieldType → ClassId) (q5018 : Nat) (q5019 : Nat) (q5020 : Nat) (q5021 : Nat) (q5022 : Nat) (p5023 : Int32) (p5024 : Int32) (p5025 : Int32) (p5026 : Int32) (p5027 : Int32) (p5028 : Int32) (p5029 : Int32) (p5030 : Int32) (f5031 : Nat → Int32) (f5032 : Nat → Int32) (f5033 : Nat → Int32) (f5034 : Nat → Int32) (bp5024 : gB p5024 0 2048) (bp5025 : gB p5025 0 39) (bp5027 : gB p5027 0 512) (bp5029 : gB p5029 0 2048) : Ct (gV D I) l yX7_showAt cX7_showAt 2 (some FieldType.int) 0 0 0 0 [.ref q5018, .int p5023] [(q5018, .inr (12, [.ref q5019, .ref q5020, .ref q5021, .ref q5022, .int p5024, .int p5025, .int p5026, .int p5027, .int p5028, .int p5029, .int p5030])), (q5019, .inl (I .int, 2048, .inl f5031)), (q5020, .inl (I .int, 100, .inl f5032)), (q5021, .inl (I .int, 100, .inl f5033)), (q5022, .inl (I .int, 512, .inl f5034))] (po_5035_Machine_showAt I q5018 q5019 q5020 q5021 q5022 p5023 p5024 p5025 p5026 p5027 p5028 p5029 p5030 f5031 f5032 f5033 f5034) gN := by
  refine Ct_of hl0 (by decide) (Nat.le_of_ble_eq_true rfl) ?_
  have bp5023 := gB_any p5023
  have bp5026 := gB_any p5026
  have bp5028 := gB_any p5028
  have bp5030 := gB_any p5030
  refine G_iload_n 1 d_cX7_showAt_0 rfl ?_
  refine G_if_lt 20 d_cX7_showAt_1 (by decide +kernel) (fun hc5036 => ?_) (fun hc5036 => ?_)
  · have r5037 : p5023.toInt < 0 := gj_lt hc5036 (show Int32.toInt 0 = 0 by decide)
    have bp5023' : gB p5023 (-2147483648) (-1) := ⟨by omega, by omega⟩
    refine G_iconst 0 d_cX7_showAt_20 (by decide +kernel) ?_
    exact G_iret d_cX7_showAt_21 rfl (Nat.le_of_ble_eq_true rfl) (Nat.le_of_ble_eq_true rfl) (Or.inl ⟨rfl, rfl, r5037⟩)
  · have r5038 : 0 ≤ p5023.toInt := gj_nlt hc5036 (show Int32.toInt 0 = 0 by decide)
    have bp5023' : gB p5023 0 2147483647 := ⟨by omega, by omega⟩
    refine G_iload_n 1 d_cX7_showAt_4 rfl ?_
    refine G_sipush 512 d_cX7_showAt_5 (by decide +kernel) ?_
    refine G_icmp_ge 20 d_cX7_showAt_8 (by decide +kernel) (fun hc5039 => ?_) (fun hc5039 => ?_)
    · have r5040 : 512 ≤ p5023.toInt := gj_leL hc5039 (show Int32.toInt 512 = 512 by decide)
      have bp5023'' : gB p5023 512 2147483647 := ⟨by omega, by omega⟩
      refine G_iconst 0 d_cX7_showAt_20 (by decide +kernel) ?_
      exact G_iret d_cX7_showAt_21 rfl (Nat.le_of_ble_eq_true rfl) (Nat.le_of_ble_eq_true rfl) (Or.inr (Or.inl ⟨rfl, rfl, r5038, r5040⟩))
    · have r5041 : p5023.toInt < 512 := gj_nleL hc5039 (show Int32.toInt 512 = 512 by decide)
      have bp5023'' : gB p5023 0 511 := ⟨by omega, by omega⟩
      refine G_aload_n 0 d_cX7_showAt_11 rfl ?_
      refine G_getf 0 3 d_cX7_showAt_12 rfl (gk_X7 D I) (Nat.le_of_ble_eq_true rfl) w_2_163 rfl ?_
      refine G_iload_n 1 d_cX7_showAt_15 rfl ?_
      refine G_iald 4 0 d_cX7_showAt_16 rfl rfl (gB_in bp5023'' (by decide) (by decide)) (G_nam fun z5042 hz5042 => ?_)
      have bz5042 : gB z5042 (-2147483648) 2147483647 := gB_any z5042
      refine G_goto 21 d_cX7_showAt_17 (by decide +kernel) ?_
      exact G_iret d_cX7_showAt_21 rfl (Nat.le_of_ble_eq_true rfl) (Nat.le_of_ble_eq_true rfl) (Or.inr (Or.inr (⟨z5042, rfl, rfl, r5038, r5041, bz5042⟩)))
abbrev ky_5059_Machine_steps : gKey := (cX7_steps, 1, yX7_steps.cls, (some FieldType.int), [], yX7_steps.name, fun _ _ => True)
abbrev po_5059_Machine_steps (I : FieldType → ClassId) (q5043 : Nat) (q5044 : Nat) (q5045 : Nat) (q5046 : Nat) (q5047 : Nat) (p5048 : Int32) (p5049 : Int32) (p5050 : Int32) (p5051 : Int32) (p5052 : Int32) (p5053 : Int32) (p5054 : Int32) (f5055 : Nat → Int32) (f5056 : Nat → Int32) (f5057 : Nat → Int32) (f5058 : Nat → Int32) : Option Value → va_W → Prop := fun r w => r = some (.int p5052) ∧ w = [(q5043, .inr (12, [.ref q5044, .ref q5045, .ref q5046, .ref q5047, .int p5048, .int p5049, .int p5050, .int p5051, .int p5052, .int p5053, .int p5054])), (q5044, .inl (I .int, 2048, .inl f5055)), (q5045, .inl (I .int, 100, .inl f5056)), (q5046, .inl (I .int, 100, .inl f5057)), (q5047, .inl (I .int, 512, .inl f5058))]
set_option maxRecDepth 100000 in
set_option maxHeartbeats 4000000 in
theorem ct_5059_Machine_steps (l : Launch) (hl0 : l.stackTraces = false) (D : va_G) (I : FieldType → ClassId) (q5043 : Nat) (q5044 : Nat) (q5045 : Nat) (q5046 : Nat) (q5047 : Nat) (p5048 : Int32) (p5049 : Int32) (p5050 : Int32) (p5051 : Int32) (p5052 : Int32) (p5053 : Int32) (p5054 : Int32) (f5055 : Nat → Int32) (f5056 : Nat → Int32) (f5057 : Nat → Int32) (f5058 : Nat → Int32) (bp5048 : gB p5048 0 2048) (bp5049 : gB p5049 0 39) (bp5051 : gB p5051 0 512) (bp5053 : gB p5053 0 2048) : Ct (gV D I) l yX7_steps cX7_steps 1 (some FieldType.int) 0 0 0 0 [.ref q5043] [(q5043, .inr (12, [.ref q5044, .ref q5045, .ref q5046, .ref q5047, .int p5048, .int p5049, .int p5050, .int p5051, .int p5052, .int p5053, .int p5054])), (q5044, .inl (I .int, 2048, .inl f5055)), (q5045, .inl (I .int, 100, .inl f5056)), (q5046, .inl (I .int, 100, .inl f5057)), (q5047, .inl (I .int, 512, .inl f5058))] (po_5059_Machine_steps I q5043 q5044 q5045 q5046 q5047 p5048 p5049 p5050 p5051 p5052 p5053 p5054 f5055 f5056 f5057 f5058) gN := by
  refine Ct_of hl0 (by decide) (Nat.le_of_ble_eq_true rfl) ?_
  have bp5050 := gB_any p5050
  have bp5052 := gB_any p5052
  have bp5054 := gB_any p5054
  refine G_aload_n 0 d_cX7_steps_0 rfl ?_
  refine G_getf 0 8 d_cX7_steps_1 rfl (gk_X7 D I) (Nat.le_of_ble_eq_true rfl) w_2_168 rfl ?_
  exact G_iret d_cX7_steps_4 rfl (Nat.le_of_ble_eq_true rfl) (Nat.le_of_ble_eq_true rfl) ⟨rfl, rfl⟩
