abbrev ky_408063_SpillForgeModel_findDepth : gKey := (cX17_findDepth, 13, "SpillForgeModel", none, [], "findDepth", fun _ _ => True)
def pt_408063_SpillForgeModel_findDepth (D : va_G) (I : FieldType → ClassId) (γ el : Nat → Nat → Nat) (P408058 : List Nat) (F408059 : Nat → va_E) (q408060 : Nat) (q408061 : Nat) : Option Value → va_W → Nat → Nat → Prop := fun r w dc ds => ∃ (F534198 : Nat → va_E), r = none ∧ w = va_pl P408058 F534198 ∧ RS D I P408058 F534198 γ el ∧ rStr γ [] F408059 F534198 ∧ dc ≤ 0 ∧ ds ≤ 0 ∧ (F534198 q408060 = F408059 q408060) ∧ (F534198 (γ 9 3) = F408059 (γ 9 3)) ∧ tr_RModel_findDepth2 D I γ el P408058 F408059 q408060 q408061 F534198
set_option maxRecDepth 100000 in
set_option maxHeartbeats 4000000 in
theorem ct_408063_SpillForgeModel_findDepth (l : Launch) (hl0 : l.stackTraces = false) (D : va_G) (I : FieldType → ClassId) (γ el : Nat → Nat → Nat) (P408058 : List Nat) (F408059 : Nat → va_E) (q408060 : Nat) (q408061 : Nat) (hT : RS D I P408058 F408059 γ el) (htq408060 : rKd γ q408060 10) (htq408061 : rKd γ q408061 9) (x408062 : 0 < γ 6 (γ 1 q408061)) : CtA (gV D I) l yX17_findDepth cX17_findDepth 13 none 5 112 0 0 [.ref q408060, .ref q408061] (va_pl P408058 F408059) (pt_408063_SpillForgeModel_findDepth D I γ el P408058 F408059 q408060 q408061) gNA := by
  refine CtA_of hl0 (by decide) (Nat.le_of_ble_eq_true rfl) ?_
  have hm408064 : q408060 ∈ P408058 := RS_m hT htq408060 (by decide)
  refine rk10_e (show rk_10 γ (F408059 q408060) from RS_o hT htq408060) (fun q408066 q408067 p408068 p408069 p408070 p408071 p408072 p408073 p408074 p408075 p408076 p408077 p408078 p408079 p408080 p408081 p408082 he408065 hB408109 ht408083 ht408084 ht408085 ht408086 ht408087 ht408088 ht408089 ht408090 ht408091 ht408092 ht408093 ht408094 ht408095 ht408096 ht408097 ht408098 ht408099 ht408100 ht408101 ht408102 ht408103 ht408104 ht408105 ht408106 hB408110 => ?_)
  refine G_iconst 0 dr_cX17_findDepth_0 (by decide +kernel) ?_
  refine G_istore_n (L' := [(2, .int 0), (0, .ref q408060), (1, .ref q408061)]) dr_cX17_findDepth_1 (Nat.le_of_ble_eq_true rfl) rfl ?_
  have hlp2_528466 : ∀ (n2_528466 : Nat) (F528462 : Nat → va_E) (g528461 : Int32), gB g528461 0 1000000 → RS D I P408058 F528462 γ el → rStr γ [] F408059 F528462 → (F528462 q408060 = F408059 q408060) → (F528462 (γ 9 3) = F408059 (γ 9 3)) → (∀ (k : Nat) (e1 : Nat → va_E), tl_RModel_findDepth2_2 D I γ el P408058 F408059 q408060 q408061 F528462 g528461 k e1 → tl_RModel_findDepth2_2 D I γ el P408058 F408059 q408060 q408061 F408059 (0 : Int32) k e1) → ((1000001 : Int) - g528461.toInt).toNat < n2_528466 → G (gV D I) l (gRm 5 112 0 0) (gMA (gV D I) (pt_408063_SpillForgeModel_findDepth D I γ el P408058 F408059 q408060 q408061) gNA 0 0) ky_408063_SpillForgeModel_findDepth 2 [(2, .int g528461), (0, .ref q408060), (1, .ref q408061)] [] (va_pl P408058 F528462) 0 0 := by
    intro n2_528466
    induction n2_528466 with
    | zero => intro F528462 g528461 bg528461 hT528463 hs528464 x528465 x528466 kt2_528467 hm2_528466; exact absurd hm2_528466 (Nat.not_lt_zero _)
    | succ n2_528466 ih2_528466 =>
      intro F528462 g528461 bg528461 hT528463 hs528464 x528465 x528466 kt2_528467 hm2_528466
      have hs528468 : rStr γ [] F408059 F528462 := fun b h0 hb hw => (hs528464 b h0 hb hw).trans ((rStr_rf (γ := γ) (W := []) (F := F408059)) b h0 hb hw).symm
      have hs528469 : rStr γ [] F408059 F528462 := rStr_tr (rStr_rf (γ := γ) (W := []) (F := F408059)) hs528468
      have he528470 : F528462 q408060 = .inr (22, [.ref (γ 9 0), .ref (γ 9 1), .ref (γ 9 2), .ref (γ 9 3), .ref (γ 9 4), .ref (γ 9 5), .ref (γ 9 6), .ref (γ 9 7), .ref (γ 9 8), .int p408068, .int p408069, .int p408070, .int p408071, .int p408072, .int p408073, .ref (γ 9 15), .ref (γ 9 16), .ref (γ 9 17), .ref (γ 9 18), .ref (γ 9 19), .ref (γ 9 20), .ref (γ 9 21), .ref (γ 9 22), .int p408074, .int p408075, .int p408076, .int p408077, .int p408078, .ref q408066, .ref (γ 9 29), .int p408079, .ref (γ 9 31), .int p408080, .int p408081, .int p408082, .ref q408067]) := x528465.trans he408065
      have hm528471 : q408060 ∈ P408058 := RS_m hT528463 htq408060 (by decide)
      refine G_iload_n 0 dr_cX17_findDepth_2 rfl ?_
      refine G_aload_n 2 dr_cX17_findDepth_3 rfl ?_
      have hm528472 : q408061 ∈ P408058 := RS_m hT528463 htq408061 (by decide)
      obtain ⟨q528474, q528475, p528476, p528477, he528473, ht528493, ht528478, ht528479, ht528480, ht528481, r528482, r528483, r528484, r528485, r528486, r528487, r528488, r528489, r528490, r528491, r528492⟩ := show rk_9 γ el q408061 (F528462 q408061) from RS_o hT528463 htq408061
      have bp528476 : gB p528476 0 1000000 := ⟨by omega, by omega⟩
      have bp528477 : gB p528477 0 1000000 := ⟨by omega, by omega⟩
      have fq528494 : fI (F528462 q408061) 3 = p528477 := by rw [he528473]; rfl
      refine Gw_callV (As := []) (gV_ok D I) (cp_12780_Code_size l hl0 D I P408058 F528462 q408061 q528474 q528475 p528476 p528477 hm528472 he528473) dr_cX17_findDepth_4 ⟨wr_10_160, wr_1_15, wr_9_131, by decide, rfl, (Nat.le_of_ble_eq_true rfl), (Nat.le_of_ble_eq_true rfl)⟩ wr_9_129 wr_9_130 hm528472 he528473 rfl (show 0 + 0 ≤ 0 by first | omega | decide) (show 0 + 0 ≤ 0 by first | omega | decide) (Nat.le_of_ble_eq_true rfl) (fun r528498 w528499 dc528495 ds528496 hp528497 => ?_) (fun _ _ _ _ _ z => z.elim)
      obtain ⟨rfl, rfl, hdc, hds⟩ := hp528497
      change G _ _ _ _ _ _ _ (.int p528477 :: _) _ _ _
      refine G_widen (cs' := 0) (sl' := 0) (by omega) (by omega) ?_
      refine G_icmp_ge 23 dr_cX17_findDepth_7 (by decide +kernel) (fun hc528500 => ?_) (fun hc528500 => ?_)
      · have r528501 : p528477.toInt ≤ g528461.toInt := gC_le hc528500
        have hx528502 : tl_RModel_findDepth2_2 D I γ el P408058 F408059 q408060 q408061 F408059 (0 : Int32) 23 F528462 := kt2_528467 23 F528462 (fun R c1 c2 => c1 F528462 g528461 p528477 bg528461 hT528463 hs528464 x528465 x528466 fq528494 r528501)
        refine G_aload_n 2 dr_cX17_findDepth_23 rfl ?_
        refine G_iconst (-1) dr_cX17_findDepth_24 (by decide +kernel) ?_
        refine Gw_callS (As := [.ref q408061, .int (-1)]) (gV_ok D I) (ct_12748_SpillForgeModel_reached l hl0 D I γ el P408058 F528462 q408061 (-1) hT528463 htq408061 (by omega)) dr_cX17_findDepth_25 ⟨wr_11_41, wr_1_14, wr_11_43, by decide, rfl, (Nat.le_of_ble_eq_true rfl), (Nat.le_of_ble_eq_true rfl)⟩ wr_11_42 (show 0 + 0 ≤ 0 by first | omega | decide) (show 0 + 0 ≤ 0 by first | omega | decide) (Nat.le_of_ble_eq_true rfl) (fun r528506 w528507 dc528503 ds528504 hp528505 => ?_) (fun _ _ _ _ _ z => z.elim)
        obtain ⟨ol528508, rfl, rfl, hdc, hds, ht528509⟩ := hp528505
        change G _ _ _ _ _ _ _ (.long ol528508 :: _) _ _ _
        refine G_widen (cs' := 0) (sl' := 0) (by omega) (by omega) ?_
        refine G_lstore_n (L' := [(2, .long ol528508), (0, .ref q408060), (1, .ref q408061)]) dr_cX17_findDepth_28 (Nat.le_of_ble_eq_true rfl) rfl ?_
        refine G_iconst 0 dr_cX17_findDepth_29 (by decide +kernel) ?_
        refine G_istore (L' := [(4, .int 0), (2, .long ol528508), (0, .ref q408060), (1, .ref q408061)]) dr_cX17_findDepth_30 (Nat.le_of_ble_eq_true rfl) rfl ?_
        have hlp32_531338 : ∀ (n32_531338 : Nat) (F531334 : Nat → va_E) (g531333 : Int32), gB g531333 0 1000000 → RS D I P408058 F531334 γ el → rStr γ [] F408059 F531334 → (F531334 q408060 = F408059 q408060) → (F531334 (γ 9 3) = F408059 (γ 9 3)) → (∀ (k : Nat) (e1 : Nat → va_E), tl_RModel_findDepth2_32 D I γ el P408058 F408059 q408060 q408061 ol528508 F531334 g531333 k e1 → tl_RModel_findDepth2_32 D I γ el P408058 F408059 q408060 q408061 ol528508 F528462 (0 : Int32) k e1) → ((1000001 : Int) - g531333.toInt).toNat < n32_531338 → G (gV D I) l (gRm 5 112 0 0) (gMA (gV D I) (pt_408063_SpillForgeModel_findDepth D I γ el P408058 F408059 q408060 q408061) gNA 0 0) ky_408063_SpillForgeModel_findDepth 32 [(4, .int g531333), (2, .long ol528508), (0, .ref q408060), (1, .ref q408061)] [] (va_pl P408058 F531334) 0 0 := by
          intro n32_531338
          induction n32_531338 with
          | zero => intro F531334 g531333 bg531333 hT531335 hs531336 x531337 x531338 kt32_531339 hm32_531338; exact absurd hm32_531338 (Nat.not_lt_zero _)
          | succ n32_531338 ih32_531338 =>
            intro F531334 g531333 bg531333 hT531335 hs531336 x531337 x531338 kt32_531339 hm32_531338
            have hs531340 : rStr γ [] F528462 F531334 := fun b h0 hb hw => (hs531336 b h0 hb hw).trans (hs528464 b h0 hb hw).symm
            have he531341 : F531334 q408061 = .inr (18, [.ref q528474, .ref q528475, .int p528476, .int p528477]) := (hs531340 q408061 (rT0 htq408061 (by decide)) (rT1 htq408061 (by decide)) (rT2 htq408061 (by decide))).trans he528473
            have hs531342 : rStr γ [] F408059 F531334 := rStr_tr hs528464 hs531340
            have he531343 : F531334 q408060 = .inr (22, [.ref (γ 9 0), .ref (γ 9 1), .ref (γ 9 2), .ref (γ 9 3), .ref (γ 9 4), .ref (γ 9 5), .ref (γ 9 6), .ref (γ 9 7), .ref (γ 9 8), .int p408068, .int p408069, .int p408070, .int p408071, .int p408072, .int p408073, .ref (γ 9 15), .ref (γ 9 16), .ref (γ 9 17), .ref (γ 9 18), .ref (γ 9 19), .ref (γ 9 20), .ref (γ 9 21), .ref (γ 9 22), .int p408074, .int p408075, .int p408076, .int p408077, .int p408078, .ref q408066, .ref (γ 9 29), .int p408079, .ref (γ 9 31), .int p408080, .int p408081, .int p408082, .ref q408067]) := x531337.trans he408065
            have hm531344 : q408060 ∈ P408058 := RS_m hT531335 htq408060 (by decide)
            refine G_iload 0 dr_cX17_findDepth_32 rfl ?_
            refine G_aload_n 3 dr_cX17_findDepth_34 rfl ?_
            have fq531345 : fI (F531334 q408061) 3 = p528477 := by rw [he531341]; rfl
            refine Gw_callV (As := []) (gV_ok D I) (cp_12780_Code_size l hl0 D I P408058 F531334 q408061 q528474 q528475 p528476 p528477 hm528472 he531341) dr_cX17_findDepth_35 ⟨wr_10_160, wr_1_15, wr_9_131, by decide, rfl, (Nat.le_of_ble_eq_true rfl), (Nat.le_of_ble_eq_true rfl)⟩ wr_9_129 wr_9_130 hm528472 he531341 rfl (show 0 + 0 ≤ 0 by first | omega | decide) (show 0 + 0 ≤ 0 by first | omega | decide) (Nat.le_of_ble_eq_true rfl) (fun r531349 w531350 dc531346 ds531347 hp531348 => ?_) (fun _ _ _ _ _ z => z.elim)
            obtain ⟨rfl, rfl, hdc, hds⟩ := hp531348
            change G _ _ _ _ _ _ _ (.int p528477 :: _) _ _ _
            refine G_widen (cs' := 0) (sl' := 0) (by omega) (by omega) ?_
            refine G_icmp_ge 339 dr_cX17_findDepth_38 (by decide +kernel) (fun hc531351 => ?_) (fun hc531351 => ?_)
            · have r531352 : p528477.toInt ≤ g531333.toInt := gC_le hc531351
              have hx531353 : tl_RModel_findDepth2_32 D I γ el P408058 F408059 q408060 q408061 ol528508 F528462 (0 : Int32) 339 F531334 := kt32_531339 339 F531334 (fun R c1 c2 c3 c4 => c1 F531334 g531333 p528477 bg531333 hT531335 hs531336 x531337 x531338 fq531345 r531352)
              refine G_iconst 0 dr_cX17_findDepth_339 (by decide +kernel) ?_
              refine G_istore (L' := [(4, .int 0), (2, .long ol528508), (0, .ref q408060), (1, .ref q408061)]) dr_cX17_findDepth_340 (Nat.le_of_ble_eq_true rfl) rfl ?_
              have hlp342_531393 : ∀ (n342_531393 : Nat) (F531389 : Nat → va_E) (g531388 : Int32), gB g531388 0 1000000 → RS D I P408058 F531389 γ el → rStr γ [] F408059 F531389 → (F531389 q408060 = F408059 q408060) → (F531389 (γ 9 3) = F408059 (γ 9 3)) → (∀ (k : Nat) (e1 : Nat → va_E), tl_RModel_findDepth2_342 D I γ el P408058 F408059 q408060 q408061 F531389 g531388 k e1 → tl_RModel_findDepth2_342 D I γ el P408058 F408059 q408060 q408061 F531334 (0 : Int32) k e1) → ((1000001 : Int) - g531388.toInt).toNat < n342_531393 → G (gV D I) l (gRm 5 112 0 0) (gMA (gV D I) (pt_408063_SpillForgeModel_findDepth D I γ el P408058 F408059 q408060 q408061) gNA 0 0) ky_408063_SpillForgeModel_findDepth 342 [(4, .int g531388), (2, .long ol528508), (0, .ref q408060), (1, .ref q408061)] [] (va_pl P408058 F531389) 0 0 := by
                intro n342_531393
                induction n342_531393 with
                | zero => intro F531389 g531388 bg531388 hT531390 hs531391 x531392 x531393 kt342_531394 hm342_531393; exact absurd hm342_531393 (Nat.not_lt_zero _)
                | succ n342_531393 ih342_531393 =>
                  intro F531389 g531388 bg531388 hT531390 hs531391 x531392 x531393 kt342_531394 hm342_531393
                  have hs531395 : rStr γ [] F531334 F531389 := fun b h0 hb hw => (hs531391 b h0 hb hw).trans (hs531336 b h0 hb hw).symm
                  have he531396 : F531389 q408061 = .inr (18, [.ref q528474, .ref q528475, .int p528476, .int p528477]) := (hs531395 q408061 (rT0 htq408061 (by decide)) (rT1 htq408061 (by decide)) (rT2 htq408061 (by decide))).trans he531341
                  have hs531397 : rStr γ [] F408059 F531389 := rStr_tr hs531336 hs531395
                  have he531398 : F531389 q408060 = .inr (22, [.ref (γ 9 0), .ref (γ 9 1), .ref (γ 9 2), .ref (γ 9 3), .ref (γ 9 4), .ref (γ 9 5), .ref (γ 9 6), .ref (γ 9 7), .ref (γ 9 8), .int p408068, .int p408069, .int p408070, .int p408071, .int p408072, .int p408073, .ref (γ 9 15), .ref (γ 9 16), .ref (γ 9 17), .ref (γ 9 18), .ref (γ 9 19), .ref (γ 9 20), .ref (γ 9 21), .ref (γ 9 22), .int p408074, .int p408075, .int p408076, .int p408077, .int p408078, .ref q408066, .ref (γ 9 29), .int p408079, .ref (γ 9 31), .int p408080, .int p408081, .int p408082, .ref q408067]) := x531392.trans he408065
                  have hm531399 : q408060 ∈ P408058 := RS_m hT531390 htq408060 (by decide)
                  refine G_iload 0 dr_cX17_findDepth_342 rfl ?_
                  refine G_aload_n 3 dr_cX17_findDepth_344 rfl ?_
                  have fq531400 : fI (F531389 q408061) 3 = p528477 := by rw [he531396]; rfl
                  refine Gw_callV (As := []) (gV_ok D I) (cp_12780_Code_size l hl0 D I P408058 F531389 q408061 q528474 q528475 p528476 p528477 hm528472 he531396) dr_cX17_findDepth_345 ⟨wr_10_160, wr_1_15, wr_9_131, by decide, rfl, (Nat.le_of_ble_eq_true rfl), (Nat.le_of_ble_eq_true rfl)⟩ wr_9_129 wr_9_130 hm528472 he531396 rfl (show 0 + 0 ≤ 0 by first | omega | decide) (show 0 + 0 ≤ 0 by first | omega | decide) (Nat.le_of_ble_eq_true rfl) (fun r531404 w531405 dc531401 ds531402 hp531403 => ?_) (fun _ _ _ _ _ z => z.elim)
                  obtain ⟨rfl, rfl, hdc, hds⟩ := hp531403
                  change G _ _ _ _ _ _ _ (.int p528477 :: _) _ _ _
                  refine G_widen (cs' := 0) (sl' := 0) (by omega) (by omega) ?_
                  refine G_icmp_ge 375 dr_cX17_findDepth_348 (by decide +kernel) (fun hc531406 => ?_) (fun hc531406 => ?_)
                  · have r531407 : p528477.toInt ≤ g531388.toInt := gC_le hc531406
                    have hx531408 : tl_RModel_findDepth2_342 D I γ el P408058 F408059 q408060 q408061 F531334 (0 : Int32) 375 F531389 := kt342_531394 375 F531389 (fun R c1 c2 => c1 F531389 g531388 p528477 bg531388 hT531390 hs531391 x531392 x531393 fq531400 r531407)
                    exact G_vretA dr_cX17_findDepth_375 rfl (Nat.le_of_ble_eq_true rfl) (Nat.le_of_ble_eq_true rfl) ⟨F531389, rfl, rfl, hT531390, hs531391, (Nat.le_of_ble_eq_true rfl), (Nat.le_of_ble_eq_true rfl), x531392, x531393, (fun R c1 => c1 F528462 ol528508 F531334 F531389 hx528502 ht528509 hx531353 hx531408)⟩
                  · have r531409 : g531388.toInt < p528477.toInt := gC_nle hc531406
                    have bg531388' : gB g531388 0 999999 := ⟨by omega, by omega⟩
                    have bp528477' : gB p528477 1 1000000 := ⟨by omega, by omega⟩
                    refine G_aload_n 2 dr_cX17_findDepth_351 rfl ?_
                    have fq531410 : fR (F531389 q408060) 4 = (γ 9 4) := by rw [he531398]; rfl
                    refine Gp_get 4 hm531399 he531398 dr_cX17_findDepth_352 (gk_X17 D I) (Nat.le_of_ble_eq_true rfl) wr_7_78 rfl ?_
                    refine G_iload 0 dr_cX17_findDepth_355 rfl ?_
                    refine G_aload_n 2 dr_cX17_findDepth_357 rfl ?_
                    refine Gp_get 4 hm531399 he531398 dr_cX17_findDepth_358 (gk_X17 D I) (Nat.le_of_ble_eq_true rfl) wr_7_78 rfl ?_
                    refine G_iload 0 dr_cX17_findDepth_361 rfl ?_
                    have hm531411 : (γ 9 4) ∈ P408058 := RS_m hT531390 ht408089 (by decide)
                    obtain ⟨f531413, he531412⟩ := show rk_16 I (F531389 (γ 9 4)) from RS_o hT531390 ht408089
                    refine Gp_iald 0 hm531411 he531412 dr_cX17_findDepth_363 rfl (gB_inr (by omega) (by omega)) (G_nam fun z531414 hz531414 => ?_)
                    have bz531414 : gB z531414 (-2147483648) 2147483647 := gB_any z531414
                    refine G_iconst 4 dr_cX17_findDepth_364 (by decide +kernel) ?_
                    refine G_mmin dr_cX17_findDepth_365 wr_11_20 wr_3_227 wr_1_6 wr_3_228 (Nat.le_of_ble_eq_true rfl) (Nat.le_of_ble_eq_true rfl) (show 0 ≤ 0 by first | omega | decide) (show 0 ≤ 0 by first | omega | decide) (G_nam fun z531415 hz531415 => ?_)
                    have ez531415 : z531414.toInt ≥ z531415.toInt ∧ 4 ≥ z531415.toInt ∧ (z531415.toInt = z531414.toInt ∨ z531415.toInt = 4) := by have := gI_min hz531415; rw [show Int32.toInt 4 = 4 from by decide] at this; omega
                    have bz531415 : gB z531415 (-2147483648) 4 := ⟨by omega, by omega⟩
                    refine Gp_iast 0 hm531411 he531412 dr_cX17_findDepth_368 rfl (gB_inr (by omega) (by omega)) (fun F531416 e531417 n531418 => ?_)
                    obtain ⟨f531419, hf531419⟩ : ∃ z, z = upd f531413 g531388.toNatClampNeg z531415 := ⟨_, rfl⟩
                    rw [← hf531419] at e531417
                    have he531420 : F531416 q408061 = .inr (18, [.ref q528474, .ref q528475, .int p528476, .int p528477]) := (n531418 q408061 (rn_oa he531396 he531412)).trans he531396
                    have he531421 : F531416 q408060 = .inr (22, [.ref (γ 9 0), .ref (γ 9 1), .ref (γ 9 2), .ref (γ 9 3), .ref (γ 9 4), .ref (γ 9 5), .ref (γ 9 6), .ref (γ 9 7), .ref (γ 9 8), .int p408068, .int p408069, .int p408070, .int p408071, .int p408072, .int p408073, .ref (γ 9 15), .ref (γ 9 16), .ref (γ 9 17), .ref (γ 9 18), .ref (γ 9 19), .ref (γ 9 20), .ref (γ 9 21), .ref (γ 9 22), .int p408074, .int p408075, .int p408076, .int p408077, .int p408078, .ref q408066, .ref (γ 9 29), .int p408079, .ref (γ 9 31), .int p408080, .int p408081, .int p408082, .ref q408067]) := (n531418 q408060 (rn_oa he531398 he531412)).trans he531398
                    have he531422 : F531416 (γ 9 4) = .inl (I .int, 40, .inl f531419) := e531417
                    have hs531423 : rStr γ [] F408059 F531416 := rStr_put hs531391 n531418 ht408089 (by decide)
                    have kp531424 : F531416 q408060 = F408059 q408060 := (n531418 q408060 (rn_ty htq408060 ht408089 (by decide))).trans x531392
                    have kp531425 : F531416 (γ 9 3) = F408059 (γ 9 3) := (n531418 (γ 9 3) (rn_ty ht408088 ht408089 (by decide))).trans x531393
                    obtain ⟨z531426, hz531426⟩ : ∃ z : Int32, z = g531388 + Int32.ofInt 1 := ⟨_, rfl⟩
                    have ez531426 : z531426.toInt = g531388.toInt + 1 := gI_inc hz531426 (by decide) bg531388' (by decide) (by decide)
                    have bz531426 : gB z531426 1 1000000 := ⟨by omega, by omega⟩
                    refine G_iinc (L' := [(4, .int z531426), (2, .long ol528508), (0, .ref q408060), (1, .ref q408061)]) z531426 0 dr_cX17_findDepth_369 rfl hz531426.symm (Nat.le_of_ble_eq_true rfl) rfl ?_
                    refine G_goto 342 dr_cX17_findDepth_372 (by decide +kernel) ?_
                    have hT531427 : RS D I P408058 F531416 γ el := RS_set hT531390 n531418 ht408089 (by decide) ⟨f531419, he531422⟩
                    exact ih342_531393 F531416 z531426 (gB_w bz531426 (by decide) (by decide)) hT531427 hs531423 kp531424 kp531425 (fun k e1 ht => kt342_531394 k e1 (fun R c1 c2 => c2 F531389 g531388 p528477 f531413 z531414 z531415 f531419 F531416 z531426 k e1 bg531388 hT531390 hs531391 x531392 x531393 fq531400 r531409 fq531410 he531412 hz531414 ez531415 hf531419 n531418 he531422 ez531426 (ht R c1 c2))) (mz_up ez531426 (Int.le_trans bg531388'.2 (by decide)) hm342_531393)
              exact hlp342_531393 (((1000001 : Int) - 0).toNat + 1) F531334 0 (gB_w (gBl (show Int32.toInt 0 = 0 by decide)) (by decide) (by decide)) hT531335 hs531336 x531337 x531338 (fun k e1 ht => ht) (Nat.lt_succ_self _)
            · have r531428 : g531333.toInt < p528477.toInt := gC_nle hc531351
              have bg531333' : gB g531333 0 999999 := ⟨by omega, by omega⟩
              have bp528477' : gB p528477 1 1000000 := ⟨by omega, by omega⟩
              refine G_lload_n 1 dr_cX17_findDepth_41 rfl ?_
              refine G_iload 0 dr_cX17_findDepth_42 rfl ?_
              refine G_lushr dr_cX17_findDepth_44 (G_namL fun u531429 hu531429 => ?_)
              refine G_lconst 1 dr_cX17_findDepth_45 rfl ?_
              refine G_land dr_cX17_findDepth_46 (G_namL fun u531430 hu531430 => ?_)
              refine G_lconst 0 dr_cX17_findDepth_47 rfl ?_
              refine G_lcmp dr_cX17_findDepth_48 (G_nam fun z531431 hz531431 => ?_)
              have bz531431 : gB z531431 (-1) 1 := gB_cmp hz531431
              refine G_if_ne 55 dr_cX17_findDepth_49 (by decide +kernel) (fun hc531432 => ?_) (fun hc531432 => ?_)
              · have r531433 : z531431.toInt ≠ 0 := gj_neq hc531432 (show Int32.toInt 0 = 0 by decide)
                have lhc531432 := gC_cmpN hz531431 hc531432
                refine G_lload_n 1 dr_cX17_findDepth_55 rfl ?_
                refine G_aload_n 3 dr_cX17_findDepth_56 rfl ?_
                refine G_iload 0 dr_cX17_findDepth_57 rfl ?_
                refine Gw_callS (As := [.ref q408061, .int g531333]) (gV_ok D I) (ct_12748_SpillForgeModel_reached l hl0 D I γ el P408058 F531334 q408061 g531333 hT531335 htq408061 (by omega)) dr_cX17_findDepth_59 ⟨wr_11_41, wr_1_14, wr_11_43, by decide, rfl, (Nat.le_of_ble_eq_true rfl), (Nat.le_of_ble_eq_true rfl)⟩ wr_11_42 (show 0 + 0 ≤ 0 by first | omega | decide) (show 0 + 0 ≤ 0 by first | omega | decide) (Nat.le_of_ble_eq_true rfl) (fun r531437 w531438 dc531434 ds531435 hp531436 => ?_) (fun _ _ _ _ _ z => z.elim)
                obtain ⟨ol531439, rfl, rfl, hdc, hds, ht531440⟩ := hp531436
                change G _ _ _ _ _ _ _ (.long ol531439 :: _) _ _ _
                refine G_widen (cs' := 0) (sl' := 0) (by omega) (by omega) ?_
                refine G_ldc2 (-1) dr_cX17_findDepth_62 wr_10_188 ?_
                refine G_lxor dr_cX17_findDepth_65 (G_namL fun u531441 hu531441 => ?_)
                refine G_land dr_cX17_findDepth_66 (G_namL fun u531442 hu531442 => ?_)
                refine G_lstore (L' := [(5, .long u531442), (4, .int g531333), (2, .long ol528508), (0, .ref q408060), (1, .ref q408061)]) dr_cX17_findDepth_67 (Nat.le_of_ble_eq_true rfl) rfl ?_
                refine G_lconst 0 dr_cX17_findDepth_69 rfl ?_
                refine G_lstore (L' := [(7, .long 0), (5, .long u531442), (4, .int g531333), (2, .long ol528508), (0, .ref q408060), (1, .ref q408061)]) dr_cX17_findDepth_70 (Nat.le_of_ble_eq_true rfl) rfl ?_
                refine G_iconst 0 dr_cX17_findDepth_72 (by decide +kernel) ?_
                refine G_istore (L' := [(9, .int 0), (7, .long 0), (5, .long u531442), (4, .int g531333), (2, .long ol528508), (0, .ref q408060), (1, .ref q408061)]) dr_cX17_findDepth_73 (Nat.le_of_ble_eq_true rfl) rfl ?_
                have hlp75_532803 : ∀ (n75_532803 : Nat) (g532802 : Int32) (gl532803 : Int64), gB g532802 0 1000000 → (∀ (k : Nat) (e1 : Int64), tl_RModel_findDepth2_75 D I γ el F531334 q408061 u531442 g531333 g532802 gl532803 k e1 → tl_RModel_findDepth2_75 D I γ el F531334 q408061 u531442 g531333 (0 : Int32) (0 : Int64) k e1) → ((1000001 : Int) - g532802.toInt).toNat < n75_532803 → G (gV D I) l (gRm 5 112 0 0) (gMA (gV D I) (pt_408063_SpillForgeModel_findDepth D I γ el P408058 F408059 q408060 q408061) gNA 0 0) ky_408063_SpillForgeModel_findDepth 75 [(9, .int g532802), (7, .long gl532803), (5, .long u531442), (4, .int g531333), (2, .long ol528508), (0, .ref q408060), (1, .ref q408061)] [] (va_pl P408058 F531334) 0 0 := by
                  intro n75_532803
                  induction n75_532803 with
                  | zero => intro g532802 gl532803 bg532802 kt75_532804 hm75_532803; exact absurd hm75_532803 (Nat.not_lt_zero _)
                  | succ n75_532803 ih75_532803 =>
                    intro g532802 gl532803 bg532802 kt75_532804 hm75_532803
                    refine G_iload 0 dr_cX17_findDepth_75 rfl ?_
                    refine G_aload_n 6 dr_cX17_findDepth_77 rfl ?_
                    have fq532805 : fI (F531334 q408061) 3 = p528477 := by rw [he531341]; rfl
                    refine Gw_callV (As := []) (gV_ok D I) (cp_12780_Code_size l hl0 D I P408058 F531334 q408061 q528474 q528475 p528476 p528477 hm528472 he531341) dr_cX17_findDepth_78 ⟨wr_10_160, wr_1_15, wr_9_131, by decide, rfl, (Nat.le_of_ble_eq_true rfl), (Nat.le_of_ble_eq_true rfl)⟩ wr_9_129 wr_9_130 hm528472 he531341 rfl (show 0 + 0 ≤ 0 by first | omega | decide) (show 0 + 0 ≤ 0 by first | omega | decide) (Nat.le_of_ble_eq_true rfl) (fun r532809 w532810 dc532806 ds532807 hp532808 => ?_) (fun _ _ _ _ _ z => z.elim)
                    obtain ⟨rfl, rfl, hdc, hds⟩ := hp532808
                    change G _ _ _ _ _ _ _ (.int p528477 :: _) _ _ _
                    refine G_widen (cs' := 0) (sl' := 0) (by omega) (by omega) ?_
                    refine G_icmp_ge 125 dr_cX17_findDepth_81 (by decide +kernel) (fun hc532811 => ?_) (fun hc532811 => ?_)
                    · have r532812 : p528477.toInt ≤ g532802.toInt := gC_le hc532811
                      have bg532802' : gB g532802 1 1000000 := ⟨by omega, by omega⟩
                      have hx532813 : tl_RModel_findDepth2_75 D I γ el F531334 q408061 u531442 g531333 (0 : Int32) (0 : Int64) 125 gl532803 := kt75_532804 125 gl532803 (fun R c1 c2 c3 c4 => c1 g532802 gl532803 p528477 bg532802 fq532805 r532812)
                      refine G_lload 1 dr_cX17_findDepth_125 rfl ?_
                      refine G_lconst 0 dr_cX17_findDepth_127 rfl ?_
                      refine G_lcmp dr_cX17_findDepth_128 (G_nam fun z532814 hz532814 => ?_)
                      have bz532814 : gB z532814 (-1) 1 := gB_cmp hz532814
                      refine G_if_ne 135 dr_cX17_findDepth_129 (by decide +kernel) (fun hc532815 => ?_) (fun hc532815 => ?_)
                      · have r532816 : z532814.toInt ≠ 0 := gj_neq hc532815 (show Int32.toInt 0 = 0 by decide)
                        have lhc532815 := gC_cmpN hz532814 hc532815
                        refine G_lload 1 dr_cX17_findDepth_135 rfl ?_
                        refine G_lconst 1 dr_cX17_findDepth_137 rfl ?_
                        refine G_iload 3 dr_cX17_findDepth_138 rfl ?_
                        refine G_lshl dr_cX17_findDepth_140 (G_namL fun u532817 hu532817 => ?_)
                        have qu532817 : lb_Q u532817 (g531333.toInt % 64 + 1) := lb_Qshl hu532817 (by omega)
                        refine G_lor dr_cX17_findDepth_141 (G_namL fun u532818 hu532818 => ?_)
                        have pmu532818 : rpop gl532803 ≤ rpop u532818 := rpop_or hu532818
                        refine G_lstore (L' := [(7, .long u532818), (9, .int g532802), (5, .long u531442), (4, .int g531333), (2, .long ol528508), (0, .ref q408060), (1, .ref q408061)]) dr_cX17_findDepth_142 (Nat.le_of_ble_eq_true rfl) rfl ?_
                        refine G_iconst 1 dr_cX17_findDepth_144 (by decide +kernel) ?_
                        refine G_istore (L' := [(9, .int 1), (7, .long u532818), (5, .long u531442), (4, .int g531333), (2, .long ol528508), (0, .ref q408060), (1, .ref q408061)]) dr_cX17_findDepth_145 (Nat.le_of_ble_eq_true rfl) rfl ?_
                        have hlp147_533456 : ∀ (n147_533456 : Nat) (g533454 : Int32) (gl533455 : Int64), gB g533454 0 1 → rpop gl533455 ≤ 64 → (∀ (k : Nat) (e1 : Int64), tl_RModel_findDepth2_147 D I γ el F531334 q408061 ol528508 g531333 g533454 gl533455 k e1 → tl_RModel_findDepth2_147 D I γ el F531334 q408061 ol528508 g531333 (1 : Int32) u532818 k e1) → (64 - rpop gl533455) + ((g533454.toInt : Int)).toNat < n147_533456 → G (gV D I) l (gRm 5 112 0 0) (gMA (gV D I) (pt_408063_SpillForgeModel_findDepth D I γ el P408058 F408059 q408060 q408061) gNA 0 0) ky_408063_SpillForgeModel_findDepth 147 [(9, .int g533454), (7, .long gl533455), (5, .long u531442), (4, .int g531333), (2, .long ol528508), (0, .ref q408060), (1, .ref q408061)] [] (va_pl P408058 F531334) 0 0 := by
                          intro n147_533456
                          induction n147_533456 with
                          | zero => intro g533454 gl533455 bg533454 x533456 kt147_533457 hm147_533456; exact absurd hm147_533456 (Nat.not_lt_zero _)
                          | succ n147_533456 ih147_533456 =>
                            intro g533454 gl533455 bg533454 x533456 kt147_533457 hm147_533456
                            refine G_iload 0 dr_cX17_findDepth_147 rfl ?_
                            refine G_if_eq 297 dr_cX17_findDepth_149 (by decide +kernel) (fun hc533458 => ?_) (fun hc533458 => ?_)
                            · have r533459 : g533454.toInt = 0 := gj_eq hc533458 (show Int32.toInt 0 = 0 by decide)
                              have bg533454' : gB g533454 0 0 := gB_t0 r533459
                              have hx533460 : tl_RModel_findDepth2_147 D I γ el F531334 q408061 ol528508 g531333 (1 : Int32) u532818 297 gl533455 := kt147_533457 297 gl533455 (fun R c1 c2 => c1 g533454 gl533455 bg533454 x533456 r533459)
                              refine G_iconst 0 dr_cX17_findDepth_297 (by decide +kernel) ?_
                              refine G_istore (L' := [(10, .int 0), (9, .int g533454), (7, .long gl533455), (5, .long u531442), (4, .int g531333), (2, .long ol528508), (0, .ref q408060), (1, .ref q408061)]) dr_cX17_findDepth_298 (Nat.le_of_ble_eq_true rfl) rfl ?_
                              have hlp300_533504 : ∀ (n300_533504 : Nat) (F533500 : Nat → va_E) (g533499 : Int32), gB g533499 0 1000000 → RS D I P408058 F533500 γ el → rStr γ [] F408059 F533500 → (F533500 q408060 = F408059 q408060) → (F533500 (γ 9 3) = F408059 (γ 9 3)) → (∀ (k : Nat) (e1 : Nat → va_E), tl_RModel_findDepth2_300 D I γ el P408058 F408059 q408060 q408061 gl533455 F533500 g533499 k e1 → tl_RModel_findDepth2_300 D I γ el P408058 F408059 q408060 q408061 gl533455 F531334 (0 : Int32) k e1) → ((1000001 : Int) - g533499.toInt).toNat < n300_533504 → G (gV D I) l (gRm 5 112 0 0) (gMA (gV D I) (pt_408063_SpillForgeModel_findDepth D I γ el P408058 F408059 q408060 q408061) gNA 0 0) ky_408063_SpillForgeModel_findDepth 300 [(10, .int g533499), (9, .int g533454), (7, .long gl533455), (5, .long u531442), (4, .int g531333), (2, .long ol528508), (0, .ref q408060), (1, .ref q408061)] [] (va_pl P408058 F533500) 0 0 := by
                                intro n300_533504
                                induction n300_533504 with
                                | zero => intro F533500 g533499 bg533499 hT533501 hs533502 x533503 x533504 kt300_533505 hm300_533504; exact absurd hm300_533504 (Nat.not_lt_zero _)
                                | succ n300_533504 ih300_533504 =>
                                  intro F533500 g533499 bg533499 hT533501 hs533502 x533503 x533504 kt300_533505 hm300_533504
                                  have hs533506 : rStr γ [] F531334 F533500 := fun b h0 hb hw => (hs533502 b h0 hb hw).trans (hs531336 b h0 hb hw).symm
                                  have he533507 : F533500 q408061 = .inr (18, [.ref q528474, .ref q528475, .int p528476, .int p528477]) := (hs533506 q408061 (rT0 htq408061 (by decide)) (rT1 htq408061 (by decide)) (rT2 htq408061 (by decide))).trans he531341
                                  have hs533508 : rStr γ [] F408059 F533500 := rStr_tr hs531336 hs533506
                                  have he533509 : F533500 q408060 = .inr (22, [.ref (γ 9 0), .ref (γ 9 1), .ref (γ 9 2), .ref (γ 9 3), .ref (γ 9 4), .ref (γ 9 5), .ref (γ 9 6), .ref (γ 9 7), .ref (γ 9 8), .int p408068, .int p408069, .int p408070, .int p408071, .int p408072, .int p408073, .ref (γ 9 15), .ref (γ 9 16), .ref (γ 9 17), .ref (γ 9 18), .ref (γ 9 19), .ref (γ 9 20), .ref (γ 9 21), .ref (γ 9 22), .int p408074, .int p408075, .int p408076, .int p408077, .int p408078, .ref q408066, .ref (γ 9 29), .int p408079, .ref (γ 9 31), .int p408080, .int p408081, .int p408082, .ref q408067]) := x533503.trans he408065
                                  have hm533510 : q408060 ∈ P408058 := RS_m hT533501 htq408060 (by decide)
                                  refine G_iload 0 dr_cX17_findDepth_300 rfl ?_
                                  refine G_aload_n 7 dr_cX17_findDepth_302 rfl ?_
                                  have fq533511 : fI (F533500 q408061) 3 = p528477 := by rw [he533507]; rfl
                                  refine Gw_callV (As := []) (gV_ok D I) (cp_12780_Code_size l hl0 D I P408058 F533500 q408061 q528474 q528475 p528476 p528477 hm528472 he533507) dr_cX17_findDepth_303 ⟨wr_10_160, wr_1_15, wr_9_131, by decide, rfl, (Nat.le_of_ble_eq_true rfl), (Nat.le_of_ble_eq_true rfl)⟩ wr_9_129 wr_9_130 hm528472 he533507 rfl (show 0 + 0 ≤ 0 by first | omega | decide) (show 0 + 0 ≤ 0 by first | omega | decide) (Nat.le_of_ble_eq_true rfl) (fun r533515 w533516 dc533512 ds533513 hp533514 => ?_) (fun _ _ _ _ _ z => z.elim)
                                  obtain ⟨rfl, rfl, hdc, hds⟩ := hp533514
                                  change G _ _ _ _ _ _ _ (.int p528477 :: _) _ _ _
                                  refine G_widen (cs' := 0) (sl' := 0) (by omega) (by omega) ?_
                                  refine G_icmp_ge 333 dr_cX17_findDepth_306 (by decide +kernel) (fun hc533517 => ?_) (fun hc533517 => ?_)
                                  · have r533518 : p528477.toInt ≤ g533499.toInt := gC_le hc533517
                                    have bg533499' : gB g533499 1 1000000 := ⟨by omega, by omega⟩
                                    have hx533519 : tl_RModel_findDepth2_300 D I γ el P408058 F408059 q408060 q408061 gl533455 F531334 (0 : Int32) 333 F533500 := kt300_533505 333 F533500 (fun R c1 c2 => c1 F533500 g533499 p528477 bg533499 hT533501 hs533502 x533503 x533504 fq533511 r533518)
                                    obtain ⟨z533520, hz533520⟩ : ∃ z : Int32, z = g531333 + Int32.ofInt 1 := ⟨_, rfl⟩
                                    have ez533520 : z533520.toInt = g531333.toInt + 1 := gI_inc hz533520 (by decide) bg531333' (by decide) (by decide)
                                    have bz533520 : gB z533520 1 1000000 := ⟨by omega, by omega⟩
                                    refine G_iinc (L' := [(4, .int z533520), (10, .int g533499), (9, .int g533454), (7, .long gl533455), (5, .long u531442), (2, .long ol528508), (0, .ref q408060), (1, .ref q408061)]) z533520 4 dr_cX17_findDepth_333 rfl hz533520.symm (Nat.le_of_ble_eq_true rfl) rfl ?_
                                    refine G_goto 32 dr_cX17_findDepth_336 (by decide +kernel) ?_
                                    refine G_lv (L' := [(4, .int z533520), (2, .long ol528508), (0, .ref q408060), (1, .ref q408061)]) [0, 5, 6, 7] rfl ?_
                                    exact ih32_531338 F533500 z533520 (gB_w bz533520 (by decide) (by decide)) hT533501 hs533502 x533503 x533504 (fun k e1 ht => kt32_531339 k e1 (fun R c1 c2 c3 c4 => c2 F531334 g531333 p528477 u531429 u531430 ol531439 u531441 u531442 gl532803 u532817 u532818 gl533455 F533500 z533520 k e1 bg531333 hT531335 hs531336 x531337 x531338 fq531345 r531428 hu531429 hu531430 lhc531432 ht531440 hu531441 hu531442 hx532813 lhc532815 hu532817 hu532818 hx533460 hx533519 ez533520 (ht R c1 c2 c3 c4))) (mz_up ez533520 (Int.le_trans bg531333'.2 (by decide)) hm32_531338)
                                  · have r533521 : g533499.toInt < p528477.toInt := gC_nle hc533517
                                    have bg533499' : gB g533499 0 999999 := ⟨by omega, by omega⟩
                                    refine G_aload_n 6 dr_cX17_findDepth_309 rfl ?_
                                    have fq533522 : fR (F533500 q408060) 4 = (γ 9 4) := by rw [he533509]; rfl
                                    refine Gp_get 4 hm533510 he533509 dr_cX17_findDepth_310 (gk_X17 D I) (Nat.le_of_ble_eq_true rfl) wr_7_78 rfl ?_
                                    refine G_iload 0 dr_cX17_findDepth_313 rfl ?_
                                    refine G_dup2_11 dr_cX17_findDepth_315 rfl rfl ?_
                                    have hm533523 : (γ 9 4) ∈ P408058 := RS_m hT533501 ht408089 (by decide)
                                    obtain ⟨f533525, he533524⟩ := show rk_16 I (F533500 (γ 9 4)) from RS_o hT533501 ht408089
                                    refine Gp_iald 0 hm533523 he533524 dr_cX17_findDepth_316 rfl (gB_inr (by omega) (by omega)) (G_nam fun z533526 hz533526 => ?_)
                                    have bz533526 : gB z533526 (-2147483648) 2147483647 := gB_any z533526
                                    refine G_lload 2 dr_cX17_findDepth_317 rfl ?_
                                    refine G_iload 0 dr_cX17_findDepth_319 rfl ?_
                                    refine G_lushr dr_cX17_findDepth_321 (G_namL fun u533527 hu533527 => ?_)
                                    refine G_lconst 1 dr_cX17_findDepth_322 rfl ?_
                                    refine G_land dr_cX17_findDepth_323 (G_namL fun u533528 hu533528 => ?_)
                                    refine G_l2i dr_cX17_findDepth_324 (G_nam fun z533529 hz533529 => ?_)
                                    have bz533529 : gB z533529 (-2147483648) 2147483647 := gB_any z533529
                                    refine G_iadd dr_cX17_findDepth_325 (G_nam fun z533530 hz533530 => ?_)
                                    have bz533530 : gB z533530 (-2147483648) 2147483647 := gB_any z533530
                                    refine Gp_iast 0 hm533523 he533524 dr_cX17_findDepth_326 rfl (gB_inr (by omega) (by omega)) (fun F533531 e533532 n533533 => ?_)
                                    obtain ⟨f533534, hf533534⟩ : ∃ z, z = upd f533525 g533499.toNatClampNeg z533530 := ⟨_, rfl⟩
                                    rw [← hf533534] at e533532
                                    have he533535 : F533531 q408061 = .inr (18, [.ref q528474, .ref q528475, .int p528476, .int p528477]) := (n533533 q408061 (rn_oa he533507 he533524)).trans he533507
                                    have he533536 : F533531 q408060 = .inr (22, [.ref (γ 9 0), .ref (γ 9 1), .ref (γ 9 2), .ref (γ 9 3), .ref (γ 9 4), .ref (γ 9 5), .ref (γ 9 6), .ref (γ 9 7), .ref (γ 9 8), .int p408068, .int p408069, .int p408070, .int p408071, .int p408072, .int p408073, .ref (γ 9 15), .ref (γ 9 16), .ref (γ 9 17), .ref (γ 9 18), .ref (γ 9 19), .ref (γ 9 20), .ref (γ 9 21), .ref (γ 9 22), .int p408074, .int p408075, .int p408076, .int p408077, .int p408078, .ref q408066, .ref (γ 9 29), .int p408079, .ref (γ 9 31), .int p408080, .int p408081, .int p408082, .ref q408067]) := (n533533 q408060 (rn_oa he533509 he533524)).trans he533509
                                    have he533537 : F533531 (γ 9 4) = .inl (I .int, 40, .inl f533534) := e533532
                                    have hs533538 : rStr γ [] F408059 F533531 := rStr_put hs533502 n533533 ht408089 (by decide)
                                    have kp533539 : F533531 q408060 = F408059 q408060 := (n533533 q408060 (rn_ty htq408060 ht408089 (by decide))).trans x533503
                                    have kp533540 : F533531 (γ 9 3) = F408059 (γ 9 3) := (n533533 (γ 9 3) (rn_ty ht408088 ht408089 (by decide))).trans x533504
                                    obtain ⟨z533541, hz533541⟩ : ∃ z : Int32, z = g533499 + Int32.ofInt 1 := ⟨_, rfl⟩
                                    have ez533541 : z533541.toInt = g533499.toInt + 1 := gI_inc hz533541 (by decide) bg533499' (by decide) (by decide)
                                    have bz533541 : gB z533541 1 1000000 := ⟨by omega, by omega⟩
                                    refine G_iinc (L' := [(10, .int z533541), (9, .int g533454), (7, .long gl533455), (5, .long u531442), (4, .int g531333), (2, .long ol528508), (0, .ref q408060), (1, .ref q408061)]) z533541 0 dr_cX17_findDepth_327 rfl hz533541.symm (Nat.le_of_ble_eq_true rfl) rfl ?_
                                    refine G_goto 300 dr_cX17_findDepth_330 (by decide +kernel) ?_
                                    have hT533542 : RS D I P408058 F533531 γ el := RS_set hT533501 n533533 ht408089 (by decide) ⟨f533534, he533537⟩
                                    exact ih300_533504 F533531 z533541 (gB_w bz533541 (by decide) (by decide)) hT533542 hs533538 kp533539 kp533540 (fun k e1 ht => kt300_533505 k e1 (fun R c1 c2 => c2 F533500 g533499 p528477 f533525 z533526 u533527 u533528 z533529 z533530 f533534 F533531 z533541 k e1 bg533499 hT533501 hs533502 x533503 x533504 fq533511 r533521 fq533522 he533524 hz533526 hu533527 hu533528 hz533529 hz533530 hf533534 n533533 he533537 ez533541 (ht R c1 c2))) (mz_up ez533541 (Int.le_trans bg533499'.2 (by decide)) hm300_533504)
                              exact hlp300_533504 (((1000001 : Int) - 0).toNat + 1) F531334 0 (gB_w (gBl (show Int32.toInt 0 = 0 by decide)) (by decide) (by decide)) hT531335 hs531336 x531337 x531338 (fun k e1 ht => ht) (Nat.lt_succ_self _)
                            · have r533543 : g533454.toInt ≠ 0 := gj_neq hc533458 (show Int32.toInt 0 = 0 by decide)
                              have bg533454' : gB g533454 1 1 := gB_t1 bg533454 r533543
                              refine G_iconst 0 dr_cX17_findDepth_152 (by decide +kernel) ?_
                              refine G_istore (L' := [(9, .int 0), (7, .long gl533455), (5, .long u531442), (4, .int g531333), (2, .long ol528508), (0, .ref q408060), (1, .ref q408061)]) dr_cX17_findDepth_153 (Nat.le_of_ble_eq_true rfl) rfl ?_
                              refine G_iconst 0 dr_cX17_findDepth_155 (by decide +kernel) ?_
                              refine G_istore (L' := [(10, .int 0), (9, .int 0), (7, .long gl533455), (5, .long u531442), (4, .int g531333), (2, .long ol528508), (0, .ref q408060), (1, .ref q408061)]) dr_cX17_findDepth_156 (Nat.le_of_ble_eq_true rfl) rfl ?_
                              have hlp158_533822 : ∀ (n158_533822 : Nat) (g533818 : Int32) (g533819 : Int32) (gl533820 : Int64), gB g533818 0 1000000 → gB g533819 0 1 → rpop gl533820 ≤ 64 → rpop gl533455 + ((g533819.toInt : Int)).toNat ≤ rpop gl533820 → (∀ (k : Nat) (e1 : Int32) (e2 : Int64), tl_RModel_findDepth2_158 D I γ el gl533455 F531334 q408061 ol528508 g531333 g533818 g533819 gl533820 k e1 e2 → tl_RModel_findDepth2_158 D I γ el gl533455 F531334 q408061 ol528508 g531333 (0 : Int32) (0 : Int32) gl533455 k e1 e2) → ((1000001 : Int) - g533818.toInt).toNat < n158_533822 → G (gV D I) l (gRm 5 112 0 0) (gMA (gV D I) (pt_408063_SpillForgeModel_findDepth D I γ el P408058 F408059 q408060 q408061) gNA 0 0) ky_408063_SpillForgeModel_findDepth 158 [(10, .int g533818), (9, .int g533819), (7, .long gl533820), (5, .long u531442), (4, .int g531333), (2, .long ol528508), (0, .ref q408060), (1, .ref q408061)] [] (va_pl P408058 F531334) 0 0 := by
                                intro n158_533822
                                induction n158_533822 with
                                | zero => intro g533818 g533819 gl533820 bg533818 bg533819 x533821 x533822 kt158_533823 hm158_533822; exact absurd hm158_533822 (Nat.not_lt_zero _)
                                | succ n158_533822 ih158_533822 =>
                                  intro g533818 g533819 gl533820 bg533818 bg533819 x533821 x533822 kt158_533823 hm158_533822
                                  refine G_iload 0 dr_cX17_findDepth_158 rfl ?_
                                  refine G_aload_n 7 dr_cX17_findDepth_160 rfl ?_
                                  have fq533824 : fI (F531334 q408061) 3 = p528477 := by rw [he531341]; rfl
                                  refine Gw_callV (As := []) (gV_ok D I) (cp_12780_Code_size l hl0 D I P408058 F531334 q408061 q528474 q528475 p528476 p528477 hm528472 he531341) dr_cX17_findDepth_161 ⟨wr_10_160, wr_1_15, wr_9_131, by decide, rfl, (Nat.le_of_ble_eq_true rfl), (Nat.le_of_ble_eq_true rfl)⟩ wr_9_129 wr_9_130 hm528472 he531341 rfl (show 0 + 0 ≤ 0 by first | omega | decide) (show 0 + 0 ≤ 0 by first | omega | decide) (Nat.le_of_ble_eq_true rfl) (fun r533828 w533829 dc533825 ds533826 hp533827 => ?_) (fun _ _ _ _ _ z => z.elim)
                                  obtain ⟨rfl, rfl, hdc, hds⟩ := hp533827
                                  change G _ _ _ _ _ _ _ (.int p528477 :: _) _ _ _
                                  refine G_widen (cs' := 0) (sl' := 0) (by omega) (by omega) ?_
                                  refine G_icmp_ge 294 dr_cX17_findDepth_164 (by decide +kernel) (fun hc533830 => ?_) (fun hc533830 => ?_)
                                  · have r533831 : p528477.toInt ≤ g533818.toInt := gC_le hc533830
                                    have bg533818' : gB g533818 1 1000000 := ⟨by omega, by omega⟩
                                    have hx533832 : tl_RModel_findDepth2_158 D I γ el gl533455 F531334 q408061 ol528508 g531333 (0 : Int32) (0 : Int32) gl533455 294 g533819 gl533820 := kt158_533823 294 g533819 gl533820 (fun R c1 c2 c3 c4 c5 => c1 g533818 g533819 gl533820 p528477 bg533818 bg533819 x533821 x533822 fq533824 r533831)
                                    refine G_goto 147 dr_cX17_findDepth_294 (by decide +kernel) ?_
                                    refine G_lv (L' := [(9, .int g533819), (7, .long gl533820), (5, .long u531442), (4, .int g531333), (2, .long ol528508), (0, .ref q408060), (1, .ref q408061)]) [1, 2, 3, 4, 5, 6, 7] rfl ?_
                                    exact ih147_533456 g533819 gl533820 bg533819 (rpop_le gl533820) (fun k e1 ht => kt147_533457 k e1 (fun R c1 c2 => c2 g533454 gl533455 g533819 gl533820 k e1 bg533454 x533456 r533543 hx533832 (ht R c1 c2))) (by omega)
                                  · have r533833 : g533818.toInt < p528477.toInt := gC_nle hc533830
                                    have bg533818' : gB g533818 0 999999 := ⟨by omega, by omega⟩
                                    refine G_lload 2 dr_cX17_findDepth_167 rfl ?_
                                    refine G_iload 0 dr_cX17_findDepth_169 rfl ?_
                                    refine G_lushr dr_cX17_findDepth_171 (G_namL fun u533834 hu533834 => ?_)
                                    refine G_lconst 1 dr_cX17_findDepth_172 rfl ?_
                                    refine G_land dr_cX17_findDepth_173 (G_namL fun u533835 hu533835 => ?_)
                                    refine G_lconst 0 dr_cX17_findDepth_174 rfl ?_
                                    refine G_lcmp dr_cX17_findDepth_175 (G_nam fun z533836 hz533836 => ?_)
                                    have bz533836 : gB z533836 (-1) 1 := gB_cmp hz533836
                                    refine G_if_ne 288 dr_cX17_findDepth_176 (by decide +kernel) (fun hc533837 => ?_) (fun hc533837 => ?_)
                                    · have r533838 : z533836.toInt ≠ 0 := gj_neq hc533837 (show Int32.toInt 0 = 0 by decide)
                                      have lhc533837 := gC_cmpN hz533836 hc533837
                                      obtain ⟨z533839, hz533839⟩ : ∃ z : Int32, z = g533818 + Int32.ofInt 1 := ⟨_, rfl⟩
                                      have ez533839 : z533839.toInt = g533818.toInt + 1 := gI_inc hz533839 (by decide) bg533818' (by decide) (by decide)
                                      have bz533839 : gB z533839 1 1000000 := ⟨by omega, by omega⟩
                                      refine G_iinc (L' := [(10, .int z533839), (9, .int g533819), (7, .long gl533820), (5, .long u531442), (4, .int g531333), (2, .long ol528508), (0, .ref q408060), (1, .ref q408061)]) z533839 0 dr_cX17_findDepth_288 rfl hz533839.symm (Nat.le_of_ble_eq_true rfl) rfl ?_
                                      refine G_goto 158 dr_cX17_findDepth_291 (by decide +kernel) ?_
                                      exact ih158_533822 z533839 g533819 gl533820 (gB_w bz533839 (by decide) (by decide)) bg533819 (rpop_le gl533820) (by omega) (fun k e1 e2 ht => kt158_533823 k e1 e2 (fun R c1 c2 c3 c4 c5 => c2 g533818 g533819 gl533820 p528477 u533834 u533835 z533839 k e1 e2 bg533818 bg533819 x533821 x533822 fq533824 r533833 hu533834 hu533835 lhc533837 ez533839 (ht R c1 c2 c3 c4 c5))) (mz_up ez533839 (Int.le_trans bg533818'.2 (by decide)) hm158_533822)
                                    · have r533840 : z533836.toInt = 0 := gj_eq hc533837 (show Int32.toInt 0 = 0 by decide)
                                      have bz533836' : gB z533836 0 0 := ⟨by omega, by omega⟩
                                      have lhc533837 := gC_cmpE hz533836 hc533837
                                      have zhc533837 := rbit_0 hu533834 hu533835 lhc533837 (by omega) (by omega)
                                      refine G_lload_n 5 dr_cX17_findDepth_179 rfl ?_
                                      refine G_iload 0 dr_cX17_findDepth_180 rfl ?_
                                      refine G_lushr dr_cX17_findDepth_182 (G_namL fun u533841 hu533841 => ?_)
                                      refine G_lconst 1 dr_cX17_findDepth_183 rfl ?_
                                      refine G_land dr_cX17_findDepth_184 (G_namL fun u533842 hu533842 => ?_)
                                      refine G_lconst 0 dr_cX17_findDepth_185 rfl ?_
                                      refine G_lcmp dr_cX17_findDepth_186 (G_nam fun z533843 hz533843 => ?_)
                                      have bz533843 : gB z533843 (-1) 1 := gB_cmp hz533843
                                      refine G_if_ne 193 dr_cX17_findDepth_187 (by decide +kernel) (fun hc533844 => ?_) (fun hc533844 => ?_)
                                      · have r533845 : z533843.toInt ≠ 0 := gj_neq hc533844 (show Int32.toInt 0 = 0 by decide)
                                        have lhc533844 := gC_cmpN hz533843 hc533844
                                        refine G_iconst 0 dr_cX17_findDepth_193 (by decide +kernel) ?_
                                        refine G_istore (L' := [(11, .int 0), (10, .int g533818), (9, .int g533819), (7, .long gl533820), (5, .long u531442), (4, .int g531333), (2, .long ol528508), (0, .ref q408060), (1, .ref q408061)]) dr_cX17_findDepth_194 (Nat.le_of_ble_eq_true rfl) rfl ?_
                                        refine G_iconst 0 dr_cX17_findDepth_196 (by decide +kernel) ?_
                                        refine G_istore (L' := [(12, .int 0), (11, .int 0), (10, .int g533818), (9, .int g533819), (7, .long gl533820), (5, .long u531442), (4, .int g531333), (2, .long ol528508), (0, .ref q408060), (1, .ref q408061)]) dr_cX17_findDepth_197 (Nat.le_of_ble_eq_true rfl) rfl ?_
                                        have hlp199_533971 : ∀ (n199_533971 : Nat) (g533970 : Int32) (g533971 : Int32), gB g533970 0 2 → gB g533971 0 1 → (∀ (k : Nat) (e1 : Int32), tl_RModel_findDepth2_199 D I γ el F531334 q408061 g533818 g531333 gl533820 g533970 g533971 k e1 → tl_RModel_findDepth2_199 D I γ el F531334 q408061 g533818 g531333 gl533820 (0 : Int32) (0 : Int32) k e1) → ((3 : Int) - g533970.toInt).toNat < n199_533971 → G (gV D I) l (gRm 5 112 0 0) (gMA (gV D I) (pt_408063_SpillForgeModel_findDepth D I γ el P408058 F408059 q408060 q408061) gNA 0 0) ky_408063_SpillForgeModel_findDepth 199 [(12, .int g533970), (11, .int g533971), (10, .int g533818), (9, .int g533819), (7, .long gl533820), (5, .long u531442), (4, .int g531333), (2, .long ol528508), (0, .ref q408060), (1, .ref q408061)] [] (va_pl P408058 F531334) 0 0 := by
                                          intro n199_533971
                                          induction n199_533971 with
                                          | zero => intro g533970 g533971 bg533970 bg533971 kt199_533972 hm199_533971; exact absurd hm199_533971 (Nat.not_lt_zero _)
                                          | succ n199_533971 ih199_533971 =>
                                            intro g533970 g533971 bg533970 bg533971 kt199_533972 hm199_533971
                                            refine G_iload 0 dr_cX17_findDepth_199 rfl ?_
                                            refine G_aload_n 9 dr_cX17_findDepth_201 rfl ?_
                                            refine G_iload 2 dr_cX17_findDepth_202 rfl ?_
                                            have hm533973 : q528474 ∈ P408058 := RS_m hT531335 ht528478 (by decide)
                                            obtain ⟨⟨p533975, p533976, q533977, he533974, r533978, r533979, r533980, r533982⟩, r533981⟩ := show rk_4 D I γ el F531334 q528474 from RS_o hT531335 ht528478
                                            have bp533975 := gB_any p533975
                                            have bp533976 : gB p533976 0 1000000 := ⟨by omega, by omega⟩
                                            obtain ⟨r533983, r533984, n533991, f533992, r533985, r533986, r533987, r533988, r533989, r533990⟩ := rLC_n r533980 (by omega)
                                            have hm533993 : q533977 ∈ P408058 := RS_m hT531335 r533983 (by decide)
                                            obtain ⟨q533994, hx533995⟩ : ∃ x, x = el q528474 g533818.toInt.toNat := ⟨_, rfl⟩
                                            have fq533999 : fR (F531334 q408061) 0 = q528474 := by rw [he531341]; rfl
                                            have hx533996 : f533992 g533818.toNatClampNeg = some q533994 := (r533989 _ (show g533818.toInt.toNat < γ 2 q528474 by omega)).trans (by rw [hx533995])
                                            have ht534000 : rKd γ q533994 2 := by rw [hx533995]; exact (r528489 _ (by omega)).resolve_right (fun z => absurd z.1 (by omega))
                                            have ht534001 : rFm γ q533994 q528474 := by rw [hx533995]; exact (r533981 _ (show g533818.toInt.toNat < γ 2 q528474 by omega)).2.1
                                            have hm534002 : q533994 ∈ P408058 := RS_m hT531335 ht534000 (by decide)
                                            obtain ⟨q534004, q534005, p534006, p534007, he534003, ht534014, ht534008, ht534009, ht534010, ht534011, ht534012, bp534006, bp534007, r534013, r534015, r534016⟩ := show rk_2 γ q533994 (F531334 q533994) from RS_o hT531335 ht534000
                                            have fq534017 : fI (F531334 q528474) 2 = p533976 := by rw [he533974]; rfl
                                            refine Gw_callV (As := [.int g533818]) (gV_ok D I) (cp_7901_Code_get l hl0 D I P408058 F531334 q408061 q528474 q533977 g533818 q528475 p528476 p528477 p533975 p533976 f533992 n533991 q533994 q534004 q534005 p534006 p534007 hm528472 hm533973 hm533993 hm534002 he531341 he533974 r533985 he534003 (gB_w bg533818' (by decide) (by decide)) (gB_w bp533976 (by decide) (by decide)) (by omega) (by omega) (by assumption) (by omega)) dr_cX17_findDepth_204 ⟨wr_10_161, wr_1_15, wr_10_141, by decide, rfl, (Nat.le_of_ble_eq_true rfl), (Nat.le_of_ble_eq_true rfl)⟩ wr_10_139 wr_10_140 hm528472 he531341 rfl (show 0 + 0 ≤ 0 by first | omega | decide) (show 0 + 0 ≤ 0 by first | omega | decide) (Nat.le_of_ble_eq_true rfl) (fun r534021 w534022 dc534018 ds534019 hp534020 => ?_) (fun _ _ _ _ _ z => z.elim)
                                            obtain ⟨rfl, rfl, hdc, hds, ht534023⟩ := hp534020
                                            change G _ _ _ _ _ _ _ (.ref q533994 :: _) _ _ _
                                            refine G_widen (cs' := 0) (sl' := 0) (by omega) (by omega) ?_
                                            have hm534024 : q534005 ∈ P408058 := RS_m hT531335 ht534010 (by decide)
                                            obtain ⟨p534026, p534027, p534028, p534029, p534030, p534031, p534032, he534025, bp534026, bp534027, bp534030, bp534031, bp534032, r534033, r534034, r534035, r534036, r534037⟩ := show rk_1 γ q534005 (F531334 q534005) from RS_o hT531335 ht534010
                                            have bp534028 := gB_any p534028
                                            have bp534029 := gB_any p534029
                                            have fq534038 : fI (F531334 q533994) 2 = p534006 := by rw [he534003]; rfl
                                            have fq534039 : fI (F531334 q533994) 3 = p534007 := by rw [he534003]; rfl
                                            have fq534040 : fR (F531334 q533994) 1 = q534005 := by rw [he534003]; rfl
                                            have fq534041 : fI (F531334 q534005) 0 = p534026 := by rw [he534025]; rfl
                                            refine Gw_callV (As := []) (gV_ok D I) (cp_1816_Block_ways l hl0 D I P408058 F531334 q533994 q534005 q534004 p534006 p534007 p534026 p534027 p534028 p534029 p534030 p534031 p534032 hm534002 hm534024 he534003 he534025 bp534006 bp534007 bp534026 bp534027 bp534030 bp534031 bp534032) dr_cX17_findDepth_207 ⟨wr_10_166, wr_1_38, wr_10_169, by decide, rfl, (Nat.le_of_ble_eq_true rfl), (Nat.le_of_ble_eq_true rfl)⟩ wr_10_167 wr_10_168 hm534002 he534003 rfl (show 0 + 0 ≤ 0 by first | omega | decide) (show 0 + 0 ≤ 0 by first | omega | decide) (Nat.le_of_ble_eq_true rfl) (fun r534045 w534046 dc534042 ds534043 hp534044 => ?_) (fun _ _ _ _ _ z => z.elim)
                                            obtain ⟨o534047, rfl, rfl, hdc, hds, bo534047, ht534048⟩ := hp534044
                                            change G _ _ _ _ _ _ _ (.int o534047 :: _) _ _ _
                                            refine G_widen (cs' := 0) (sl' := 0) (by omega) (by omega) ?_
                                            refine G_icmp_ge 268 dr_cX17_findDepth_210 (by decide +kernel) (fun hc534049 => ?_) (fun hc534049 => ?_)
                                            · have r534050 : o534047.toInt ≤ g533970.toInt := gC_le hc534049
                                              have hx534051 : tl_RModel_findDepth2_199 D I γ el F531334 q408061 g533818 g531333 gl533820 (0 : Int32) (0 : Int32) 268 g533971 := kt199_533972 268 g533971 (fun R c1 c2 c3 c4 c5 => c1 g533970 g533971 q528474 q533994 p533976 p534006 p534007 q534005 p534026 o534047 bg533970 bg533971 fq533999 hx533995 fq534017 ht534023 fq534038 fq534039 fq534040 fq534041 bo534047 ht534048 r534050)
                                              refine G_iload 1 dr_cX17_findDepth_268 rfl ?_
                                              refine G_if_ne 276 dr_cX17_findDepth_270 (by decide +kernel) (fun hc534052 => ?_) (fun hc534052 => ?_)
                                              · have r534053 : g533971.toInt ≠ 0 := gj_neq hc534052 (show Int32.toInt 0 = 0 by decide)
                                                have bg533971' : gB g533971 1 1 := gB_t1 bg533971 r534053
                                                refine G_lload 4 dr_cX17_findDepth_276 rfl ?_
                                                refine G_lconst 1 dr_cX17_findDepth_278 rfl ?_
                                                refine G_iload 2 dr_cX17_findDepth_279 rfl ?_
                                                refine G_lshl dr_cX17_findDepth_281 (G_namL fun u534054 hu534054 => ?_)
                                                have qu534054 : lb_Q u534054 (g533818.toInt % 64 + 1) := lb_Qshl hu534054 (by omega)
                                                refine G_lor dr_cX17_findDepth_282 (G_namL fun u534055 hu534055 => ?_)
                                                have pmu534055 : rpop gl533820 ≤ rpop u534055 := rpop_or hu534055
                                                have pnu534055 : rpop gl533820 + 1 ≤ rpop u534055 := rpop_new hu534055 hu534054 (by omega) (by omega) zhc533837
                                                refine G_lstore (L' := [(7, .long u534055), (12, .int g533970), (11, .int g533971), (10, .int g533818), (9, .int g533819), (5, .long u531442), (4, .int g531333), (2, .long ol528508), (0, .ref q408060), (1, .ref q408061)]) dr_cX17_findDepth_283 (Nat.le_of_ble_eq_true rfl) rfl ?_
                                                refine G_iconst 1 dr_cX17_findDepth_285 (by decide +kernel) ?_
                                                refine G_istore (L' := [(9, .int 1), (7, .long u534055), (12, .int g533970), (11, .int g533971), (10, .int g533818), (5, .long u531442), (4, .int g531333), (2, .long ol528508), (0, .ref q408060), (1, .ref q408061)]) dr_cX17_findDepth_286 (Nat.le_of_ble_eq_true rfl) rfl ?_
                                                obtain ⟨z534056, hz534056⟩ : ∃ z : Int32, z = g533818 + Int32.ofInt 1 := ⟨_, rfl⟩
                                                have ez534056 : z534056.toInt = g533818.toInt + 1 := gI_inc hz534056 (by decide) bg533818' (by decide) (by decide)
                                                have bz534056 : gB z534056 1 1000000 := ⟨by omega, by omega⟩
                                                refine G_iinc (L' := [(10, .int z534056), (9, .int 1), (7, .long u534055), (12, .int g533970), (11, .int g533971), (5, .long u531442), (4, .int g531333), (2, .long ol528508), (0, .ref q408060), (1, .ref q408061)]) z534056 4 dr_cX17_findDepth_288 rfl hz534056.symm (Nat.le_of_ble_eq_true rfl) rfl ?_
                                                refine G_goto 158 dr_cX17_findDepth_291 (by decide +kernel) ?_
                                                refine G_lv (L' := [(10, .int z534056), (9, .int 1), (7, .long u534055), (5, .long u531442), (4, .int g531333), (2, .long ol528508), (0, .ref q408060), (1, .ref q408061)]) [0, 1, 2, 5, 6, 7, 8, 9] rfl ?_
                                                exact ih158_533822 z534056 1 u534055 (gB_w bz534056 (by decide) (by decide)) (gB_w (gBl (show Int32.toInt 1 = 1 by decide)) (by decide) (by decide)) (rpop_le u534055) (by have qa0 : Int32.toInt 1 = 1 := (by decide); omega) (fun k e1 e2 ht => kt158_533823 k e1 e2 (fun R c1 c2 c3 c4 c5 => c3 g533818 g533819 gl533820 p528477 u533834 u533835 u533841 u533842 g533971 u534054 u534055 z534056 k e1 e2 bg533818 bg533819 x533821 x533822 fq533824 r533833 hu533834 hu533835 lhc533837 hu533841 hu533842 lhc533844 hx534051 r534053 hu534054 hu534055 ez534056 (ht R c1 c2 c3 c4 c5))) (mz_up ez534056 (Int.le_trans bg533818'.2 (by decide)) hm158_533822)
                                              · have r534057 : g533971.toInt = 0 := gj_eq hc534052 (show Int32.toInt 0 = 0 by decide)
                                                have bg533971' : gB g533971 0 0 := gB_t0 r534057
                                                refine G_goto 288 dr_cX17_findDepth_273 (by decide +kernel) ?_
                                                obtain ⟨z534058, hz534058⟩ : ∃ z : Int32, z = g533818 + Int32.ofInt 1 := ⟨_, rfl⟩
                                                have ez534058 : z534058.toInt = g533818.toInt + 1 := gI_inc hz534058 (by decide) bg533818' (by decide) (by decide)
                                                have bz534058 : gB z534058 1 1000000 := ⟨by omega, by omega⟩
                                                refine G_iinc (L' := [(10, .int z534058), (12, .int g533970), (11, .int g533971), (9, .int g533819), (7, .long gl533820), (5, .long u531442), (4, .int g531333), (2, .long ol528508), (0, .ref q408060), (1, .ref q408061)]) z534058 2 dr_cX17_findDepth_288 rfl hz534058.symm (Nat.le_of_ble_eq_true rfl) rfl ?_
                                                refine G_goto 158 dr_cX17_findDepth_291 (by decide +kernel) ?_
                                                refine G_lv (L' := [(10, .int z534058), (9, .int g533819), (7, .long gl533820), (5, .long u531442), (4, .int g531333), (2, .long ol528508), (0, .ref q408060), (1, .ref q408061)]) [0, 3, 4, 5, 6, 7, 8, 9] rfl ?_
                                                exact ih158_533822 z534058 g533819 gl533820 (gB_w bz534058 (by decide) (by decide)) bg533819 (rpop_le gl533820) (by omega) (fun k e1 e2 ht => kt158_533823 k e1 e2 (fun R c1 c2 c3 c4 c5 => c4 g533818 g533819 gl533820 p528477 u533834 u533835 u533841 u533842 g533971 z534058 k e1 e2 bg533818 bg533819 x533821 x533822 fq533824 r533833 hu533834 hu533835 lhc533837 hu533841 hu533842 lhc533844 hx534051 r534057 ez534058 (ht R c1 c2 c3 c4 c5))) (mz_up ez534058 (Int.le_trans bg533818'.2 (by decide)) hm158_533822)
                                            · have r534059 : g533970.toInt < o534047.toInt := gC_nle hc534049
                                              have bg533970' : gB g533970 0 1 := ⟨by omega, by omega⟩
                                              have bo534047' : gB o534047 1 2 := ⟨by omega, by omega⟩
                                              refine G_iload 1 dr_cX17_findDepth_213 rfl ?_
                                              refine G_if_ne 255 dr_cX17_findDepth_215 (by decide +kernel) (fun hc534060 => ?_) (fun hc534060 => ?_)
                                              · have r534061 : g533971.toInt ≠ 0 := gj_neq hc534060 (show Int32.toInt 0 = 0 by decide)
                                                have bg533971' : gB g533971 1 1 := gB_t1 bg533971 r534061
                                                refine G_iconst 1 dr_cX17_findDepth_255 (by decide +kernel) ?_
                                                refine G_goto 260 dr_cX17_findDepth_256 (by decide +kernel) ?_
                                                refine G_istore (L' := [(11, .int 1), (12, .int g533970), (10, .int g533818), (9, .int g533819), (7, .long gl533820), (5, .long u531442), (4, .int g531333), (2, .long ol528508), (0, .ref q408060), (1, .ref q408061)]) dr_cX17_findDepth_260 (Nat.le_of_ble_eq_true rfl) rfl ?_
                                                obtain ⟨z534062, hz534062⟩ : ∃ z : Int32, z = g533970 + Int32.ofInt 1 := ⟨_, rfl⟩
                                                have ez534062 : z534062.toInt = g533970.toInt + 1 := gI_inc hz534062 (by decide) bg533970' (by decide) (by decide)
                                                have bz534062 : gB z534062 1 2 := ⟨by omega, by omega⟩
                                                refine G_iinc (L' := [(12, .int z534062), (11, .int 1), (10, .int g533818), (9, .int g533819), (7, .long gl533820), (5, .long u531442), (4, .int g531333), (2, .long ol528508), (0, .ref q408060), (1, .ref q408061)]) z534062 1 dr_cX17_findDepth_262 rfl hz534062.symm (Nat.le_of_ble_eq_true rfl) rfl ?_
                                                refine G_goto 199 dr_cX17_findDepth_265 (by decide +kernel) ?_
                                                exact ih199_533971 z534062 1 (gB_w bz534062 (by decide) (by decide)) (gB_w (gBl (show Int32.toInt 1 = 1 by decide)) (by decide) (by decide)) (fun k e1 ht => kt199_533972 k e1 (fun R c1 c2 c3 c4 c5 => c2 g533970 g533971 q528474 q533994 p533976 p534006 p534007 q534005 p534026 o534047 z534062 k e1 bg533970 bg533971 fq533999 hx533995 fq534017 ht534023 fq534038 fq534039 fq534040 fq534041 bo534047 ht534048 r534059 r534061 ez534062 (ht R c1 c2 c3 c4 c5))) (mz_up ez534062 (Int.le_trans bg533970'.2 (by decide)) hm199_533971)
                                              · have r534063 : g533971.toInt = 0 := gj_eq hc534060 (show Int32.toInt 0 = 0 by decide)
                                                have bg533971' : gB g533971 0 0 := gB_t0 r534063
                                                refine G_aload_n 9 dr_cX17_findDepth_218 rfl ?_
                                                refine G_iload 2 dr_cX17_findDepth_219 rfl ?_
                                                refine Gw_callV (As := [.int g533818]) (gV_ok D I) (cp_7901_Code_get l hl0 D I P408058 F531334 q408061 q528474 q533977 g533818 q528475 p528476 p528477 p533975 p533976 f533992 n533991 q533994 q534004 q534005 p534006 p534007 hm528472 hm533973 hm533993 hm534002 he531341 he533974 r533985 he534003 (gB_w bg533818' (by decide) (by decide)) (gB_w bp533976 (by decide) (by decide)) (by omega) (by omega) (by assumption) (by omega)) dr_cX17_findDepth_221 ⟨wr_10_161, wr_1_15, wr_10_141, by decide, rfl, (Nat.le_of_ble_eq_true rfl), (Nat.le_of_ble_eq_true rfl)⟩ wr_10_139 wr_10_140 hm528472 he531341 rfl (show 0 + 0 ≤ 0 by first | omega | decide) (show 0 + 0 ≤ 0 by first | omega | decide) (Nat.le_of_ble_eq_true rfl) (fun r534067 w534068 dc534064 ds534065 hp534066 => ?_) (fun _ _ _ _ _ z => z.elim)
                                                obtain ⟨rfl, rfl, hdc, hds, ht534069⟩ := hp534066
                                                change G _ _ _ _ _ _ _ (.ref q533994 :: _) _ _ _
                                                refine G_widen (cs' := 0) (sl' := 0) (by omega) (by omega) ?_
                                                refine G_iload 0 dr_cX17_findDepth_224 rfl ?_
                                                refine Gw_callV (As := [.int g533970]) (gV_ok D I) (cp_5159_Block_way l hl0 D I P408058 F531334 q533994 q534005 g533970 q534004 p534006 p534007 p534026 p534027 p534028 p534029 p534030 p534031 p534032 hm534002 hm534024 he534003 he534025 bp534006 bp534007 bp534026 bp534027 bp534030 bp534031 bp534032) dr_cX17_findDepth_226 ⟨wr_10_170, wr_1_38, wr_10_173, by decide, rfl, (Nat.le_of_ble_eq_true rfl), (Nat.le_of_ble_eq_true rfl)⟩ wr_10_171 wr_10_172 hm534002 he534003 rfl (show 0 + 0 ≤ 0 by first | omega | decide) (show 0 + 0 ≤ 0 by first | omega | decide) (Nat.le_of_ble_eq_true rfl) (fun r534073 w534074 dc534070 ds534071 hp534072 => ?_) (fun _ _ _ _ _ z => z.elim)
                                                obtain ⟨o534075, rfl, rfl, hdc, hds, bo534075, ht534076⟩ := hp534072
                                                change G _ _ _ _ _ _ _ (.int o534075 :: _) _ _ _
                                                refine G_widen (cs' := 0) (sl' := 0) (by omega) (by omega) ?_
                                                refine G_iload 6 dr_cX17_findDepth_229 rfl ?_
                                                refine G_icmp_eq 259 dr_cX17_findDepth_231 (by decide +kernel) (fun hc534077 => ?_) (fun hc534077 => ?_)
                                                · have r534078 : o534075.toInt = g531333.toInt := gC_eq hc534077
                                                  have bg531333'' : gB g531333 0 39 := ⟨by omega, by omega⟩
                                                  refine G_iconst 0 dr_cX17_findDepth_259 (by decide +kernel) ?_
                                                  refine G_istore (L' := [(11, .int 0), (12, .int g533970), (10, .int g533818), (9, .int g533819), (7, .long gl533820), (5, .long u531442), (4, .int g531333), (2, .long ol528508), (0, .ref q408060), (1, .ref q408061)]) dr_cX17_findDepth_260 (Nat.le_of_ble_eq_true rfl) rfl ?_
                                                  obtain ⟨z534079, hz534079⟩ : ∃ z : Int32, z = g533970 + Int32.ofInt 1 := ⟨_, rfl⟩
                                                  have ez534079 : z534079.toInt = g533970.toInt + 1 := gI_inc hz534079 (by decide) bg533970' (by decide) (by decide)
                                                  have bz534079 : gB z534079 1 2 := ⟨by omega, by omega⟩
                                                  refine G_iinc (L' := [(12, .int z534079), (11, .int 0), (10, .int g533818), (9, .int g533819), (7, .long gl533820), (5, .long u531442), (4, .int g531333), (2, .long ol528508), (0, .ref q408060), (1, .ref q408061)]) z534079 1 dr_cX17_findDepth_262 rfl hz534079.symm (Nat.le_of_ble_eq_true rfl) rfl ?_
                                                  refine G_goto 199 dr_cX17_findDepth_265 (by decide +kernel) ?_
                                                  exact ih199_533971 z534079 0 (gB_w bz534079 (by decide) (by decide)) (gB_w (gBl (show Int32.toInt 0 = 0 by decide)) (by decide) (by decide)) (fun k e1 ht => kt199_533972 k e1 (fun R c1 c2 c3 c4 c5 => c3 g533970 g533971 q528474 q533994 p533976 p534006 p534007 q534005 p534026 o534047 o534075 z534079 k e1 bg533970 bg533971 fq533999 hx533995 fq534017 ht534023 fq534038 fq534039 fq534040 fq534041 bo534047 ht534048 r534059 r534063 ht534069 bo534075 ht534076 r534078 ez534079 (ht R c1 c2 c3 c4 c5))) (mz_up ez534079 (Int.le_trans bg533970'.2 (by decide)) hm199_533971)
                                                · have r534080 : o534075.toInt ≠ g531333.toInt := gC_ne hc534077
                                                  refine G_lload 4 dr_cX17_findDepth_234 rfl ?_
                                                  refine G_aload_n 9 dr_cX17_findDepth_236 rfl ?_
                                                  refine G_iload 2 dr_cX17_findDepth_237 rfl ?_
                                                  refine Gw_callV (As := [.int g533818]) (gV_ok D I) (cp_7901_Code_get l hl0 D I P408058 F531334 q408061 q528474 q533977 g533818 q528475 p528476 p528477 p533975 p533976 f533992 n533991 q533994 q534004 q534005 p534006 p534007 hm528472 hm533973 hm533993 hm534002 he531341 he533974 r533985 he534003 (gB_w bg533818' (by decide) (by decide)) (gB_w bp533976 (by decide) (by decide)) (by omega) (by omega) (by assumption) (by omega)) dr_cX17_findDepth_239 ⟨wr_10_161, wr_1_15, wr_10_141, by decide, rfl, (Nat.le_of_ble_eq_true rfl), (Nat.le_of_ble_eq_true rfl)⟩ wr_10_139 wr_10_140 hm528472 he531341 rfl (show 0 + 0 ≤ 0 by first | omega | decide) (show 0 + 0 ≤ 0 by first | omega | decide) (Nat.le_of_ble_eq_true rfl) (fun r534084 w534085 dc534081 ds534082 hp534083 => ?_) (fun _ _ _ _ _ z => z.elim)
                                                  obtain ⟨rfl, rfl, hdc, hds, ht534086⟩ := hp534083
                                                  change G _ _ _ _ _ _ _ (.ref q533994 :: _) _ _ _
                                                  refine G_widen (cs' := 0) (sl' := 0) (by omega) (by omega) ?_
                                                  refine G_iload 0 dr_cX17_findDepth_242 rfl ?_
                                                  refine Gw_callV (As := [.int g533970]) (gV_ok D I) (cp_5159_Block_way l hl0 D I P408058 F531334 q533994 q534005 g533970 q534004 p534006 p534007 p534026 p534027 p534028 p534029 p534030 p534031 p534032 hm534002 hm534024 he534003 he534025 bp534006 bp534007 bp534026 bp534027 bp534030 bp534031 bp534032) dr_cX17_findDepth_244 ⟨wr_10_170, wr_1_38, wr_10_173, by decide, rfl, (Nat.le_of_ble_eq_true rfl), (Nat.le_of_ble_eq_true rfl)⟩ wr_10_171 wr_10_172 hm534002 he534003 rfl (show 0 + 0 ≤ 0 by first | omega | decide) (show 0 + 0 ≤ 0 by first | omega | decide) (Nat.le_of_ble_eq_true rfl) (fun r534090 w534091 dc534087 ds534088 hp534089 => ?_) (fun _ _ _ _ _ z => z.elim)
                                                  obtain ⟨o534092, rfl, rfl, hdc, hds, bo534092, ht534093⟩ := hp534089
                                                  change G _ _ _ _ _ _ _ (.int o534092 :: _) _ _ _
                                                  refine G_widen (cs' := 0) (sl' := 0) (by omega) (by omega) ?_
                                                  refine G_lushr dr_cX17_findDepth_247 (G_namL fun u534094 hu534094 => ?_)
                                                  refine G_lconst 1 dr_cX17_findDepth_248 rfl ?_
                                                  refine G_land dr_cX17_findDepth_249 (G_namL fun u534095 hu534095 => ?_)
                                                  refine G_lconst 0 dr_cX17_findDepth_250 rfl ?_
                                                  refine G_lcmp dr_cX17_findDepth_251 (G_nam fun z534096 hz534096 => ?_)
                                                  have bz534096 : gB z534096 (-1) 1 := gB_cmp hz534096
                                                  refine G_if_eq 259 dr_cX17_findDepth_252 (by decide +kernel) (fun hc534097 => ?_) (fun hc534097 => ?_)
                                                  · have r534098 : z534096.toInt = 0 := gj_eq hc534097 (show Int32.toInt 0 = 0 by decide)
                                                    have bz534096' : gB z534096 0 0 := ⟨by omega, by omega⟩
                                                    have lhc534097 := gC_cmpE hz534096 hc534097
                                                    have zhc534097 := rbit_0 hu534094 hu534095 lhc534097 (by omega) (by omega)
                                                    refine G_iconst 0 dr_cX17_findDepth_259 (by decide +kernel) ?_
                                                    refine G_istore (L' := [(11, .int 0), (12, .int g533970), (10, .int g533818), (9, .int g533819), (7, .long gl533820), (5, .long u531442), (4, .int g531333), (2, .long ol528508), (0, .ref q408060), (1, .ref q408061)]) dr_cX17_findDepth_260 (Nat.le_of_ble_eq_true rfl) rfl ?_
                                                    obtain ⟨z534099, hz534099⟩ : ∃ z : Int32, z = g533970 + Int32.ofInt 1 := ⟨_, rfl⟩
                                                    have ez534099 : z534099.toInt = g533970.toInt + 1 := gI_inc hz534099 (by decide) bg533970' (by decide) (by decide)
                                                    have bz534099 : gB z534099 1 2 := ⟨by omega, by omega⟩
                                                    refine G_iinc (L' := [(12, .int z534099), (11, .int 0), (10, .int g533818), (9, .int g533819), (7, .long gl533820), (5, .long u531442), (4, .int g531333), (2, .long ol528508), (0, .ref q408060), (1, .ref q408061)]) z534099 1 dr_cX17_findDepth_262 rfl hz534099.symm (Nat.le_of_ble_eq_true rfl) rfl ?_
                                                    refine G_goto 199 dr_cX17_findDepth_265 (by decide +kernel) ?_
                                                    exact ih199_533971 z534099 0 (gB_w bz534099 (by decide) (by decide)) (gB_w (gBl (show Int32.toInt 0 = 0 by decide)) (by decide) (by decide)) (fun k e1 ht => kt199_533972 k e1 (fun R c1 c2 c3 c4 c5 => c4 g533970 g533971 q528474 q533994 p533976 p534006 p534007 q534005 p534026 o534047 o534075 o534092 u534094 u534095 z534099 k e1 bg533970 bg533971 fq533999 hx533995 fq534017 ht534023 fq534038 fq534039 fq534040 fq534041 bo534047 ht534048 r534059 r534063 ht534069 bo534075 ht534076 r534080 ht534086 bo534092 ht534093 hu534094 hu534095 lhc534097 ez534099 (ht R c1 c2 c3 c4 c5))) (mz_up ez534099 (Int.le_trans bg533970'.2 (by decide)) hm199_533971)
                                                  · have r534100 : z534096.toInt ≠ 0 := gj_neq hc534097 (show Int32.toInt 0 = 0 by decide)
                                                    have lhc534097 := gC_cmpN hz534096 hc534097
                                                    refine G_iconst 1 dr_cX17_findDepth_255 (by decide +kernel) ?_
                                                    refine G_goto 260 dr_cX17_findDepth_256 (by decide +kernel) ?_
                                                    refine G_istore (L' := [(11, .int 1), (12, .int g533970), (10, .int g533818), (9, .int g533819), (7, .long gl533820), (5, .long u531442), (4, .int g531333), (2, .long ol528508), (0, .ref q408060), (1, .ref q408061)]) dr_cX17_findDepth_260 (Nat.le_of_ble_eq_true rfl) rfl ?_
                                                    obtain ⟨z534101, hz534101⟩ : ∃ z : Int32, z = g533970 + Int32.ofInt 1 := ⟨_, rfl⟩
                                                    have ez534101 : z534101.toInt = g533970.toInt + 1 := gI_inc hz534101 (by decide) bg533970' (by decide) (by decide)
                                                    have bz534101 : gB z534101 1 2 := ⟨by omega, by omega⟩
                                                    refine G_iinc (L' := [(12, .int z534101), (11, .int 1), (10, .int g533818), (9, .int g533819), (7, .long gl533820), (5, .long u531442), (4, .int g531333), (2, .long ol528508), (0, .ref q408060), (1, .ref q408061)]) z534101 1 dr_cX17_findDepth_262 rfl hz534101.symm (Nat.le_of_ble_eq_true rfl) rfl ?_
                                                    refine G_goto 199 dr_cX17_findDepth_265 (by decide +kernel) ?_
                                                    exact ih199_533971 z534101 1 (gB_w bz534101 (by decide) (by decide)) (gB_w (gBl (show Int32.toInt 1 = 1 by decide)) (by decide) (by decide)) (fun k e1 ht => kt199_533972 k e1 (fun R c1 c2 c3 c4 c5 => c5 g533970 g533971 q528474 q533994 p533976 p534006 p534007 q534005 p534026 o534047 o534075 o534092 u534094 u534095 z534101 k e1 bg533970 bg533971 fq533999 hx533995 fq534017 ht534023 fq534038 fq534039 fq534040 fq534041 bo534047 ht534048 r534059 r534063 ht534069 bo534075 ht534076 r534080 ht534086 bo534092 ht534093 hu534094 hu534095 lhc534097 ez534101 (ht R c1 c2 c3 c4 c5))) (mz_up ez534101 (Int.le_trans bg533970'.2 (by decide)) hm199_533971)
                                        exact hlp199_533971 (((3 : Int) - 0).toNat + 1) 0 0 (gB_w (gBl (show Int32.toInt 0 = 0 by decide)) (by decide) (by decide)) (gB_w (gBl (show Int32.toInt 0 = 0 by decide)) (by decide) (by decide)) (fun k e1 ht => ht) (Nat.lt_succ_self _)
                                      · have r534102 : z533843.toInt = 0 := gj_eq hc533844 (show Int32.toInt 0 = 0 by decide)
                                        have bz533843' : gB z533843 0 0 := ⟨by omega, by omega⟩
                                        have lhc533844 := gC_cmpE hz533843 hc533844
                                        refine G_goto 288 dr_cX17_findDepth_190 (by decide +kernel) ?_
                                        obtain ⟨z534103, hz534103⟩ : ∃ z : Int32, z = g533818 + Int32.ofInt 1 := ⟨_, rfl⟩
                                        have ez534103 : z534103.toInt = g533818.toInt + 1 := gI_inc hz534103 (by decide) bg533818' (by decide) (by decide)
                                        have bz534103 : gB z534103 1 1000000 := ⟨by omega, by omega⟩
                                        refine G_iinc (L' := [(10, .int z534103), (9, .int g533819), (7, .long gl533820), (5, .long u531442), (4, .int g531333), (2, .long ol528508), (0, .ref q408060), (1, .ref q408061)]) z534103 0 dr_cX17_findDepth_288 rfl hz534103.symm (Nat.le_of_ble_eq_true rfl) rfl ?_
                                        refine G_goto 158 dr_cX17_findDepth_291 (by decide +kernel) ?_
                                        exact ih158_533822 z534103 g533819 gl533820 (gB_w bz534103 (by decide) (by decide)) bg533819 (rpop_le gl533820) (by omega) (fun k e1 e2 ht => kt158_533823 k e1 e2 (fun R c1 c2 c3 c4 c5 => c5 g533818 g533819 gl533820 p528477 u533834 u533835 u533841 u533842 z534103 k e1 e2 bg533818 bg533819 x533821 x533822 fq533824 r533833 hu533834 hu533835 lhc533837 hu533841 hu533842 lhc533844 ez534103 (ht R c1 c2 c3 c4 c5))) (mz_up ez534103 (Int.le_trans bg533818'.2 (by decide)) hm158_533822)
                              exact hlp158_533822 (((1000001 : Int) - 0).toNat + 1) 0 0 gl533455 (gB_w (gBl (show Int32.toInt 0 = 0 by decide)) (by decide) (by decide)) (gB_w (gBl (show Int32.toInt 0 = 0 by decide)) (by decide) (by decide)) (rpop_le gl533455) (by have qa0 : Int32.toInt 0 = 0 := (by decide); omega) (fun k e1 e2 ht => ht) (Nat.lt_succ_self _)
                        exact hlp147_533456 ((64 - rpop u532818) + ((1 : Int)).toNat + 1) 1 u532818 (gB_w (gBl (show Int32.toInt 1 = 1 by decide)) (by decide) (by decide)) (rpop_le u532818) (fun k e1 ht => ht) (Nat.lt_succ_self _)
                      · have r534104 : z532814.toInt = 0 := gj_eq hc532815 (show Int32.toInt 0 = 0 by decide)
                        have bz532814' : gB z532814 0 0 := ⟨by omega, by omega⟩
                        have lhc532815 := gC_cmpE hz532814 hc532815
                        refine G_goto 333 dr_cX17_findDepth_132 (by decide +kernel) ?_
                        obtain ⟨z534105, hz534105⟩ : ∃ z : Int32, z = g531333 + Int32.ofInt 1 := ⟨_, rfl⟩
                        have ez534105 : z534105.toInt = g531333.toInt + 1 := gI_inc hz534105 (by decide) bg531333' (by decide) (by decide)
                        have bz534105 : gB z534105 1 1000000 := ⟨by omega, by omega⟩
                        refine G_iinc (L' := [(4, .int z534105), (9, .int g532802), (7, .long gl532803), (5, .long u531442), (2, .long ol528508), (0, .ref q408060), (1, .ref q408061)]) z534105 3 dr_cX17_findDepth_333 rfl hz534105.symm (Nat.le_of_ble_eq_true rfl) rfl ?_
                        refine G_goto 32 dr_cX17_findDepth_336 (by decide +kernel) ?_
                        refine G_lv (L' := [(4, .int z534105), (2, .long ol528508), (0, .ref q408060), (1, .ref q408061)]) [0, 4, 5, 6] rfl ?_
                        exact ih32_531338 F531334 z534105 (gB_w bz534105 (by decide) (by decide)) hT531335 hs531336 x531337 x531338 (fun k e1 ht => kt32_531339 k e1 (fun R c1 c2 c3 c4 => c3 F531334 g531333 p528477 u531429 u531430 ol531439 u531441 u531442 gl532803 z534105 k e1 bg531333 hT531335 hs531336 x531337 x531338 fq531345 r531428 hu531429 hu531430 lhc531432 ht531440 hu531441 hu531442 hx532813 lhc532815 ez534105 (ht R c1 c2 c3 c4))) (mz_up ez534105 (Int.le_trans bg531333'.2 (by decide)) hm32_531338)
                    · have r534106 : g532802.toInt < p528477.toInt := gC_nle hc532811
                      have bg532802' : gB g532802 0 999999 := ⟨by omega, by omega⟩
                      refine G_lload 2 dr_cX17_findDepth_84 rfl ?_
                      refine G_iload 0 dr_cX17_findDepth_86 rfl ?_
                      refine G_lushr dr_cX17_findDepth_88 (G_namL fun u534107 hu534107 => ?_)
                      refine G_lconst 1 dr_cX17_findDepth_89 rfl ?_
                      refine G_land dr_cX17_findDepth_90 (G_namL fun u534108 hu534108 => ?_)
                      refine G_lconst 0 dr_cX17_findDepth_91 rfl ?_
                      refine G_lcmp dr_cX17_findDepth_92 (G_nam fun z534109 hz534109 => ?_)
                      have bz534109 : gB z534109 (-1) 1 := gB_cmp hz534109
                      refine G_if_eq 119 dr_cX17_findDepth_93 (by decide +kernel) (fun hc534110 => ?_) (fun hc534110 => ?_)
                      · have r534111 : z534109.toInt = 0 := gj_eq hc534110 (show Int32.toInt 0 = 0 by decide)
                        have bz534109' : gB z534109 0 0 := ⟨by omega, by omega⟩
                        have lhc534110 := gC_cmpE hz534109 hc534110
                        obtain ⟨z534112, hz534112⟩ : ∃ z : Int32, z = g532802 + Int32.ofInt 1 := ⟨_, rfl⟩
                        have ez534112 : z534112.toInt = g532802.toInt + 1 := gI_inc hz534112 (by decide) bg532802' (by decide) (by decide)
                        have bz534112 : gB z534112 1 1000000 := ⟨by omega, by omega⟩
                        refine G_iinc (L' := [(9, .int z534112), (7, .long gl532803), (5, .long u531442), (4, .int g531333), (2, .long ol528508), (0, .ref q408060), (1, .ref q408061)]) z534112 0 dr_cX17_findDepth_119 rfl hz534112.symm (Nat.le_of_ble_eq_true rfl) rfl ?_
                        refine G_goto 75 dr_cX17_findDepth_122 (by decide +kernel) ?_
                        exact ih75_532803 z534112 gl532803 (gB_w bz534112 (by decide) (by decide)) (fun k e1 ht => kt75_532804 k e1 (fun R c1 c2 c3 c4 => c2 g532802 gl532803 p528477 u534107 u534108 z534112 k e1 bg532802 fq532805 r534106 hu534107 hu534108 lhc534110 ez534112 (ht R c1 c2 c3 c4))) (mz_up ez534112 (Int.le_trans bg532802'.2 (by decide)) hm75_532803)
                      · have r534113 : z534109.toInt ≠ 0 := gj_neq hc534110 (show Int32.toInt 0 = 0 by decide)
                        have lhc534110 := gC_cmpN hz534109 hc534110
                        refine G_aload_n 6 dr_cX17_findDepth_96 rfl ?_
                        refine G_iload 0 dr_cX17_findDepth_97 rfl ?_
                        have hm534114 : q528474 ∈ P408058 := RS_m hT531335 ht528478 (by decide)
                        obtain ⟨⟨p534116, p534117, q534118, he534115, r534119, r534120, r534121, r534123⟩, r534122⟩ := show rk_4 D I γ el F531334 q528474 from RS_o hT531335 ht528478
                        have bp534116 := gB_any p534116
                        have bp534117 : gB p534117 0 1000000 := ⟨by omega, by omega⟩
                        obtain ⟨r534124, r534125, n534132, f534133, r534126, r534127, r534128, r534129, r534130, r534131⟩ := rLC_n r534121 (by omega)
                        have hm534134 : q534118 ∈ P408058 := RS_m hT531335 r534124 (by decide)
                        obtain ⟨q534135, hx534136⟩ : ∃ x, x = el q528474 g532802.toInt.toNat := ⟨_, rfl⟩
                        have fq534140 : fR (F531334 q408061) 0 = q528474 := by rw [he531341]; rfl
                        have hx534137 : f534133 g532802.toNatClampNeg = some q534135 := (r534130 _ (show g532802.toInt.toNat < γ 2 q528474 by omega)).trans (by rw [hx534136])
                        have ht534141 : rKd γ q534135 2 := by rw [hx534136]; exact (r528489 _ (by omega)).resolve_right (fun z => absurd z.1 (by omega))
                        have ht534142 : rFm γ q534135 q528474 := by rw [hx534136]; exact (r534122 _ (show g532802.toInt.toNat < γ 2 q528474 by omega)).2.1
                        have hm534143 : q534135 ∈ P408058 := RS_m hT531335 ht534141 (by decide)
                        obtain ⟨q534145, q534146, p534147, p534148, he534144, ht534155, ht534149, ht534150, ht534151, ht534152, ht534153, bp534147, bp534148, r534154, r534156, r534157⟩ := show rk_2 γ q534135 (F531334 q534135) from RS_o hT531335 ht534141
                        have fq534158 : fI (F531334 q528474) 2 = p534117 := by rw [he534115]; rfl
                        refine Gw_callV (As := [.int g532802]) (gV_ok D I) (cp_7901_Code_get l hl0 D I P408058 F531334 q408061 q528474 q534118 g532802 q528475 p528476 p528477 p534116 p534117 f534133 n534132 q534135 q534145 q534146 p534147 p534148 hm528472 hm534114 hm534134 hm534143 he531341 he534115 r534126 he534144 (gB_w bg532802' (by decide) (by decide)) (gB_w bp534117 (by decide) (by decide)) (by omega) (by omega) (by assumption) (by omega)) dr_cX17_findDepth_99 ⟨wr_10_161, wr_1_15, wr_10_141, by decide, rfl, (Nat.le_of_ble_eq_true rfl), (Nat.le_of_ble_eq_true rfl)⟩ wr_10_139 wr_10_140 hm528472 he531341 rfl (show 0 + 0 ≤ 0 by first | omega | decide) (show 0 + 0 ≤ 0 by first | omega | decide) (Nat.le_of_ble_eq_true rfl) (fun r534162 w534163 dc534159 ds534160 hp534161 => ?_) (fun _ _ _ _ _ z => z.elim)
                        obtain ⟨rfl, rfl, hdc, hds, ht534164⟩ := hp534161
                        change G _ _ _ _ _ _ _ (.ref q534135 :: _) _ _ _
                        refine G_widen (cs' := 0) (sl' := 0) (by omega) (by omega) ?_
                        refine G_iload 3 dr_cX17_findDepth_102 rfl ?_
                        refine Gw_callS (As := [.ref q534135, .int g531333]) (gV_ok D I) (ct_7594_SpillForgeModel_leads l hl0 D I γ el P408058 F531334 q534135 g531333 hT531335 ht534141) dr_cX17_findDepth_104 ⟨wr_11_44, wr_1_14, wr_11_46, by decide, rfl, (Nat.le_of_ble_eq_true rfl), (Nat.le_of_ble_eq_true rfl)⟩ wr_11_45 (show 0 + 0 ≤ 0 by first | omega | decide) (show 0 + 0 ≤ 0 by first | omega | decide) (Nat.le_of_ble_eq_true rfl) (fun r534168 w534169 dc534165 ds534166 hp534167 => ?_) (fun _ _ _ _ _ z => z.elim)
                        obtain ⟨o534170, rfl, rfl, hdc, hds, bo534170, ht534171⟩ := hp534167
                        change G _ _ _ _ _ _ _ (.int o534170 :: _) _ _ _
                        refine G_widen (cs' := 0) (sl' := 0) (by omega) (by omega) ?_
                        refine G_if_eq 119 dr_cX17_findDepth_107 (by decide +kernel) (fun hc534172 => ?_) (fun hc534172 => ?_)
                        · have r534173 : o534170.toInt = 0 := gj_eq hc534172 (show Int32.toInt 0 = 0 by decide)
                          have bo534170' : gB o534170 0 0 := gB_t0 r534173
                          obtain ⟨z534174, hz534174⟩ : ∃ z : Int32, z = g532802 + Int32.ofInt 1 := ⟨_, rfl⟩
                          have ez534174 : z534174.toInt = g532802.toInt + 1 := gI_inc hz534174 (by decide) bg532802' (by decide) (by decide)
                          have bz534174 : gB z534174 1 1000000 := ⟨by omega, by omega⟩
                          refine G_iinc (L' := [(9, .int z534174), (7, .long gl532803), (5, .long u531442), (4, .int g531333), (2, .long ol528508), (0, .ref q408060), (1, .ref q408061)]) z534174 0 dr_cX17_findDepth_119 rfl hz534174.symm (Nat.le_of_ble_eq_true rfl) rfl ?_
                          refine G_goto 75 dr_cX17_findDepth_122 (by decide +kernel) ?_
                          exact ih75_532803 z534174 gl532803 (gB_w bz534174 (by decide) (by decide)) (fun k e1 ht => kt75_532804 k e1 (fun R c1 c2 c3 c4 => c3 g532802 gl532803 p528477 u534107 u534108 q528474 q534135 p534117 o534170 z534174 k e1 bg532802 fq532805 r534106 hu534107 hu534108 lhc534110 fq534140 hx534136 fq534158 ht534164 bo534170 ht534171 r534173 ez534174 (ht R c1 c2 c3 c4))) (mz_up ez534174 (Int.le_trans bg532802'.2 (by decide)) hm75_532803)
                        · have r534175 : o534170.toInt ≠ 0 := gj_neq hc534172 (show Int32.toInt 0 = 0 by decide)
                          have bo534170' : gB o534170 1 1 := gB_t1 bo534170 r534175
                          refine G_lload 1 dr_cX17_findDepth_110 rfl ?_
                          refine G_lconst 1 dr_cX17_findDepth_112 rfl ?_
                          refine G_iload 0 dr_cX17_findDepth_113 rfl ?_
                          refine G_lshl dr_cX17_findDepth_115 (G_namL fun u534176 hu534176 => ?_)
                          have qu534176 : lb_Q u534176 (g532802.toInt % 64 + 1) := lb_Qshl hu534176 (by omega)
                          refine G_lor dr_cX17_findDepth_116 (G_namL fun u534177 hu534177 => ?_)
                          have pmu534177 : rpop gl532803 ≤ rpop u534177 := rpop_or hu534177
                          refine G_lstore (L' := [(7, .long u534177), (9, .int g532802), (5, .long u531442), (4, .int g531333), (2, .long ol528508), (0, .ref q408060), (1, .ref q408061)]) dr_cX17_findDepth_117 (Nat.le_of_ble_eq_true rfl) rfl ?_
                          obtain ⟨z534178, hz534178⟩ : ∃ z : Int32, z = g532802 + Int32.ofInt 1 := ⟨_, rfl⟩
                          have ez534178 : z534178.toInt = g532802.toInt + 1 := gI_inc hz534178 (by decide) bg532802' (by decide) (by decide)
                          have bz534178 : gB z534178 1 1000000 := ⟨by omega, by omega⟩
                          refine G_iinc (L' := [(9, .int z534178), (7, .long u534177), (5, .long u531442), (4, .int g531333), (2, .long ol528508), (0, .ref q408060), (1, .ref q408061)]) z534178 1 dr_cX17_findDepth_119 rfl hz534178.symm (Nat.le_of_ble_eq_true rfl) rfl ?_
                          refine G_goto 75 dr_cX17_findDepth_122 (by decide +kernel) ?_
                          exact ih75_532803 z534178 u534177 (gB_w bz534178 (by decide) (by decide)) (fun k e1 ht => kt75_532804 k e1 (fun R c1 c2 c3 c4 => c4 g532802 gl532803 p528477 u534107 u534108 q528474 q534135 p534117 o534170 u534176 u534177 z534178 k e1 bg532802 fq532805 r534106 hu534107 hu534108 lhc534110 fq534140 hx534136 fq534158 ht534164 bo534170 ht534171 r534175 hu534176 hu534177 ez534178 (ht R c1 c2 c3 c4))) (mz_up ez534178 (Int.le_trans bg532802'.2 (by decide)) hm75_532803)
                exact hlp75_532803 (((1000001 : Int) - 0).toNat + 1) 0 0 (gB_w (gBl (show Int32.toInt 0 = 0 by decide)) (by decide) (by decide)) (fun k e1 ht => ht) (Nat.lt_succ_self _)
              · have r534179 : z531431.toInt = 0 := gj_eq hc531432 (show Int32.toInt 0 = 0 by decide)
                have bz531431' : gB z531431 0 0 := ⟨by omega, by omega⟩
                have lhc531432 := gC_cmpE hz531431 hc531432
                refine G_goto 333 dr_cX17_findDepth_52 (by decide +kernel) ?_
                obtain ⟨z534180, hz534180⟩ : ∃ z : Int32, z = g531333 + Int32.ofInt 1 := ⟨_, rfl⟩
                have ez534180 : z534180.toInt = g531333.toInt + 1 := gI_inc hz534180 (by decide) bg531333' (by decide) (by decide)
                have bz534180 : gB z534180 1 1000000 := ⟨by omega, by omega⟩
                refine G_iinc (L' := [(4, .int z534180), (2, .long ol528508), (0, .ref q408060), (1, .ref q408061)]) z534180 0 dr_cX17_findDepth_333 rfl hz534180.symm (Nat.le_of_ble_eq_true rfl) rfl ?_
                refine G_goto 32 dr_cX17_findDepth_336 (by decide +kernel) ?_
                exact ih32_531338 F531334 z534180 (gB_w bz534180 (by decide) (by decide)) hT531335 hs531336 x531337 x531338 (fun k e1 ht => kt32_531339 k e1 (fun R c1 c2 c3 c4 => c4 F531334 g531333 p528477 u531429 u531430 z534180 k e1 bg531333 hT531335 hs531336 x531337 x531338 fq531345 r531428 hu531429 hu531430 lhc531432 ez534180 (ht R c1 c2 c3 c4))) (mz_up ez534180 (Int.le_trans bg531333'.2 (by decide)) hm32_531338)
        exact hlp32_531338 (((1000001 : Int) - 0).toNat + 1) F528462 0 (gB_w (gBl (show Int32.toInt 0 = 0 by decide)) (by decide) (by decide)) hT528463 hs528464 x528465 x528466 (fun k e1 ht => ht) (Nat.lt_succ_self _)
      · have r534181 : g528461.toInt < p528477.toInt := gC_nle hc528500
        have bg528461' : gB g528461 0 999999 := ⟨by omega, by omega⟩
        have bp528477' : gB p528477 1 1000000 := ⟨by omega, by omega⟩
        refine G_aload_n 1 dr_cX17_findDepth_10 rfl ?_
        have fq534182 : fR (F528462 q408060) 4 = (γ 9 4) := by rw [he528470]; rfl
        refine Gp_get 4 hm528471 he528470 dr_cX17_findDepth_11 (gk_X17 D I) (Nat.le_of_ble_eq_true rfl) wr_7_78 rfl ?_
        refine G_iload_n 0 dr_cX17_findDepth_14 rfl ?_
        refine G_iconst 0 dr_cX17_findDepth_15 (by decide +kernel) ?_
        have hm534183 : (γ 9 4) ∈ P408058 := RS_m hT528463 ht408089 (by decide)
        obtain ⟨f534185, he534184⟩ := show rk_16 I (F528462 (γ 9 4)) from RS_o hT528463 ht408089
        refine Gp_iast 0 hm534183 he534184 dr_cX17_findDepth_16 rfl (gB_inr (by omega) (by omega)) (fun F534186 e534187 n534188 => ?_)
        obtain ⟨f534189, hf534189⟩ : ∃ z, z = upd f534185 g528461.toNatClampNeg 0 := ⟨_, rfl⟩
        rw [← hf534189] at e534187
        have he534190 : F534186 q408060 = .inr (22, [.ref (γ 9 0), .ref (γ 9 1), .ref (γ 9 2), .ref (γ 9 3), .ref (γ 9 4), .ref (γ 9 5), .ref (γ 9 6), .ref (γ 9 7), .ref (γ 9 8), .int p408068, .int p408069, .int p408070, .int p408071, .int p408072, .int p408073, .ref (γ 9 15), .ref (γ 9 16), .ref (γ 9 17), .ref (γ 9 18), .ref (γ 9 19), .ref (γ 9 20), .ref (γ 9 21), .ref (γ 9 22), .int p408074, .int p408075, .int p408076, .int p408077, .int p408078, .ref q408066, .ref (γ 9 29), .int p408079, .ref (γ 9 31), .int p408080, .int p408081, .int p408082, .ref q408067]) := (n534188 q408060 (rn_oa he528470 he534184)).trans he528470
        have he534191 : F534186 q408061 = .inr (18, [.ref q528474, .ref q528475, .int p528476, .int p528477]) := (n534188 q408061 (rn_oa he528473 he534184)).trans he528473
        have he534192 : F534186 (γ 9 4) = .inl (I .int, 40, .inl f534189) := e534187
        have hs534193 : rStr γ [] F408059 F534186 := rStr_put hs528464 n534188 ht408089 (by decide)
        have kp534194 : F534186 q408060 = F408059 q408060 := (n534188 q408060 (rn_ty htq408060 ht408089 (by decide))).trans x528465
        have kp534195 : F534186 (γ 9 3) = F408059 (γ 9 3) := (n534188 (γ 9 3) (rn_ty ht408088 ht408089 (by decide))).trans x528466
        obtain ⟨z534196, hz534196⟩ : ∃ z : Int32, z = g528461 + Int32.ofInt 1 := ⟨_, rfl⟩
        have ez534196 : z534196.toInt = g528461.toInt + 1 := gI_inc hz534196 (by decide) bg528461' (by decide) (by decide)
        have bz534196 : gB z534196 1 1000000 := ⟨by omega, by omega⟩
        refine G_iinc (L' := [(2, .int z534196), (0, .ref q408060), (1, .ref q408061)]) z534196 0 dr_cX17_findDepth_17 rfl hz534196.symm (Nat.le_of_ble_eq_true rfl) rfl ?_
        refine G_goto 2 dr_cX17_findDepth_20 (by decide +kernel) ?_
        have hT534197 : RS D I P408058 F534186 γ el := RS_set hT528463 n534188 ht408089 (by decide) ⟨f534189, he534192⟩
        exact ih2_528466 F534186 z534196 (gB_w bz534196 (by decide) (by decide)) hT534197 hs534193 kp534194 kp534195 (fun k e1 ht => kt2_528467 k e1 (fun R c1 c2 => c2 F528462 g528461 p528477 f534185 f534189 F534186 z534196 k e1 bg528461 hT528463 hs528464 x528465 x528466 fq528494 r534181 fq534182 he534184 hf534189 n534188 he534192 ez534196 (ht R c1 c2))) (mz_up ez534196 (Int.le_trans bg528461'.2 (by decide)) hm2_528466)
  exact hlp2_528466 (((1000001 : Int) - 0).toNat + 1) F408059 0 (gB_w (gBl (show Int32.toInt 0 = 0 by decide)) (by decide) (by decide)) hT (rStr_rf (γ := γ) (W := []) (F := F408059)) rfl rfl (fun k e1 ht => ht) (Nat.lt_succ_self _)
/- tl_RModel_weigh_74: F, l5; out: F -/
def tl_RModel_weigh_74 (D : va_G) (I : FieldType → ClassId) (γ el : Nat → Nat → Nat) (P : List Nat) (F : Nat → va_E) (q0 : Nat) (c1 : Nat) (l3_2 : Int32) (s1 : Nat → va_E) (s2 : Int32) (k : Nat) (e1 : Nat → va_E) : Prop := ∀ R : (Nat → va_E) → (Int32) → Nat → (Nat → va_E) → Prop,
  (∀ (F_2 : Nat → va_E) (l5_2 : Int32) (x1 : Nat) (x2 : Int32), gB l5_2 0 1000001 → RS D I P F_2 γ el → rStr γ [] F F_2 → (F_2 q0 = F q0) → (F_2 (γ 9 3) = F (γ 9 3)) → fR (F_2 c1) 0 = x1 → x2.toInt = (γ 2 x1 : Int) → fI (F_2 x1) 2 = x2 → x2.toInt < l5_2.toInt → R F_2 l5_2 195 F_2) →
  (∀ (F_2 : Nat → va_E) (l5_2 : Int32) (x1 : Nat) (x2 : Int32) (x3 : Nat) (x4 : Int32) (x5 : Int32) (x6 : Int32) (x7 : Int32) (x8 : Int32) (x9 : Int32) (x10 : Int32) (k : Nat) (e1 : Nat → va_E), gB l5_2 0 1000001 → RS D I P F_2 γ el → rStr γ [] F F_2 → (F_2 q0 = F q0) → (F_2 (γ 9 3) = F (γ 9 3)) → fR (F_2 c1) 0 = x1 → x2.toInt = (γ 2 x1 : Int) → fI (F_2 x1) 2 = x2 → l5_2.toInt ≤ x2.toInt → x2.toInt = (γ 2 x1 : Int) → x2.toInt ≤ l5_2.toInt → fR (F_2 c1) 1 = x3 → fI (F_2 x3) 0 = x4 → gB x5 0 1 → tr_RRow_sets x4 x5 → x5.toInt = 0 → fI (F_2 x3) 5 = x6 → gB x7 0 1 → tr_RRow_usesA x4 x6 x7 → x7.toInt = 0 → fI (F_2 x3) 6 = x8 → gB x9 0 1 → tr_RRow_usesB x4 x8 x9 → x9.toInt = 0 → x10.toInt = l5_2.toInt + 1 → R F_2 x10 k e1 → R F_2 l5_2 k e1) →
  (∀ (F_2 : Nat → va_E) (l5_2 : Int32) (x1 : Nat) (x2 : Int32) (x3 : Nat) (x4 : Int32) (x5 : Int32) (x6 : Int32) (x7 : Int32) (x8 : Int32) (x9 : Int32) (x10 : Int32) (x11 : Nat → Int32) (x12 : Int32) (x13 : Int32) (x14 : Nat → Int32) (x15 : Nat → va_E) (x16 : Int32) (k : Nat) (e1 : Nat → va_E), gB l5_2 0 1000001 → RS D I P F_2 γ el → rStr γ [] F F_2 → (F_2 q0 = F q0) → (F_2 (γ 9 3) = F (γ 9 3)) → fR (F_2 c1) 0 = x1 → x2.toInt = (γ 2 x1 : Int) → fI (F_2 x1) 2 = x2 → l5_2.toInt ≤ x2.toInt → x2.toInt = (γ 2 x1 : Int) → x2.toInt ≤ l5_2.toInt → fR (F_2 c1) 1 = x3 → fI (F_2 x3) 0 = x4 → gB x5 0 1 → tr_RRow_sets x4 x5 → x5.toInt = 0 → fI (F_2 x3) 5 = x6 → gB x7 0 1 → tr_RRow_usesA x4 x6 x7 → x7.toInt = 0 → fI (F_2 x3) 6 = x8 → gB x9 0 1 → tr_RRow_usesB x4 x8 x9 → x9.toInt ≠ 0 → fR (F_2 q0) 5 = (γ 9 5) → fI (F_2 x3) 3 = x10 → F_2 (γ 9 5) = .inl (I .int, 2000, .inl x11) → x12 = x11 x10.toNatClampNeg → x13 = x12 + l3_2 → x14 = upd x11 x10.toNatClampNeg x13 → (∀ b, b ≠ (γ 9 5) → x15 b = F_2 b) → x15 (γ 9 5) = .inl (I .int, 2000, .inl x14) → x16.toInt = l5_2.toInt + 1 → R x15 x16 k e1 → R F_2 l5_2 k e1) →
  (∀ (F_2 : Nat → va_E) (l5_2 : Int32) (x1 : Nat) (x2 : Int32) (x3 : Nat) (x4 : Int32) (x5 : Int32) (x6 : Int32) (x7 : Int32) (x8 : Int32) (x9 : Nat → Int32) (x10 : Int32) (x11 : Int32) (x12 : Nat → Int32) (x13 : Nat → va_E) (x14 : Int32) (x15 : Int32) (x16 : Int32) (k : Nat) (e1 : Nat → va_E), gB l5_2 0 1000001 → RS D I P F_2 γ el → rStr γ [] F F_2 → (F_2 q0 = F q0) → (F_2 (γ 9 3) = F (γ 9 3)) → fR (F_2 c1) 0 = x1 → x2.toInt = (γ 2 x1 : Int) → fI (F_2 x1) 2 = x2 → l5_2.toInt ≤ x2.toInt → x2.toInt = (γ 2 x1 : Int) → x2.toInt ≤ l5_2.toInt → fR (F_2 c1) 1 = x3 → fI (F_2 x3) 0 = x4 → gB x5 0 1 → tr_RRow_sets x4 x5 → x5.toInt = 0 → fI (F_2 x3) 5 = x6 → gB x7 0 1 → tr_RRow_usesA x4 x6 x7 → x7.toInt ≠ 0 → fR (F_2 q0) 5 = (γ 9 5) → fI (F_2 x3) 2 = x8 → F_2 (γ 9 5) = .inl (I .int, 2000, .inl x9) → x10 = x9 x8.toNatClampNeg → x11 = x10 + l3_2 → x12 = upd x9 x8.toNatClampNeg x11 → (∀ b, b ≠ (γ 9 5) → x13 b = F_2 b) → x13 (γ 9 5) = .inl (I .int, 2000, .inl x12) → fI (x13 x3) 0 = x4 → fI (x13 x3) 6 = x14 → gB x15 0 1 → tr_RRow_usesB x4 x14 x15 → x15.toInt = 0 → x16.toInt = l5_2.toInt + 1 → R x13 x16 k e1 → R F_2 l5_2 k e1) →
  (∀ (F_2 : Nat → va_E) (l5_2 : Int32) (x1 : Nat) (x2 : Int32) (x3 : Nat) (x4 : Int32) (x5 : Int32) (x6 : Int32) (x7 : Int32) (x8 : Int32) (x9 : Nat → Int32) (x10 : Int32) (x11 : Int32) (x12 : Nat → Int32) (x13 : Nat → va_E) (x14 : Int32) (x15 : Int32) (x16 : Int32) (x17 : Int32) (x18 : Int32) (x19 : Nat → Int32) (x20 : Nat → va_E) (x21 : Int32) (k : Nat) (e1 : Nat → va_E), gB l5_2 0 1000001 → RS D I P F_2 γ el → rStr γ [] F F_2 → (F_2 q0 = F q0) → (F_2 (γ 9 3) = F (γ 9 3)) → fR (F_2 c1) 0 = x1 → x2.toInt = (γ 2 x1 : Int) → fI (F_2 x1) 2 = x2 → l5_2.toInt ≤ x2.toInt → x2.toInt = (γ 2 x1 : Int) → x2.toInt ≤ l5_2.toInt → fR (F_2 c1) 1 = x3 → fI (F_2 x3) 0 = x4 → gB x5 0 1 → tr_RRow_sets x4 x5 → x5.toInt = 0 → fI (F_2 x3) 5 = x6 → gB x7 0 1 → tr_RRow_usesA x4 x6 x7 → x7.toInt ≠ 0 → fR (F_2 q0) 5 = (γ 9 5) → fI (F_2 x3) 2 = x8 → F_2 (γ 9 5) = .inl (I .int, 2000, .inl x9) → x10 = x9 x8.toNatClampNeg → x11 = x10 + l3_2 → x12 = upd x9 x8.toNatClampNeg x11 → (∀ b, b ≠ (γ 9 5) → x13 b = F_2 b) → x13 (γ 9 5) = .inl (I .int, 2000, .inl x12) → fI (x13 x3) 0 = x4 → fI (x13 x3) 6 = x14 → gB x15 0 1 → tr_RRow_usesB x4 x14 x15 → x15.toInt ≠ 0 → fR (x13 q0) 5 = (γ 9 5) → fI (x13 x3) 3 = x16 → x13 (γ 9 5) = .inl (I .int, 2000, .inl x12) → x17 = x12 x16.toNatClampNeg → x18 = x17 + l3_2 → x19 = upd x12 x16.toNatClampNeg x18 → (∀ b, b ≠ (γ 9 5) → x20 b = x13 b) → x20 (γ 9 5) = .inl (I .int, 2000, .inl x19) → x21.toInt = l5_2.toInt + 1 → R x20 x21 k e1 → R F_2 l5_2 k e1) →
  (∀ (F_2 : Nat → va_E) (l5_2 : Int32) (x1 : Nat) (x2 : Int32) (x3 : Nat) (x4 : Int32) (x5 : Int32) (x6 : Int32) (x7 : Nat → Int32) (x8 : Int32) (x9 : Int32) (x10 : Nat → Int32) (x11 : Nat → va_E) (x12 : Int32) (x13 : Int32) (x14 : Int32) (x15 : Int32) (x16 : Int32) (k : Nat) (e1 : Nat → va_E), gB l5_2 0 1000001 → RS D I P F_2 γ el → rStr γ [] F F_2 → (F_2 q0 = F q0) → (F_2 (γ 9 3) = F (γ 9 3)) → fR (F_2 c1) 0 = x1 → x2.toInt = (γ 2 x1 : Int) → fI (F_2 x1) 2 = x2 → l5_2.toInt ≤ x2.toInt → x2.toInt = (γ 2 x1 : Int) → x2.toInt ≤ l5_2.toInt → fR (F_2 c1) 1 = x3 → fI (F_2 x3) 0 = x4 → gB x5 0 1 → tr_RRow_sets x4 x5 → x5.toInt ≠ 0 → fR (F_2 q0) 5 = (γ 9 5) → fI (F_2 x3) 1 = x6 → F_2 (γ 9 5) = .inl (I .int, 2000, .inl x7) → x8 = x7 x6.toNatClampNeg → x9 = x8 + l3_2 → x10 = upd x7 x6.toNatClampNeg x9 → (∀ b, b ≠ (γ 9 5) → x11 b = F_2 b) → x11 (γ 9 5) = .inl (I .int, 2000, .inl x10) → fI (x11 x3) 0 = x4 → fI (x11 x3) 5 = x12 → gB x13 0 1 → tr_RRow_usesA x4 x12 x13 → x13.toInt = 0 → fI (x11 x3) 6 = x14 → gB x15 0 1 → tr_RRow_usesB x4 x14 x15 → x15.toInt = 0 → x16.toInt = l5_2.toInt + 1 → R x11 x16 k e1 → R F_2 l5_2 k e1) →
  (∀ (F_2 : Nat → va_E) (l5_2 : Int32) (x1 : Nat) (x2 : Int32) (x3 : Nat) (x4 : Int32) (x5 : Int32) (x6 : Int32) (x7 : Nat → Int32) (x8 : Int32) (x9 : Int32) (x10 : Nat → Int32) (x11 : Nat → va_E) (x12 : Int32) (x13 : Int32) (x14 : Int32) (x15 : Int32) (x16 : Int32) (x17 : Int32) (x18 : Int32) (x19 : Nat → Int32) (x20 : Nat → va_E) (x21 : Int32) (k : Nat) (e1 : Nat → va_E), gB l5_2 0 1000001 → RS D I P F_2 γ el → rStr γ [] F F_2 → (F_2 q0 = F q0) → (F_2 (γ 9 3) = F (γ 9 3)) → fR (F_2 c1) 0 = x1 → x2.toInt = (γ 2 x1 : Int) → fI (F_2 x1) 2 = x2 → l5_2.toInt ≤ x2.toInt → x2.toInt = (γ 2 x1 : Int) → x2.toInt ≤ l5_2.toInt → fR (F_2 c1) 1 = x3 → fI (F_2 x3) 0 = x4 → gB x5 0 1 → tr_RRow_sets x4 x5 → x5.toInt ≠ 0 → fR (F_2 q0) 5 = (γ 9 5) → fI (F_2 x3) 1 = x6 → F_2 (γ 9 5) = .inl (I .int, 2000, .inl x7) → x8 = x7 x6.toNatClampNeg → x9 = x8 + l3_2 → x10 = upd x7 x6.toNatClampNeg x9 → (∀ b, b ≠ (γ 9 5) → x11 b = F_2 b) → x11 (γ 9 5) = .inl (I .int, 2000, .inl x10) → fI (x11 x3) 0 = x4 → fI (x11 x3) 5 = x12 → gB x13 0 1 → tr_RRow_usesA x4 x12 x13 → x13.toInt = 0 → fI (x11 x3) 6 = x14 → gB x15 0 1 → tr_RRow_usesB x4 x14 x15 → x15.toInt ≠ 0 → fR (x11 q0) 5 = (γ 9 5) → fI (x11 x3) 3 = x16 → x11 (γ 9 5) = .inl (I .int, 2000, .inl x10) → x17 = x10 x16.toNatClampNeg → x18 = x17 + l3_2 → x19 = upd x10 x16.toNatClampNeg x18 → (∀ b, b ≠ (γ 9 5) → x20 b = x11 b) → x20 (γ 9 5) = .inl (I .int, 2000, .inl x19) → x21.toInt = l5_2.toInt + 1 → R x20 x21 k e1 → R F_2 l5_2 k e1) →
  (∀ (F_2 : Nat → va_E) (l5_2 : Int32) (x1 : Nat) (x2 : Int32) (x3 : Nat) (x4 : Int32) (x5 : Int32) (x6 : Int32) (x7 : Nat → Int32) (x8 : Int32) (x9 : Int32) (x10 : Nat → Int32) (x11 : Nat → va_E) (x12 : Int32) (x13 : Int32) (x14 : Int32) (x15 : Int32) (x16 : Int32) (x17 : Nat → Int32) (x18 : Nat → va_E) (x19 : Int32) (x20 : Int32) (x21 : Int32) (k : Nat) (e1 : Nat → va_E), gB l5_2 0 1000001 → RS D I P F_2 γ el → rStr γ [] F F_2 → (F_2 q0 = F q0) → (F_2 (γ 9 3) = F (γ 9 3)) → fR (F_2 c1) 0 = x1 → x2.toInt = (γ 2 x1 : Int) → fI (F_2 x1) 2 = x2 → l5_2.toInt ≤ x2.toInt → x2.toInt = (γ 2 x1 : Int) → x2.toInt ≤ l5_2.toInt → fR (F_2 c1) 1 = x3 → fI (F_2 x3) 0 = x4 → gB x5 0 1 → tr_RRow_sets x4 x5 → x5.toInt ≠ 0 → fR (F_2 q0) 5 = (γ 9 5) → fI (F_2 x3) 1 = x6 → F_2 (γ 9 5) = .inl (I .int, 2000, .inl x7) → x8 = x7 x6.toNatClampNeg → x9 = x8 + l3_2 → x10 = upd x7 x6.toNatClampNeg x9 → (∀ b, b ≠ (γ 9 5) → x11 b = F_2 b) → x11 (γ 9 5) = .inl (I .int, 2000, .inl x10) → fI (x11 x3) 0 = x4 → fI (x11 x3) 5 = x12 → gB x13 0 1 → tr_RRow_usesA x4 x12 x13 → x13.toInt ≠ 0 → fR (x11 q0) 5 = (γ 9 5) → fI (x11 x3) 2 = x14 → x11 (γ 9 5) = .inl (I .int, 2000, .inl x10) → x15 = x10 x14.toNatClampNeg → x16 = x15 + l3_2 → x17 = upd x10 x14.toNatClampNeg x16 → (∀ b, b ≠ (γ 9 5) → x18 b = x11 b) → x18 (γ 9 5) = .inl (I .int, 2000, .inl x17) → fI (x18 x3) 0 = x4 → fI (x18 x3) 6 = x19 → gB x20 0 1 → tr_RRow_usesB x4 x19 x20 → x20.toInt = 0 → x21.toInt = l5_2.toInt + 1 → R x18 x21 k e1 → R F_2 l5_2 k e1) →
  (∀ (F_2 : Nat → va_E) (l5_2 : Int32) (x1 : Nat) (x2 : Int32) (x3 : Nat) (x4 : Int32) (x5 : Int32) (x6 : Int32) (x7 : Nat → Int32) (x8 : Int32) (x9 : Int32) (x10 : Nat → Int32) (x11 : Nat → va_E) (x12 : Int32) (x13 : Int32) (x14 : Int32) (x15 : Int32) (x16 : Int32) (x17 : Nat → Int32) (x18 : Nat → va_E) (x19 : Int32) (x20 : Int32) (x21 : Int32) (x22 : Int32) (x23 : Int32) (x24 : Nat → Int32) (x25 : Nat → va_E) (x26 : Int32) (k : Nat) (e1 : Nat → va_E), gB l5_2 0 1000001 → RS D I P F_2 γ el → rStr γ [] F F_2 → (F_2 q0 = F q0) → (F_2 (γ 9 3) = F (γ 9 3)) → fR (F_2 c1) 0 = x1 → x2.toInt = (γ 2 x1 : Int) → fI (F_2 x1) 2 = x2 → l5_2.toInt ≤ x2.toInt → x2.toInt = (γ 2 x1 : Int) → x2.toInt ≤ l5_2.toInt → fR (F_2 c1) 1 = x3 → fI (F_2 x3) 0 = x4 → gB x5 0 1 → tr_RRow_sets x4 x5 → x5.toInt ≠ 0 → fR (F_2 q0) 5 = (γ 9 5) → fI (F_2 x3) 1 = x6 → F_2 (γ 9 5) = .inl (I .int, 2000, .inl x7) → x8 = x7 x6.toNatClampNeg → x9 = x8 + l3_2 → x10 = upd x7 x6.toNatClampNeg x9 → (∀ b, b ≠ (γ 9 5) → x11 b = F_2 b) → x11 (γ 9 5) = .inl (I .int, 2000, .inl x10) → fI (x11 x3) 0 = x4 → fI (x11 x3) 5 = x12 → gB x13 0 1 → tr_RRow_usesA x4 x12 x13 → x13.toInt ≠ 0 → fR (x11 q0) 5 = (γ 9 5) → fI (x11 x3) 2 = x14 → x11 (γ 9 5) = .inl (I .int, 2000, .inl x10) → x15 = x10 x14.toNatClampNeg → x16 = x15 + l3_2 → x17 = upd x10 x14.toNatClampNeg x16 → (∀ b, b ≠ (γ 9 5) → x18 b = x11 b) → x18 (γ 9 5) = .inl (I .int, 2000, .inl x17) → fI (x18 x3) 0 = x4 → fI (x18 x3) 6 = x19 → gB x20 0 1 → tr_RRow_usesB x4 x19 x20 → x20.toInt ≠ 0 → fR (x18 q0) 5 = (γ 9 5) → fI (x18 x3) 3 = x21 → x18 (γ 9 5) = .inl (I .int, 2000, .inl x17) → x22 = x17 x21.toNatClampNeg → x23 = x22 + l3_2 → x24 = upd x17 x21.toNatClampNeg x23 → (∀ b, b ≠ (γ 9 5) → x25 b = x18 b) → x25 (γ 9 5) = .inl (I .int, 2000, .inl x24) → x26.toInt = l5_2.toInt + 1 → R x25 x26 k e1 → R F_2 l5_2 k e1) →
  (∀ (F_2 : Nat → va_E) (l5_2 : Int32) (x1 : Nat) (x2 : Int32) (x3 : Nat) (x4 : Int32) (x5 : Int32) (x6 : Int32) (x7 : Int32) (x8 : Int32) (x9 : Int32) (x10 : Int32) (k : Nat) (e1 : Nat → va_E), gB l5_2 0 1000001 → RS D I P F_2 γ el → rStr γ [] F F_2 → (F_2 q0 = F q0) → (F_2 (γ 9 3) = F (γ 9 3)) → fR (F_2 c1) 0 = x1 → x2.toInt = (γ 2 x1 : Int) → fI (F_2 x1) 2 = x2 → l5_2.toInt ≤ x2.toInt → x2.toInt = (γ 2 x1 : Int) → l5_2.toInt < x2.toInt → x3 = el x1 l5_2.toInt.toNat → tr_RArrayList_get l5_2 x2 → fI (F_2 x3) 0 = x4 → gB x5 0 1 → tr_RRow_sets x4 x5 → x5.toInt = 0 → fI (F_2 x3) 5 = x6 → gB x7 0 1 → tr_RRow_usesA x4 x6 x7 → x7.toInt = 0 → fI (F_2 x3) 6 = x8 → gB x9 0 1 → tr_RRow_usesB x4 x8 x9 → x9.toInt = 0 → x10.toInt = l5_2.toInt + 1 → R F_2 x10 k e1 → R F_2 l5_2 k e1) →
  (∀ (F_2 : Nat → va_E) (l5_2 : Int32) (x1 : Nat) (x2 : Int32) (x3 : Nat) (x4 : Int32) (x5 : Int32) (x6 : Int32) (x7 : Int32) (x8 : Int32) (x9 : Int32) (x10 : Int32) (x11 : Nat → Int32) (x12 : Int32) (x13 : Int32) (x14 : Nat → Int32) (x15 : Nat → va_E) (x16 : Int32) (k : Nat) (e1 : Nat → va_E), gB l5_2 0 1000001 → RS D I P F_2 γ el → rStr γ [] F F_2 → (F_2 q0 = F q0) → (F_2 (γ 9 3) = F (γ 9 3)) → fR (F_2 c1) 0 = x1 → x2.toInt = (γ 2 x1 : Int) → fI (F_2 x1) 2 = x2 → l5_2.toInt ≤ x2.toInt → x2.toInt = (γ 2 x1 : Int) → l5_2.toInt < x2.toInt → x3 = el x1 l5_2.toInt.toNat → tr_RArrayList_get l5_2 x2 → fI (F_2 x3) 0 = x4 → gB x5 0 1 → tr_RRow_sets x4 x5 → x5.toInt = 0 → fI (F_2 x3) 5 = x6 → gB x7 0 1 → tr_RRow_usesA x4 x6 x7 → x7.toInt = 0 → fI (F_2 x3) 6 = x8 → gB x9 0 1 → tr_RRow_usesB x4 x8 x9 → x9.toInt ≠ 0 → fR (F_2 q0) 5 = (γ 9 5) → fI (F_2 x3) 3 = x10 → F_2 (γ 9 5) = .inl (I .int, 2000, .inl x11) → x12 = x11 x10.toNatClampNeg → x13 = x12 + l3_2 → x14 = upd x11 x10.toNatClampNeg x13 → (∀ b, b ≠ (γ 9 5) → x15 b = F_2 b) → x15 (γ 9 5) = .inl (I .int, 2000, .inl x14) → x16.toInt = l5_2.toInt + 1 → R x15 x16 k e1 → R F_2 l5_2 k e1) →
  (∀ (F_2 : Nat → va_E) (l5_2 : Int32) (x1 : Nat) (x2 : Int32) (x3 : Nat) (x4 : Int32) (x5 : Int32) (x6 : Int32) (x7 : Int32) (x8 : Int32) (x9 : Nat → Int32) (x10 : Int32) (x11 : Int32) (x12 : Nat → Int32) (x13 : Nat → va_E) (x14 : Int32) (x15 : Int32) (x16 : Int32) (k : Nat) (e1 : Nat → va_E), gB l5_2 0 1000001 → RS D I P F_2 γ el → rStr γ [] F F_2 → (F_2 q0 = F q0) → (F_2 (γ 9 3) = F (γ 9 3)) → fR (F_2 c1) 0 = x1 → x2.toInt = (γ 2 x1 : Int) → fI (F_2 x1) 2 = x2 → l5_2.toInt ≤ x2.toInt → x2.toInt = (γ 2 x1 : Int) → l5_2.toInt < x2.toInt → x3 = el x1 l5_2.toInt.toNat → tr_RArrayList_get l5_2 x2 → fI (F_2 x3) 0 = x4 → gB x5 0 1 → tr_RRow_sets x4 x5 → x5.toInt = 0 → fI (F_2 x3) 5 = x6 → gB x7 0 1 → tr_RRow_usesA x4 x6 x7 → x7.toInt ≠ 0 → fR (F_2 q0) 5 = (γ 9 5) → fI (F_2 x3) 2 = x8 → F_2 (γ 9 5) = .inl (I .int, 2000, .inl x9) → x10 = x9 x8.toNatClampNeg → x11 = x10 + l3_2 → x12 = upd x9 x8.toNatClampNeg x11 → (∀ b, b ≠ (γ 9 5) → x13 b = F_2 b) → x13 (γ 9 5) = .inl (I .int, 2000, .inl x12) → fI (x13 x3) 0 = x4 → fI (x13 x3) 6 = x14 → gB x15 0 1 → tr_RRow_usesB x4 x14 x15 → x15.toInt = 0 → x16.toInt = l5_2.toInt + 1 → R x13 x16 k e1 → R F_2 l5_2 k e1) →
  (∀ (F_2 : Nat → va_E) (l5_2 : Int32) (x1 : Nat) (x2 : Int32) (x3 : Nat) (x4 : Int32) (x5 : Int32) (x6 : Int32) (x7 : Int32) (x8 : Int32) (x9 : Nat → Int32) (x10 : Int32) (x11 : Int32) (x12 : Nat → Int32) (x13 : Nat → va_E) (x14 : Int32) (x15 : Int32) (x16 : Int32) (x17 : Int32) (x18 : Int32) (x19 : Nat → Int32) (x20 : Nat → va_E) (x21 : Int32) (k : Nat) (e1 : Nat → va_E), gB l5_2 0 1000001 → RS D I P F_2 γ el → rStr γ [] F F_2 → (F_2 q0 = F q0) → (F_2 (γ 9 3) = F (γ 9 3)) → fR (F_2 c1) 0 = x1 → x2.toInt = (γ 2 x1 : Int) → fI (F_2 x1) 2 = x2 → l5_2.toInt ≤ x2.toInt → x2.toInt = (γ 2 x1 : Int) → l5_2.toInt < x2.toInt → x3 = el x1 l5_2.toInt.toNat → tr_RArrayList_get l5_2 x2 → fI (F_2 x3) 0 = x4 → gB x5 0 1 → tr_RRow_sets x4 x5 → x5.toInt = 0 → fI (F_2 x3) 5 = x6 → gB x7 0 1 → tr_RRow_usesA x4 x6 x7 → x7.toInt ≠ 0 → fR (F_2 q0) 5 = (γ 9 5) → fI (F_2 x3) 2 = x8 → F_2 (γ 9 5) = .inl (I .int, 2000, .inl x9) → x10 = x9 x8.toNatClampNeg → x11 = x10 + l3_2 → x12 = upd x9 x8.toNatClampNeg x11 → (∀ b, b ≠ (γ 9 5) → x13 b = F_2 b) → x13 (γ 9 5) = .inl (I .int, 2000, .inl x12) → fI (x13 x3) 0 = x4 → fI (x13 x3) 6 = x14 → gB x15 0 1 → tr_RRow_usesB x4 x14 x15 → x15.toInt ≠ 0 → fR (x13 q0) 5 = (γ 9 5) → fI (x13 x3) 3 = x16 → x13 (γ 9 5) = .inl (I .int, 2000, .inl x12) → x17 = x12 x16.toNatClampNeg → x18 = x17 + l3_2 → x19 = upd x12 x16.toNatClampNeg x18 → (∀ b, b ≠ (γ 9 5) → x20 b = x13 b) → x20 (γ 9 5) = .inl (I .int, 2000, .inl x19) → x21.toInt = l5_2.toInt + 1 → R x20 x21 k e1 → R F_2 l5_2 k e1) →
  (∀ (F_2 : Nat → va_E) (l5_2 : Int32) (x1 : Nat) (x2 : Int32) (x3 : Nat) (x4 : Int32) (x5 : Int32) (x6 : Int32) (x7 : Nat → Int32) (x8 : Int32) (x9 : Int32) (x10 : Nat → Int32) (x11 : Nat → va_E) (x12 : Int32) (x13 : Int32) (x14 : Int32) (x15 : Int32) (x16 : Int32) (k : Nat) (e1 : Nat → va_E), gB l5_2 0 1000001 → RS D I P F_2 γ el → rStr γ [] F F_2 → (F_2 q0 = F q0) → (F_2 (γ 9 3) = F (γ 9 3)) → fR (F_2 c1) 0 = x1 → x2.toInt = (γ 2 x1 : Int) → fI (F_2 x1) 2 = x2 → l5_2.toInt ≤ x2.toInt → x2.toInt = (γ 2 x1 : Int) → l5_2.toInt < x2.toInt → x3 = el x1 l5_2.toInt.toNat → tr_RArrayList_get l5_2 x2 → fI (F_2 x3) 0 = x4 → gB x5 0 1 → tr_RRow_sets x4 x5 → x5.toInt ≠ 0 → fR (F_2 q0) 5 = (γ 9 5) → fI (F_2 x3) 1 = x6 → F_2 (γ 9 5) = .inl (I .int, 2000, .inl x7) → x8 = x7 x6.toNatClampNeg → x9 = x8 + l3_2 → x10 = upd x7 x6.toNatClampNeg x9 → (∀ b, b ≠ (γ 9 5) → x11 b = F_2 b) → x11 (γ 9 5) = .inl (I .int, 2000, .inl x10) → fI (x11 x3) 0 = x4 → fI (x11 x3) 5 = x12 → gB x13 0 1 → tr_RRow_usesA x4 x12 x13 → x13.toInt = 0 → fI (x11 x3) 6 = x14 → gB x15 0 1 → tr_RRow_usesB x4 x14 x15 → x15.toInt = 0 → x16.toInt = l5_2.toInt + 1 → R x11 x16 k e1 → R F_2 l5_2 k e1) →
  (∀ (F_2 : Nat → va_E) (l5_2 : Int32) (x1 : Nat) (x2 : Int32) (x3 : Nat) (x4 : Int32) (x5 : Int32) (x6 : Int32) (x7 : Nat → Int32) (x8 : Int32) (x9 : Int32) (x10 : Nat → Int32) (x11 : Nat → va_E) (x12 : Int32) (x13 : Int32) (x14 : Int32) (x15 : Int32) (x16 : Int32) (x17 : Int32) (x18 : Int32) (x19 : Nat → Int32) (x20 : Nat → va_E) (x21 : Int32) (k : Nat) (e1 : Nat → va_E), gB l5_2 0 1000001 → RS D I P F_2 γ el → rStr γ [] F F_2 → (F_2 q0 = F q0) → (F_2 (γ 9 3) = F (γ 9 3)) → fR (F_2 c1) 0 = x1 → x2.toInt = (γ 2 x1 : Int) → fI (F_2 x1) 2 = x2 → l5_2.toInt ≤ x2.toInt → x2.toInt = (γ 2 x1 : Int) → l5_2.toInt < x2.toInt → x3 = el x1 l5_2.toInt.toNat → tr_RArrayList_get l5_2 x2 → fI (F_2 x3) 0 = x4 → gB x5 0 1 → tr_RRow_sets x4 x5 → x5.toInt ≠ 0 → fR (F_2 q0) 5 = (γ 9 5) → fI (F_2 x3) 1 = x6 → F_2 (γ 9 5) = .inl (I .int, 2000, .inl x7) → x8 = x7 x6.toNatClampNeg → x9 = x8 + l3_2 → x10 = upd x7 x6.toNatClampNeg x9 → (∀ b, b ≠ (γ 9 5) → x11 b = F_2 b) → x11 (γ 9 5) = .inl (I .int, 2000, .inl x10) → fI (x11 x3) 0 = x4 → fI (x11 x3) 5 = x12 → gB x13 0 1 → tr_RRow_usesA x4 x12 x13 → x13.toInt = 0 → fI (x11 x3) 6 = x14 → gB x15 0 1 → tr_RRow_usesB x4 x14 x15 → x15.toInt ≠ 0 → fR (x11 q0) 5 = (γ 9 5) → fI (x11 x3) 3 = x16 → x11 (γ 9 5) = .inl (I .int, 2000, .inl x10) → x17 = x10 x16.toNatClampNeg → x18 = x17 + l3_2 → x19 = upd x10 x16.toNatClampNeg x18 → (∀ b, b ≠ (γ 9 5) → x20 b = x11 b) → x20 (γ 9 5) = .inl (I .int, 2000, .inl x19) → x21.toInt = l5_2.toInt + 1 → R x20 x21 k e1 → R F_2 l5_2 k e1) →
  (∀ (F_2 : Nat → va_E) (l5_2 : Int32) (x1 : Nat) (x2 : Int32) (x3 : Nat) (x4 : Int32) (x5 : Int32) (x6 : Int32) (x7 : Nat → Int32) (x8 : Int32) (x9 : Int32) (x10 : Nat → Int32) (x11 : Nat → va_E) (x12 : Int32) (x13 : Int32) (x14 : Int32) (x15 : Int32) (x16 : Int32) (x17 : Nat → Int32) (x18 : Nat → va_E) (x19 : Int32) (x20 : Int32) (x21 : Int32) (k : Nat) (e1 : Nat → va_E), gB l5_2 0 1000001 → RS D I P F_2 γ el → rStr γ [] F F_2 → (F_2 q0 = F q0) → (F_2 (γ 9 3) = F (γ 9 3)) → fR (F_2 c1) 0 = x1 → x2.toInt = (γ 2 x1 : Int) → fI (F_2 x1) 2 = x2 → l5_2.toInt ≤ x2.toInt → x2.toInt = (γ 2 x1 : Int) → l5_2.toInt < x2.toInt → x3 = el x1 l5_2.toInt.toNat → tr_RArrayList_get l5_2 x2 → fI (F_2 x3) 0 = x4 → gB x5 0 1 → tr_RRow_sets x4 x5 → x5.toInt ≠ 0 → fR (F_2 q0) 5 = (γ 9 5) → fI (F_2 x3) 1 = x6 → F_2 (γ 9 5) = .inl (I .int, 2000, .inl x7) → x8 = x7 x6.toNatClampNeg → x9 = x8 + l3_2 → x10 = upd x7 x6.toNatClampNeg x9 → (∀ b, b ≠ (γ 9 5) → x11 b = F_2 b) → x11 (γ 9 5) = .inl (I .int, 2000, .inl x10) → fI (x11 x3) 0 = x4 → fI (x11 x3) 5 = x12 → gB x13 0 1 → tr_RRow_usesA x4 x12 x13 → x13.toInt ≠ 0 → fR (x11 q0) 5 = (γ 9 5) → fI (x11 x3) 2 = x14 → x11 (γ 9 5) = .inl (I .int, 2000, .inl x10) → x15 = x10 x14.toNatClampNeg → x16 = x15 + l3_2 → x17 = upd x10 x14.toNatClampNeg x16 → (∀ b, b ≠ (γ 9 5) → x18 b = x11 b) → x18 (γ 9 5) = .inl (I .int, 2000, .inl x17) → fI (x18 x3) 0 = x4 → fI (x18 x3) 6 = x19 → gB x20 0 1 → tr_RRow_usesB x4 x19 x20 → x20.toInt = 0 → x21.toInt = l5_2.toInt + 1 → R x18 x21 k e1 → R F_2 l5_2 k e1) →
  (∀ (F_2 : Nat → va_E) (l5_2 : Int32) (x1 : Nat) (x2 : Int32) (x3 : Nat) (x4 : Int32) (x5 : Int32) (x6 : Int32) (x7 : Nat → Int32) (x8 : Int32) (x9 : Int32) (x10 : Nat → Int32) (x11 : Nat → va_E) (x12 : Int32) (x13 : Int32) (x14 : Int32) (x15 : Int32) (x16 : Int32) (x17 : Nat → Int32) (x18 : Nat → va_E) (x19 : Int32) (x20 : Int32) (x21 : Int32) (x22 : Int32) (x23 : Int32) (x24 : Nat → Int32) (x25 : Nat → va_E) (x26 : Int32) (k : Nat) (e1 : Nat → va_E), gB l5_2 0 1000001 → RS D I P F_2 γ el → rStr γ [] F F_2 → (F_2 q0 = F q0) → (F_2 (γ 9 3) = F (γ 9 3)) → fR (F_2 c1) 0 = x1 → x2.toInt = (γ 2 x1 : Int) → fI (F_2 x1) 2 = x2 → l5_2.toInt ≤ x2.toInt → x2.toInt = (γ 2 x1 : Int) → l5_2.toInt < x2.toInt → x3 = el x1 l5_2.toInt.toNat → tr_RArrayList_get l5_2 x2 → fI (F_2 x3) 0 = x4 → gB x5 0 1 → tr_RRow_sets x4 x5 → x5.toInt ≠ 0 → fR (F_2 q0) 5 = (γ 9 5) → fI (F_2 x3) 1 = x6 → F_2 (γ 9 5) = .inl (I .int, 2000, .inl x7) → x8 = x7 x6.toNatClampNeg → x9 = x8 + l3_2 → x10 = upd x7 x6.toNatClampNeg x9 → (∀ b, b ≠ (γ 9 5) → x11 b = F_2 b) → x11 (γ 9 5) = .inl (I .int, 2000, .inl x10) → fI (x11 x3) 0 = x4 → fI (x11 x3) 5 = x12 → gB x13 0 1 → tr_RRow_usesA x4 x12 x13 → x13.toInt ≠ 0 → fR (x11 q0) 5 = (γ 9 5) → fI (x11 x3) 2 = x14 → x11 (γ 9 5) = .inl (I .int, 2000, .inl x10) → x15 = x10 x14.toNatClampNeg → x16 = x15 + l3_2 → x17 = upd x10 x14.toNatClampNeg x16 → (∀ b, b ≠ (γ 9 5) → x18 b = x11 b) → x18 (γ 9 5) = .inl (I .int, 2000, .inl x17) → fI (x18 x3) 0 = x4 → fI (x18 x3) 6 = x19 → gB x20 0 1 → tr_RRow_usesB x4 x19 x20 → x20.toInt ≠ 0 → fR (x18 q0) 5 = (γ 9 5) → fI (x18 x3) 3 = x21 → x18 (γ 9 5) = .inl (I .int, 2000, .inl x17) → x22 = x17 x21.toNatClampNeg → x23 = x22 + l3_2 → x24 = upd x17 x21.toNatClampNeg x23 → (∀ b, b ≠ (γ 9 5) → x25 b = x18 b) → x25 (γ 9 5) = .inl (I .int, 2000, .inl x24) → x26.toInt = l5_2.toInt + 1 → R x25 x26 k e1 → R F_2 l5_2 k e1) →
  R s1 s2 k e1
/- tl_RModel_weigh_42: l4, l3; out: l3 -/
def tl_RModel_weigh_42 (D : va_G) (I : FieldType → ClassId) (γ el : Nat → Nat → Nat) (F_1 : Nat → va_E) (q0 : Nat) (l2_1 : Int32) (s1 : Int32) (s2 : Int32) (k : Nat) (e1 : Int32) : Prop := ∀ R : (Int32) → (Int32) → Nat → (Int32) → Prop,
  (∀ (l4_2 : Int32) (l3_2 : Int32) (x1 : Nat → Int32) (x2 : Int32), gB l4_2 0 2147483647 → fR (F_1 q0) 4 = (γ 9 4) → F_1 (γ 9 4) = .inl (I .int, 40, .inl x1) → x2 = x1 l2_1.toNatClampNeg → x2.toInt ≤ l4_2.toInt → R l4_2 l3_2 64 l3_2) →
  (∀ (l4_2 : Int32) (l3_2 : Int32) (x1 : Nat → Int32) (x2 : Int32) (x3 : Int32) (x4 : Int32) (k : Nat) (e1 : Int32), gB l4_2 0 2147483647 → fR (F_1 q0) 4 = (γ 9 4) → F_1 (γ 9 4) = .inl (I .int, 40, .inl x1) → x2 = x1 l2_1.toNatClampNeg → l4_2.toInt < x2.toInt → x3 = l3_2 * (10 : Int32) → x4.toInt = l4_2.toInt + 1 → R x4 x3 k e1 → R l4_2 l3_2 k e1) →
  R s1 s2 k e1
/- tl_RModel_weigh_29: F, l2; out: F -/
def tl_RModel_weigh_29 (D : va_G) (I : FieldType → ClassId) (γ el : Nat → Nat → Nat) (P : List Nat) (F : Nat → va_E) (q0 : Nat) (q1 : Nat) (s1 : Nat → va_E) (s2 : Int32) (k : Nat) (e1 : Nat → va_E) : Prop := ∀ R : (Nat → va_E) → (Int32) → Nat → (Nat → va_E) → Prop,
  (∀ (F_1 : Nat → va_E) (l2_1 : Int32) (x1 : Int32), gB l2_1 0 1000000 → RS D I P F_1 γ el → rStr γ [] F F_1 → (F_1 q0 = F q0) → (F_1 (γ 9 3) = F (γ 9 3)) → fI (F_1 q1) 3 = x1 → x1.toInt ≤ l2_1.toInt → R F_1 l2_1 201 F_1) →
  (∀ (F_1 : Nat → va_E) (l2_1 : Int32) (x1 : Int32) (x2 : Int32) (x3 : Nat) (x4 : Nat) (x5 : Int32) (x6 : Nat → va_E) (x7 : Int32) (k : Nat) (e1 : Nat → va_E), gB l2_1 0 1000000 → RS D I P F_1 γ el → rStr γ [] F F_1 → (F_1 q0 = F q0) → (F_1 (γ 9 3) = F (γ 9 3)) → fI (F_1 q1) 3 = x1 → l2_1.toInt < x1.toInt → tl_RModel_weigh_42 D I γ el F_1 q0 l2_1 (0 : Int32) (1 : Int32) 64 x2 → fR (F_1 q1) 0 = x3 → x4 = el x3 l2_1.toInt.toNat → fI (F_1 x3) 2 = x5 → tr_RCode_get l2_1 x5 → tl_RModel_weigh_74 D I γ el P F q0 x4 x2 F_1 (0 : Int32) 195 x6 → x7.toInt = l2_1.toInt + 1 → R x6 x7 k e1 → R F_1 l2_1 k e1) →
  R s1 s2 k e1
/- tl_RModel_weigh_7: F, l2; out: F -/
def tl_RModel_weigh_7 (D : va_G) (I : FieldType → ClassId) (γ el : Nat → Nat → Nat) (P : List Nat) (F : Nat → va_E) (q0 : Nat) (s1 : Nat → va_E) (s2 : Int32) (k : Nat) (e1 : Nat → va_E) : Prop := ∀ R : (Nat → va_E) → (Int32) → Nat → (Nat → va_E) → Prop,
  (∀ (F_1 : Nat → va_E) (l2_1 : Int32), gB l2_1 0 2000 → RS D I P F_1 γ el → rStr γ [] F F_1 → (F_1 q0 = F q0) → (F_1 (γ 9 3) = F (γ 9 3)) → 2000 ≤ l2_1.toInt → R F_1 l2_1 27 F_1) →
  (∀ (F_1 : Nat → va_E) (l2_1 : Int32) (x1 : Nat → Int32) (x2 : Nat → Int32) (x3 : Nat → va_E) (x4 : Int32) (k : Nat) (e1 : Nat → va_E), gB l2_1 0 2000 → RS D I P F_1 γ el → rStr γ [] F F_1 → (F_1 q0 = F q0) → (F_1 (γ 9 3) = F (γ 9 3)) → l2_1.toInt < 2000 → fR (F_1 q0) 5 = (γ 9 5) → F_1 (γ 9 5) = .inl (I .int, 2000, .inl x1) → x2 = upd x1 l2_1.toNatClampNeg 0 → (∀ b, b ≠ (γ 9 5) → x3 b = F_1 b) → x3 (γ 9 5) = .inl (I .int, 2000, .inl x2) → x4.toInt = l2_1.toInt + 1 → R x3 x4 k e1 → R F_1 l2_1 k e1) →
  R s1 s2 k e1
/- tr_RModel_weigh: F -/
def tr_RModel_weigh (D : va_G) (I : FieldType → ClassId) (γ el : Nat → Nat → Nat) (P : List Nat) (F : Nat → va_E) (q0 : Nat) (q1 : Nat) (o1 : Nat → va_E) : Prop := ∀ R : (Nat → va_E) → Prop,
  (∀ (x1 : Nat → va_E) (x2 : Nat → va_E) (x3 : Nat → va_E), RS D I P x1 γ el → rStr γ [] F x1 → (x1 q0 = F q0) → (x1 (γ 9 3) = F (γ 9 3)) → tr_RModel_findDepth2 D I γ el P F q0 q1 x1 → tl_RModel_weigh_7 D I γ el P F q0 x1 (0 : Int32) 27 x2 → tl_RModel_weigh_29 D I γ el P F q0 q1 x2 (0 : Int32) 201 x3 → R x3) →
  R o1
