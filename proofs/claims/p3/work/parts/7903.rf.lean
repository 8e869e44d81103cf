abbrev ky_273958_SpillForgeModel_behind : gKey := (cX17_behind, 4, "SpillForgeModel", none, [], "behind", fun _ _ => True)
def pt_273958_SpillForgeModel_behind (D : va_G) (I : FieldType → ClassId) (γ el : Nat → Nat → Nat) (P273954 : List Nat) (F273955 : Nat → va_E) (q273956 : Nat) (q273957 : Nat) : Option Value → va_W → Nat → Nat → Prop := fun r w dc ds => ∃ (F276641 : Nat → va_E), r = none ∧ w = va_pl P273954 F276641 ∧ RS D I P273954 F276641 γ el ∧ rStr γ [] F273955 F276641 ∧ dc ≤ 0 ∧ ds ≤ 0 ∧ (F276641 q273956 = F273955 q273956) ∧ (F276641 (γ 9 3) = F273955 (γ 9 3))
set_option maxRecDepth 100000 in
set_option maxHeartbeats 4000000 in
theorem ct_273958_SpillForgeModel_behind (l : Launch) (hl0 : l.stackTraces = false) (D : va_G) (I : FieldType → ClassId) (γ el : Nat → Nat → Nat) (P273954 : List Nat) (F273955 : Nat → va_E) (q273956 : Nat) (q273957 : Nat) (hT : RS D I P273954 F273955 γ el) (htq273956 : rKd γ q273956 10) (htq273957 : rKd γ q273957 2) : CtA (gV D I) l yX17_behind cX17_behind 4 none 1 21 0 0 [.ref q273956, .ref q273957] (va_pl P273954 F273955) (pt_273958_SpillForgeModel_behind D I γ el P273954 F273955 q273956 q273957) gNA := by
  refine CtA_of hl0 (by decide) (Nat.le_of_ble_eq_true rfl) ?_
  refine G_iconst 0 dr_cX17_behind_0 (by decide +kernel) ?_
  refine G_istore_n (L' := [(2, .int 0), (0, .ref q273956), (1, .ref q273957)]) dr_cX17_behind_1 (Nat.le_of_ble_eq_true rfl) rfl ?_
  have hlp2_276092 : ∀ (n2_276092 : Nat) (F276088 : Nat → va_E) (g276087 : Int32), gB g276087 0 32 → RS D I P273954 F276088 γ el → rStr γ [] F273955 F276088 → (F276088 q273956 = F273955 q273956) → (F276088 (γ 9 3) = F273955 (γ 9 3)) → ((33 : Int) - g276087.toInt).toNat < n2_276092 → G (gV D I) l (gRm 1 21 0 0) (gMA (gV D I) (pt_273958_SpillForgeModel_behind D I γ el P273954 F273955 q273956 q273957) gNA 0 0) ky_273958_SpillForgeModel_behind 2 [(2, .int g276087), (0, .ref q273956), (1, .ref q273957)] [] (va_pl P273954 F276088) 0 0 := by
    intro n2_276092
    induction n2_276092 with
    | zero => intro F276088 g276087 bg276087 hT276089 hs276090 x276091 x276092 hm2_276092; exact absurd hm2_276092 (Nat.not_lt_zero _)
    | succ n2_276092 ih2_276092 =>
      intro F276088 g276087 bg276087 hT276089 hs276090 x276091 x276092 hm2_276092
      have hs276094 : rStr γ [] F273955 F276088 := fun b h0 hb hw => (hs276090 b h0 hb hw).trans ((rStr_rf (γ := γ) (W := []) (F := F273955)) b h0 hb hw).symm
      have hs276095 : rStr γ [] F273955 F276088 := rStr_tr (rStr_rf (γ := γ) (W := []) (F := F273955)) hs276094
      refine G_iload_n 0 dr_cX17_behind_2 rfl ?_
      refine G_bipush 32 dr_cX17_behind_3 (by decide +kernel) ?_
      refine G_icmp_ge 21 dr_cX17_behind_5 (by decide +kernel) (fun hc276096 => ?_) (fun hc276096 => ?_)
      · have r276097 : 32 ≤ g276087.toInt := gj_leL hc276096 (show Int32.toInt 32 = 32 by decide)
        have bg276087' : gB g276087 32 32 := ⟨by omega, by omega⟩
        refine G_iconst 0 dr_cX17_behind_21 (by decide +kernel) ?_
        refine G_istore_n (L' := [(2, .int 0), (0, .ref q273956), (1, .ref q273957)]) dr_cX17_behind_22 (Nat.le_of_ble_eq_true rfl) rfl ?_
        have hlp23_276342 : ∀ (n23_276342 : Nat) (F276338 : Nat → va_E) (g276337 : Int32), gB g276337 0 2 → RS D I P273954 F276338 γ el → rStr γ [] F273955 F276338 → (F276338 q273956 = F273955 q273956) → (F276338 (γ 9 3) = F273955 (γ 9 3)) → ((3 : Int) - g276337.toInt).toNat < n23_276342 → G (gV D I) l (gRm 1 21 0 0) (gMA (gV D I) (pt_273958_SpillForgeModel_behind D I γ el P273954 F273955 q273956 q273957) gNA 0 0) ky_273958_SpillForgeModel_behind 23 [(2, .int g276337), (0, .ref q273956), (1, .ref q273957)] [] (va_pl P273954 F276338) 0 0 := by
          intro n23_276342
          induction n23_276342 with
          | zero => intro F276338 g276337 bg276337 hT276339 hs276340 x276341 x276342 hm23_276342; exact absurd hm23_276342 (Nat.not_lt_zero _)
          | succ n23_276342 ih23_276342 =>
            intro F276338 g276337 bg276337 hT276339 hs276340 x276341 x276342 hm23_276342
            have hs276344 : rStr γ [] F276088 F276338 := fun b h0 hb hw => (hs276340 b h0 hb hw).trans (hs276090 b h0 hb hw).symm
            have hs276345 : rStr γ [] F273955 F276338 := rStr_tr hs276090 hs276344
            refine G_iload_n 0 dr_cX17_behind_23 rfl ?_
            refine G_aload_n 2 dr_cX17_behind_24 rfl ?_
            have hm276346 : q273957 ∈ P273954 := RS_m hT276339 htq273957 (by decide)
            obtain ⟨q276348, q276349, p276350, p276351, he276347, ht276358, ht276352, ht276353, ht276354, ht276355, ht276356, bp276350, bp276351, r276357, r276359, r276360⟩ := show rk_2 γ q273957 (F276338 q273957) from RS_o hT276339 htq273957
            have hm276361 : q276349 ∈ P273954 := RS_m hT276339 ht276354 (by decide)
            obtain ⟨p276363, p276364, p276365, p276366, p276367, p276368, p276369, he276362, bp276363, bp276364, bp276367, bp276368, bp276369, r276370, r276371, r276372, r276373, r276374⟩ := show rk_1 γ q276349 (F276338 q276349) from RS_o hT276339 ht276354
            have bp276365 := gB_any p276365
            have bp276366 := gB_any p276366
            refine Gw_callV (As := []) (gV_ok D I) (cp_1809_Block_ways l hl0 D I P273954 F276338 q273957 q276349 q276348 p276350 p276351 p276363 p276364 p276365 p276366 p276367 p276368 p276369 hm276346 hm276361 he276347 he276362 bp276350 bp276351 bp276363 bp276364 bp276367 bp276368 bp276369) dr_cX17_behind_25 ⟨wr_10_166, wr_1_38, wr_10_169, by decide, rfl, (Nat.le_of_ble_eq_true rfl), (Nat.le_of_ble_eq_true rfl)⟩ wr_10_167 wr_10_168 hm276346 he276347 rfl (show 0 + 0 ≤ 0 by first | omega | decide) (show 0 + 0 ≤ 0 by first | omega | decide) (Nat.le_of_ble_eq_true rfl) (fun r276378 w276379 dc276375 ds276376 hp276377 => ?_) (fun _ _ _ _ _ z => z.elim)
            obtain ⟨o276380, rfl, rfl, hdc, hds, bo276380⟩ := hp276377
            change G _ _ _ _ _ _ _ (.int o276380 :: _) _ _ _
            refine G_widen (cs' := 0) (sl' := 0) (by omega) (by omega) ?_
            refine G_icmp_ge 72 dr_cX17_behind_28 (by decide +kernel) (fun hc276381 => ?_) (fun hc276381 => ?_)
            · have r276382 : o276380.toInt ≤ g276337.toInt := gC_le hc276381
              exact G_vretA dr_cX17_behind_72 rfl (Nat.le_of_ble_eq_true rfl) (Nat.le_of_ble_eq_true rfl) ⟨F276338, rfl, rfl, hT276339, hs276340, (Nat.le_of_ble_eq_true rfl), (Nat.le_of_ble_eq_true rfl), x276341, x276342⟩
            · have r276383 : g276337.toInt < o276380.toInt := gC_nle hc276381
              have bg276337' : gB g276337 0 1 := ⟨by omega, by omega⟩
              have bo276380' : gB o276380 1 2 := ⟨by omega, by omega⟩
              refine G_iconst 0 dr_cX17_behind_31 (by decide +kernel) ?_
              refine G_istore_n (L' := [(3, .int 0), (2, .int g276337), (0, .ref q273956), (1, .ref q273957)]) dr_cX17_behind_32 (Nat.le_of_ble_eq_true rfl) rfl ?_
              have hlp33_276485 : ∀ (n33_276485 : Nat) (F276481 : Nat → va_E) (g276480 : Int32), gB g276480 0 32 → RS D I P273954 F276481 γ el → rStr γ [] F273955 F276481 → (F276481 q273956 = F273955 q273956) → (F276481 (γ 9 3) = F273955 (γ 9 3)) → ((33 : Int) - g276480.toInt).toNat < n33_276485 → G (gV D I) l (gRm 1 21 0 0) (gMA (gV D I) (pt_273958_SpillForgeModel_behind D I γ el P273954 F273955 q273956 q273957) gNA 0 0) ky_273958_SpillForgeModel_behind 33 [(3, .int g276480), (2, .int g276337), (0, .ref q273956), (1, .ref q273957)] [] (va_pl P273954 F276481) 0 0 := by
                intro n33_276485
                induction n33_276485 with
                | zero => intro F276481 g276480 bg276480 hT276482 hs276483 x276484 x276485 hm33_276485; exact absurd hm33_276485 (Nat.not_lt_zero _)
                | succ n33_276485 ih33_276485 =>
                  intro F276481 g276480 bg276480 hT276482 hs276483 x276484 x276485 hm33_276485
                  have hs276487 : rStr γ [] F276338 F276481 := fun b h0 hb hw => (hs276483 b h0 hb hw).trans (hs276340 b h0 hb hw).symm
                  have he276488 : F276481 q273957 = .inr (17, [.ref q276348, .ref q276349, .int p276350, .int p276351]) := (hs276487 q273957 (rT0 htq273957 (by decide)) (rT1 htq273957 (by decide)) (rT2 htq273957 (by decide))).trans he276347
                  have he276489 : F276481 q276349 = .inr (20, [.int p276363, .int p276364, .int p276365, .int p276366, .int p276367, .int p276368, .int p276369]) := (hs276487 q276349 (rT0 ht276354 (by decide)) (rT1 ht276354 (by decide)) (rT2 ht276354 (by decide))).trans he276362
                  have hs276490 : rStr γ [] F273955 F276481 := rStr_tr hs276340 hs276487
                  refine G_iload_n 0 dr_cX17_behind_33 rfl ?_
                  refine G_bipush 32 dr_cX17_behind_34 (by decide +kernel) ?_
                  refine G_icmp_ge 66 dr_cX17_behind_36 (by decide +kernel) (fun hc276491 => ?_) (fun hc276491 => ?_)
                  · have r276492 : 32 ≤ g276480.toInt := gj_leL hc276491 (show Int32.toInt 32 = 32 by decide)
                    have bg276480' : gB g276480 32 32 := ⟨by omega, by omega⟩
                    obtain ⟨z276493, hz276493⟩ : ∃ z : Int32, z = g276337 + Int32.ofInt 1 := ⟨_, rfl⟩
                    have ez276493 : z276493.toInt = g276337.toInt + 1 := gI_inc hz276493 (by decide) bg276337' (by decide) (by decide)
                    have bz276493 : gB z276493 1 2 := ⟨by omega, by omega⟩
                    refine G_iinc (L' := [(2, .int z276493), (3, .int g276480), (0, .ref q273956), (1, .ref q273957)]) z276493 1 dr_cX17_behind_66 rfl hz276493.symm (Nat.le_of_ble_eq_true rfl) rfl ?_
                    refine G_goto 23 dr_cX17_behind_69 (by decide +kernel) ?_
                    refine G_lv (L' := [(2, .int z276493), (0, .ref q273956), (1, .ref q273957)]) [0, 2, 3] rfl ?_
                    exact ih23_276342 F276481 z276493 (gB_w bz276493 (by decide) (by decide)) hT276482 hs276483 x276484 x276485 (mz_up ez276493 (Int.le_trans bg276337'.2 (by decide)) hm23_276342)
                  · have r276494 : g276480.toInt < 32 := gj_nleL hc276491 (show Int32.toInt 32 = 32 by decide)
                    have bg276480' : gB g276480 0 31 := ⟨by omega, by omega⟩
                    refine G_aload_n 2 dr_cX17_behind_39 rfl ?_
                    have hm276495 : q273956 ∈ P273954 := RS_m hT276482 htq273956 (by decide)
                    refine rk10_e (show rk_10 γ (F276481 q273956) from RS_o hT276482 htq273956) (fun q276497 q276498 p276499 p276500 p276501 p276502 p276503 p276504 p276505 p276506 p276507 p276508 p276509 p276510 p276511 p276512 p276513 he276496 hB276540 ht276514 ht276515 ht276516 ht276517 ht276518 ht276519 ht276520 ht276521 ht276522 ht276523 ht276524 ht276525 ht276526 ht276527 ht276528 ht276529 ht276530 ht276531 ht276532 ht276533 ht276534 ht276535 ht276536 ht276537 hB276541 => ?_)
                    refine Gp_get 2 hm276495 he276496 dr_cX17_behind_40 (gk_X17 D I) (Nat.le_of_ble_eq_true rfl) wr_7_76 rfl ?_
                    refine G_iload_n 0 dr_cX17_behind_43 rfl ?_
                    refine G_dup2_11 dr_cX17_behind_44 rfl rfl ?_
                    have hm276542 : (γ 9 2) ∈ P273954 := RS_m hT276482 ht276518 (by decide)
                    obtain ⟨f276544, he276543, wf276544⟩ := show rk_35 I (F276481 (γ 9 2)) from RS_o hT276482 ht276518
                    refine Gp_lald 2 hm276542 he276543 dr_cX17_behind_45 rfl (gB_in bg276480' (by decide) (by decide)) (G_namL fun u276545 hu276545 => ?_)
                    have qu276545 : lb_Q u276545 (2000 - 64 * g276480.toInt) := lb_Wld hu276545 wf276544 (by omega) (by omega) (lb_Mod0 (by omega) (by omega))
                    refine G_aload_n 2 dr_cX17_behind_46 rfl ?_
                    refine Gp_get 0 hm276495 he276496 dr_cX17_behind_47 (gk_X17 D I) (Nat.le_of_ble_eq_true rfl) wr_7_74 rfl ?_
                    refine G_aload_n 3 dr_cX17_behind_50 rfl ?_
                    refine G_iload_n 1 dr_cX17_behind_51 rfl ?_
                    refine Gw_callV (As := [.int g276337]) (gV_ok D I) (cp_5050_Block_way l hl0 D I P273954 F276481 q273957 q276349 g276337 q276348 p276350 p276351 p276363 p276364 p276365 p276366 p276367 p276368 p276369 hm276346 hm276361 he276488 he276489 bp276350 bp276351 bp276363 bp276364 bp276367 bp276368 bp276369) dr_cX17_behind_52 ⟨wr_10_170, wr_1_38, wr_10_173, by decide, rfl, (Nat.le_of_ble_eq_true rfl), (Nat.le_of_ble_eq_true rfl)⟩ wr_10_171 wr_10_172 hm276346 he276488 rfl (show 0 + 0 ≤ 0 by first | omega | decide) (show 0 + 0 ≤ 0 by first | omega | decide) (Nat.le_of_ble_eq_true rfl) (fun r276549 w276550 dc276546 ds276547 hp276548 => ?_) (fun _ _ _ _ _ z => z.elim)
                    obtain ⟨o276551, rfl, rfl, hdc, hds, bo276551⟩ := hp276548
                    change G _ _ _ _ _ _ _ (.int o276551 :: _) _ _ _
                    refine G_widen (cs' := 0) (sl' := 0) (by omega) (by omega) ?_
                    have hm276552 : (γ 9 0) ∈ P273954 := RS_m hT276482 ht276516 (by decide)
                    obtain ⟨f276554, he276553, hg276555⟩ := show rk_12 I γ (F276481 (γ 9 0)) from RS_o hT276482 ht276516
                    obtain ⟨q276556, hx276558⟩ : ∃ x, x = γ 10 o276551.toInt.toNat := ⟨_, rfl⟩
                    have ht276557 : rKd γ q276556 11 := by rw [hx276558]; exact (hg276555 _ (show o276551.toInt.toNat < 40 by omega)).2.1
                    refine Gp_aald 5 hm276552 he276553 dr_cX17_behind_55 rfl rfl (gB_in bo276551 (by decide) (by decide)) ?_
                    rw [show f276554 o276551.toNatClampNeg = some q276556 from (hg276555 _ (show o276551.toInt.toNat < 40 by omega)).1.trans (by rw [hx276558])]
                    change G _ _ _ _ _ _ _ (.ref q276556 :: _) _ _ _
                    refine G_iload_n 0 dr_cX17_behind_56 rfl ?_
                    have hm276559 : q276556 ∈ P273954 := RS_m hT276482 ht276557 (by decide)
                    obtain ⟨f276561, he276560, wf276561⟩ := show rk_11 I (F276481 q276556) from RS_o hT276482 ht276557
                    refine Gp_lald 2 hm276559 he276560 dr_cX17_behind_57 rfl (gB_in bg276480' (by decide) (by decide)) (G_namL fun u276562 hu276562 => ?_)
                    have qu276562 : lb_Q u276562 (2000 - 64 * g276480.toInt) := lb_Wld hu276562 wf276561 (by omega) (by omega) (lb_Mod0 (by omega) (by omega))
                    refine G_lor dr_cX17_behind_58 (G_namL fun u276563 hu276563 => ?_)
                    have qu276563 : lb_Q u276563 (2000 - 64 * g276480.toInt) := lb_Qor hu276563 qu276545 qu276562
                    refine Gp_last 2 hm276542 he276543 dr_cX17_behind_59 rfl (gB_in bg276480' (by decide) (by decide)) (fun F276564 e276565 n276566 => ?_)
                    obtain ⟨f276567, hf276567⟩ : ∃ z, z = vp_updL f276544 g276480.toNatClampNeg u276563 := ⟨_, rfl⟩
                    rw [← hf276567] at e276565
                    have he276568 : F276564 q273957 = .inr (17, [.ref q276348, .ref q276349, .int p276350, .int p276351]) := (n276566 q273957 (rn_oa he276488 he276543)).trans he276488
                    have he276569 : F276564 q276349 = .inr (20, [.int p276363, .int p276364, .int p276365, .int p276366, .int p276367, .int p276368, .int p276369]) := (n276566 q276349 (rn_oa he276489 he276543)).trans he276489
                    have he276570 : F276564 q273956 = .inr (22, [.ref (γ 9 0), .ref (γ 9 1), .ref (γ 9 2), .ref (γ 9 3), .ref (γ 9 4), .ref (γ 9 5), .ref (γ 9 6), .ref (γ 9 7), .ref (γ 9 8), .int p276499, .int p276500, .int p276501, .int p276502, .int p276503, .int p276504, .ref (γ 9 15), .ref (γ 9 16), .ref (γ 9 17), .ref (γ 9 18), .ref (γ 9 19), .ref (γ 9 20), .ref (γ 9 21), .ref (γ 9 22), .int p276505, .int p276506, .int p276507, .int p276508, .int p276509, .ref q276497, .ref (γ 9 29), .int p276510, .ref (γ 9 31), .int p276511, .int p276512, .int p276513, .ref q276498]) := (n276566 q273956 (rn_oa he276496 he276543)).trans he276496
                    have he276571 : F276564 (γ 9 0) = .inl (I (.array .long), 40, .inr (.inr (.inr (.inr f276554)))) := (n276566 (γ 9 0) (rn_ref_long he276553 he276543)).trans he276553
                    have he276572 : F276564 q276556 = .inl (I .long, 32, .inr (.inl f276561)) := (n276566 q276556 (rn_ty ht276557 ht276518 (by decide))).trans he276560
                    have he276573 : F276564 (γ 9 2) = .inl (I .long, 32, .inr (.inl f276567)) := e276565
                    have hs276574 : rStr γ [] F273955 F276564 := rStr_put hs276483 n276566 ht276518 (by decide)
                    have kp276575 : F276564 q273956 = F273955 q273956 := (n276566 q273956 (rn_ty htq273956 ht276518 (by decide))).trans x276484
                    have kp276576 : F276564 (γ 9 3) = F273955 (γ 9 3) := (n276566 (γ 9 3) (rn_ty ht276519 ht276518 (by decide))).trans x276485
                    have wf276567 : lb_W f276567 (32) (32) (2000) := lb_Wst hf276567 wf276544 (by omega) (lb_Mod0 (by omega) (by omega)) qu276563
                    obtain ⟨z276577, hz276577⟩ : ∃ z : Int32, z = g276480 + Int32.ofInt 1 := ⟨_, rfl⟩
                    have ez276577 : z276577.toInt = g276480.toInt + 1 := gI_inc hz276577 (by decide) bg276480' (by decide) (by decide)
                    have bz276577 : gB z276577 1 32 := ⟨by omega, by omega⟩
                    refine G_iinc (L' := [(3, .int z276577), (2, .int g276337), (0, .ref q273956), (1, .ref q273957)]) z276577 0 dr_cX17_behind_60 rfl hz276577.symm (Nat.le_of_ble_eq_true rfl) rfl ?_
                    refine G_goto 33 dr_cX17_behind_63 (by decide +kernel) ?_
                    have hT276578 : RS D I P273954 F276564 γ el := RS_set hT276482 n276566 ht276518 (by decide) ⟨f276567, he276573, wf276567⟩
                    exact ih33_276485 F276564 z276577 (gB_w bz276577 (by decide) (by decide)) hT276578 hs276574 kp276575 kp276576 (mz_up ez276577 (Int.le_trans bg276480'.2 (by decide)) hm33_276485)
              exact hlp33_276485 (((33 : Int) - 0).toNat + 1) F276338 0 (gB_w (gBl (show Int32.toInt 0 = 0 by decide)) (by decide) (by decide)) hT276339 hs276340 x276341 x276342 (Nat.lt_succ_self _)
        exact hlp23_276342 (((3 : Int) - 0).toNat + 1) F276088 0 (gB_w (gBl (show Int32.toInt 0 = 0 by decide)) (by decide) (by decide)) hT276089 hs276090 x276091 x276092 (Nat.lt_succ_self _)
      · have r276579 : g276087.toInt < 32 := gj_nleL hc276096 (show Int32.toInt 32 = 32 by decide)
        have bg276087' : gB g276087 0 31 := ⟨by omega, by omega⟩
        refine G_aload_n 1 dr_cX17_behind_8 rfl ?_
        have hm276580 : q273956 ∈ P273954 := RS_m hT276089 htq273956 (by decide)
        refine rk10_e (show rk_10 γ (F276088 q273956) from RS_o hT276089 htq273956) (fun q276582 q276583 p276584 p276585 p276586 p276587 p276588 p276589 p276590 p276591 p276592 p276593 p276594 p276595 p276596 p276597 p276598 he276581 hB276625 ht276599 ht276600 ht276601 ht276602 ht276603 ht276604 ht276605 ht276606 ht276607 ht276608 ht276609 ht276610 ht276611 ht276612 ht276613 ht276614 ht276615 ht276616 ht276617 ht276618 ht276619 ht276620 ht276621 ht276622 hB276626 => ?_)
        refine Gp_get 2 hm276580 he276581 dr_cX17_behind_9 (gk_X17 D I) (Nat.le_of_ble_eq_true rfl) wr_7_76 rfl ?_
        refine G_iload_n 0 dr_cX17_behind_12 rfl ?_
        refine G_lconst 0 dr_cX17_behind_13 rfl ?_
        have hm276627 : (γ 9 2) ∈ P273954 := RS_m hT276089 ht276603 (by decide)
        obtain ⟨f276629, he276628, wf276629⟩ := show rk_35 I (F276088 (γ 9 2)) from RS_o hT276089 ht276603
        refine Gp_last 2 hm276627 he276628 dr_cX17_behind_14 rfl (gB_in bg276087' (by decide) (by decide)) (fun F276630 e276631 n276632 => ?_)
        obtain ⟨f276633, hf276633⟩ : ∃ z, z = vp_updL f276629 g276087.toNatClampNeg 0 := ⟨_, rfl⟩
        rw [← hf276633] at e276631
        have he276634 : F276630 q273956 = .inr (22, [.ref (γ 9 0), .ref (γ 9 1), .ref (γ 9 2), .ref (γ 9 3), .ref (γ 9 4), .ref (γ 9 5), .ref (γ 9 6), .ref (γ 9 7), .ref (γ 9 8), .int p276584, .int p276585, .int p276586, .int p276587, .int p276588, .int p276589, .ref (γ 9 15), .ref (γ 9 16), .ref (γ 9 17), .ref (γ 9 18), .ref (γ 9 19), .ref (γ 9 20), .ref (γ 9 21), .ref (γ 9 22), .int p276590, .int p276591, .int p276592, .int p276593, .int p276594, .ref q276582, .ref (γ 9 29), .int p276595, .ref (γ 9 31), .int p276596, .int p276597, .int p276598, .ref q276583]) := (n276632 q273956 (rn_oa he276581 he276628)).trans he276581
        have he276635 : F276630 (γ 9 2) = .inl (I .long, 32, .inr (.inl f276633)) := e276631
        have hs276636 : rStr γ [] F273955 F276630 := rStr_put hs276090 n276632 ht276603 (by decide)
        have kp276637 : F276630 q273956 = F273955 q273956 := (n276632 q273956 (rn_ty htq273956 ht276603 (by decide))).trans x276091
        have kp276638 : F276630 (γ 9 3) = F273955 (γ 9 3) := (n276632 (γ 9 3) (rn_ty ht276604 ht276603 (by decide))).trans x276092
        have wf276633 : lb_W f276633 (32) (32) (2000) := lb_Wst hf276633 wf276629 (by omega) (lb_Mod0 (by omega) (by omega)) lb_Q0
        obtain ⟨z276639, hz276639⟩ : ∃ z : Int32, z = g276087 + Int32.ofInt 1 := ⟨_, rfl⟩
        have ez276639 : z276639.toInt = g276087.toInt + 1 := gI_inc hz276639 (by decide) bg276087' (by decide) (by decide)
        have bz276639 : gB z276639 1 32 := ⟨by omega, by omega⟩
        refine G_iinc (L' := [(2, .int z276639), (0, .ref q273956), (1, .ref q273957)]) z276639 0 dr_cX17_behind_15 rfl hz276639.symm (Nat.le_of_ble_eq_true rfl) rfl ?_
        refine G_goto 2 dr_cX17_behind_18 (by decide +kernel) ?_
        have hT276640 : RS D I P273954 F276630 γ el := RS_set hT276089 n276632 ht276603 (by decide) ⟨f276633, he276635, wf276633⟩
        exact ih2_276092 F276630 z276639 (gB_w bz276639 (by decide) (by decide)) hT276640 hs276636 kp276637 kp276638 (mz_up ez276639 (Int.le_trans bg276087'.2 (by decide)) hm2_276092)
  exact hlp2_276092 (((33 : Int) - 0).toNat + 1) F273955 0 (gB_w (gBl (show Int32.toInt 0 = 0 by decide)) (by decide) (by decide)) hT (rStr_rf (γ := γ) (W := []) (F := F273955)) rfl rfl (Nat.lt_succ_self _)
abbrev ky_276665_SpillForgeModel_stand : gKey := (cX17_stand, 4, "SpillForgeModel", none, [], "stand", fun _ _ => True)
def pt_276665_SpillForgeModel_stand (D : va_G) (I : FieldType → ClassId) (γ el : Nat → Nat → Nat) (P276660 : List Nat) (F276661 : Nat → va_E) (q276662 : Nat) (q276663 : Nat) (p276664 : Int32) : Option Value → va_W → Nat → Nat → Prop := fun r w dc ds => ∃ (F276904 : Nat → va_E), r = none ∧ w = va_pl P276660 F276904 ∧ RS D I P276660 F276904 γ el ∧ rStr γ [] F276661 F276904 ∧ dc ≤ 0 ∧ ds ≤ 0 ∧ (gIp (p276664.toInt = 0) (∀ n : Nat, rSd (cB (F276904 (γ 9 3))) n ↔ (rSd (cB (F276661 (γ 9 3))) n ∨ nmS (F276661 q276663) n))) ∧ (F276904 q276662 = F276661 q276662)
set_option maxRecDepth 100000 in
set_option maxHeartbeats 4000000 in
theorem ct_276665_SpillForgeModel_stand (l : Launch) (hl0 : l.stackTraces = false) (D : va_G) (I : FieldType → ClassId) (γ el : Nat → Nat → Nat) (P276660 : List Nat) (F276661 : Nat → va_E) (q276662 : Nat) (q276663 : Nat) (p276664 : Int32) (hT : RS D I P276660 F276661 γ el) (htq276662 : rKd γ q276662 10) (htq276663 : rKd γ q276663 1) (bp276664 : gB p276664 0 1) : CtA (gV D I) l yX17_stand cX17_stand 4 none 2 41 0 0 [.ref q276662, .ref q276663, .int p276664] (va_pl P276660 F276661) (pt_276665_SpillForgeModel_stand D I γ el P276660 F276661 q276662 q276663 p276664) gNA := by
  refine CtA_of hl0 (by decide) (Nat.le_of_ble_eq_true rfl) ?_
  have hm276666 : q276662 ∈ P276660 := RS_m hT htq276662 (by decide)
  refine rk10_e (show rk_10 γ (F276661 q276662) from RS_o hT htq276662) (fun q276668 q276669 p276670 p276671 p276672 p276673 p276674 p276675 p276676 p276677 p276678 p276679 p276680 p276681 p276682 p276683 p276684 he276667 hB276711 ht276685 ht276686 ht276687 ht276688 ht276689 ht276690 ht276691 ht276692 ht276693 ht276694 ht276695 ht276696 ht276697 ht276698 ht276699 ht276700 ht276701 ht276702 ht276703 ht276704 ht276705 ht276706 ht276707 ht276708 hB276712 => ?_)
  have hm276713 : (γ 9 3) ∈ P276660 := RS_m hT ht276690 (by decide)
  obtain ⟨f276715, he276714, bf276715⟩ := show rk_14 I (F276661 (γ 9 3)) from RS_o hT ht276690
  have hm276716 : q276663 ∈ P276660 := RS_m hT htq276663 (by decide)
  obtain ⟨p276718, p276719, p276720, p276721, p276722, p276723, p276724, he276717, bp276718, bp276719, bp276722, bp276723, bp276724, r276725, r276726, r276727, r276728, r276729⟩ := show rk_1 γ q276663 (F276661 q276663) from RS_o hT htq276663
  have bp276720 := gB_any p276720
  have bp276721 := gB_any p276721
  refine G_aload_n 1 dr_cX17_stand_0 rfl ?_
  refine G_iload_n 2 dr_cX17_stand_1 rfl ?_
  refine Gw_callS (As := [.ref q276663, .int p276664]) (gV_ok D I) (cp_215553_SpillForgeModel_setOf l hl0 D I P276660 F276661 q276663 p276664 p276718 p276719 p276720 p276721 p276722 p276723 p276724 hm276716 he276717 bp276664 bp276718 bp276719 bp276722 bp276723 bp276724) dr_cX17_stand_2 ⟨wr_10_178, wr_1_14, wr_10_180, by decide, rfl, (Nat.le_of_ble_eq_true rfl), (Nat.le_of_ble_eq_true rfl)⟩ wr_10_179 (show 0 + 0 ≤ 0 by first | omega | decide) (show 0 + 0 ≤ 0 by first | omega | decide) (Nat.le_of_ble_eq_true rfl) (fun r276733 w276734 dc276730 ds276731 hp276732 => ?_) (fun _ _ _ _ _ z => z.elim)
  obtain ⟨o276735, rfl, rfl, hdc, hds, bo276735, x276736⟩ := hp276732
  change G _ _ _ _ _ _ _ (.int o276735 :: _) _ _ _
  refine G_widen (cs' := 0) (sl' := 0) (by omega) (by omega) ?_
  refine G_istore_n (L' := [(3, .int o276735), (0, .ref q276662), (1, .ref q276663), (2, .int p276664)]) dr_cX17_stand_5 (Nat.le_of_ble_eq_true rfl) rfl ?_
  refine G_iload_n 0 dr_cX17_stand_6 rfl ?_
  refine G_if_lt 17 dr_cX17_stand_7 (by decide +kernel) (fun hc276737 => ?_) (fun hc276737 => ?_)
  · have r276738 : o276735.toInt < 0 := gj_lt hc276737 (show Int32.toInt 0 = 0 by decide)
    have bo276735' : gB o276735 (-1) (-1) := ⟨by omega, by omega⟩
    refine G_iload_n 3 dr_cX17_stand_17 rfl ?_
    refine G_if_eq 41 dr_cX17_stand_18 (by decide +kernel) (fun hc276739 => ?_) (fun hc276739 => ?_)
    · have r276740 : p276664.toInt = 0 := gj_eq hc276739 (show Int32.toInt 0 = 0 by decide)
      have bp276664' : gB p276664 0 0 := gB_t0 r276740
      refine G_aload_n 2 dr_cX17_stand_41 rfl ?_
      refine Gw_callV (As := []) (gV_ok D I) (cp_215492_Row_usesA l hl0 D I P276660 F276661 q276663 p276718 p276719 p276720 p276721 p276722 p276723 p276724 hm276716 he276717 bp276718 bp276719 bp276722 bp276723 bp276724) dr_cX17_stand_42 ⟨wr_10_192, wr_1_39, wr_10_195, by decide, rfl, (Nat.le_of_ble_eq_true rfl), (Nat.le_of_ble_eq_true rfl)⟩ wr_10_193 wr_10_194 hm276716 he276717 rfl (show 0 + 0 ≤ 0 by first | omega | decide) (show 0 + 0 ≤ 0 by first | omega | decide) (Nat.le_of_ble_eq_true rfl) (fun r276744 w276745 dc276741 ds276742 hp276743 => ?_) (fun _ _ _ _ _ z => z.elim)
      obtain ⟨o276746, rfl, rfl, hdc, hds, bo276746, x276747⟩ := hp276743
      change G _ _ _ _ _ _ _ (.int o276746 :: _) _ _ _
      refine G_widen (cs' := 0) (sl' := 0) (by omega) (by omega) ?_
      refine G_if_eq 58 dr_cX17_stand_45 (by decide +kernel) (fun hc276748 => ?_) (fun hc276748 => ?_)
      · have r276749 : o276746.toInt = 0 := gj_eq hc276748 (show Int32.toInt 0 = 0 by decide)
        have bo276746' : gB o276746 0 0 := gB_t0 r276749
        refine G_aload_n 2 dr_cX17_stand_58 rfl ?_
        refine Gw_callV (As := []) (gV_ok D I) (cp_215516_Row_usesB l hl0 D I P276660 F276661 q276663 p276718 p276719 p276720 p276721 p276722 p276723 p276724 hm276716 he276717 bp276718 bp276719 bp276722 bp276723 bp276724) dr_cX17_stand_59 ⟨wr_10_196, wr_1_39, wr_10_199, by decide, rfl, (Nat.le_of_ble_eq_true rfl), (Nat.le_of_ble_eq_true rfl)⟩ wr_10_197 wr_10_198 hm276716 he276717 rfl (show 0 + 0 ≤ 0 by first | omega | decide) (show 0 + 0 ≤ 0 by first | omega | decide) (Nat.le_of_ble_eq_true rfl) (fun r276753 w276754 dc276750 ds276751 hp276752 => ?_) (fun _ _ _ _ _ z => z.elim)
        obtain ⟨o276755, rfl, rfl, hdc, hds, bo276755, x276756⟩ := hp276752
        change G _ _ _ _ _ _ _ (.int o276755 :: _) _ _ _
        refine G_widen (cs' := 0) (sl' := 0) (by omega) (by omega) ?_
        refine G_if_eq 75 dr_cX17_stand_62 (by decide +kernel) (fun hc276757 => ?_) (fun hc276757 => ?_)
        · have r276758 : o276755.toInt = 0 := gj_eq hc276757 (show Int32.toInt 0 = 0 by decide)
          have bo276755' : gB o276755 0 0 := gB_t0 r276758
          exact G_vretA dr_cX17_stand_75 rfl (Nat.le_of_ble_eq_true rfl) (Nat.le_of_ble_eq_true rfl) ⟨F276661, rfl, rfl, hT, (rStr_rf (γ := γ) (W := []) (F := F276661)), (Nat.le_of_ble_eq_true rfl), (Nat.le_of_ble_eq_true rfl), (fun _ n => by rw [cB_of he276714, nmS_of he276717]; exact nm_fin false false false (decide_eq_false (show ¬ (p276718.toInt ≤ 21) by omega)) (decide_eq_false (show ¬ (p276718.toInt ≠ 20 ∧ p276718.toInt ≠ 21 ∧ p276718.toInt ≠ 30 ∧ p276723.toInt = 1) by omega)) (decide_eq_false (show ¬ (0 < p276718.toInt ∧ p276718.toInt < 20 ∧ p276724.toInt = 1) by omega)) (by simp)), rfl⟩
        · have r276759 : o276755.toInt ≠ 0 := gj_neq hc276757 (show Int32.toInt 0 = 0 by decide)
          have bo276755' : gB o276755 1 1 := gB_t1 bo276755 r276759
          refine G_aload_n 1 dr_cX17_stand_65 rfl ?_
          refine Gp_get 3 hm276666 he276667 dr_cX17_stand_66 (gk_X17 D I) (Nat.le_of_ble_eq_true rfl) wr_7_77 rfl ?_
          refine G_aload_n 2 dr_cX17_stand_69 rfl ?_
          refine Gp_get 3 hm276716 he276717 dr_cX17_stand_70 (gk_X15 D I) (Nat.le_of_ble_eq_true rfl) wr_9_190 rfl ?_
          refine G_iconst 1 dr_cX17_stand_73 (by decide +kernel) ?_
          refine Gp_zast 3 hm276713 he276714 dr_cX17_stand_74 rfl (gB_inr (by omega) (by omega)) (fun F276760 e276761 n276762 => ?_)
          obtain ⟨f276763, hf276763⟩ : ∃ z, z = upd f276715 p276721.toNatClampNeg (vp_nar .boolean 1) := ⟨_, rfl⟩
          rw [← hf276763] at e276761
          have he276764 : F276760 q276662 = .inr (22, [.ref (γ 9 0), .ref (γ 9 1), .ref (γ 9 2), .ref (γ 9 3), .ref (γ 9 4), .ref (γ 9 5), .ref (γ 9 6), .ref (γ 9 7), .ref (γ 9 8), .int p276670, .int p276671, .int p276672, .int p276673, .int p276674, .int p276675, .ref (γ 9 15), .ref (γ 9 16), .ref (γ 9 17), .ref (γ 9 18), .ref (γ 9 19), .ref (γ 9 20), .ref (γ 9 21), .ref (γ 9 22), .int p276676, .int p276677, .int p276678, .int p276679, .int p276680, .ref q276668, .ref (γ 9 29), .int p276681, .ref (γ 9 31), .int p276682, .int p276683, .int p276684, .ref q276669]) := (n276762 q276662 (rn_oa he276667 he276714)).trans he276667
          have he276765 : F276760 q276663 = .inr (20, [.int p276718, .int p276719, .int p276720, .int p276721, .int p276722, .int p276723, .int p276724]) := (n276762 q276663 (rn_oa he276717 he276714)).trans he276717
          have he276766 : F276760 (γ 9 3) = .inl (I .boolean, 2000, .inl f276763) := e276761
          have hs276767 : rStr γ [] F276661 F276760 := rStr_put (rStr_rf (γ := γ) (W := []) (F := F276661)) n276762 ht276690 (by decide)
          have kp276768 : F276760 q276662 = F276661 q276662 := n276762 q276662 (rn_ty htq276662 ht276690 (by decide))
          have bf276763 : gF f276763 0 1 := gF_upd hf276763 bf276715 (gB_w (gBl (show Int32.toInt 1 = 1 by decide)) (by decide) (by decide))
          have hT276769 : RS D I P276660 F276760 γ el := RS_set hT n276762 ht276690 (by decide) ⟨f276763, he276766, bf276763⟩
          exact G_vretA dr_cX17_stand_75 rfl (Nat.le_of_ble_eq_true rfl) (Nat.le_of_ble_eq_true rfl) ⟨F276760, rfl, rfl, hT276769, hs276767, (Nat.le_of_ble_eq_true rfl), (Nat.le_of_ble_eq_true rfl), (fun _ n => by rw [cB_of he276766, cB_of he276714, nmS_of he276717]; exact nm_fin false false true (decide_eq_false (show ¬ (p276718.toInt ≤ 21) by omega)) (decide_eq_false (show ¬ (p276718.toInt ≠ 20 ∧ p276718.toInt ≠ 21 ∧ p276718.toInt ≠ 30 ∧ p276723.toInt = 1) by omega)) (decide_eq_true (show (0 < p276718.toInt ∧ p276718.toInt < 20 ∧ p276724.toInt = 1) by omega)) (by rw [sd_u hf276763 (by omega) (by omega)]; simp)), kp276768⟩
      · have r276770 : o276746.toInt ≠ 0 := gj_neq hc276748 (show Int32.toInt 0 = 0 by decide)
        have bo276746' : gB o276746 1 1 := gB_t1 bo276746 r276770
        refine G_aload_n 1 dr_cX17_stand_48 rfl ?_
        refine Gp_get 3 hm276666 he276667 dr_cX17_stand_49 (gk_X17 D I) (Nat.le_of_ble_eq_true rfl) wr_7_77 rfl ?_
        refine G_aload_n 2 dr_cX17_stand_52 rfl ?_
        refine Gp_get 2 hm276716 he276717 dr_cX17_stand_53 (gk_X15 D I) (Nat.le_of_ble_eq_true rfl) wr_9_186 rfl ?_
        refine G_iconst 1 dr_cX17_stand_56 (by decide +kernel) ?_
        refine Gp_zast 3 hm276713 he276714 dr_cX17_stand_57 rfl (gB_inr (by omega) (by omega)) (fun F276771 e276772 n276773 => ?_)
        obtain ⟨f276774, hf276774⟩ : ∃ z, z = upd f276715 p276720.toNatClampNeg (vp_nar .boolean 1) := ⟨_, rfl⟩
        rw [← hf276774] at e276772
        have he276775 : F276771 q276662 = .inr (22, [.ref (γ 9 0), .ref (γ 9 1), .ref (γ 9 2), .ref (γ 9 3), .ref (γ 9 4), .ref (γ 9 5), .ref (γ 9 6), .ref (γ 9 7), .ref (γ 9 8), .int p276670, .int p276671, .int p276672, .int p276673, .int p276674, .int p276675, .ref (γ 9 15), .ref (γ 9 16), .ref (γ 9 17), .ref (γ 9 18), .ref (γ 9 19), .ref (γ 9 20), .ref (γ 9 21), .ref (γ 9 22), .int p276676, .int p276677, .int p276678, .int p276679, .int p276680, .ref q276668, .ref (γ 9 29), .int p276681, .ref (γ 9 31), .int p276682, .int p276683, .int p276684, .ref q276669]) := (n276773 q276662 (rn_oa he276667 he276714)).trans he276667
        have he276776 : F276771 q276663 = .inr (20, [.int p276718, .int p276719, .int p276720, .int p276721, .int p276722, .int p276723, .int p276724]) := (n276773 q276663 (rn_oa he276717 he276714)).trans he276717
        have he276777 : F276771 (γ 9 3) = .inl (I .boolean, 2000, .inl f276774) := e276772
        have hs276778 : rStr γ [] F276661 F276771 := rStr_put (rStr_rf (γ := γ) (W := []) (F := F276661)) n276773 ht276690 (by decide)
        have kp276779 : F276771 q276662 = F276661 q276662 := n276773 q276662 (rn_ty htq276662 ht276690 (by decide))
        have bf276774 : gF f276774 0 1 := gF_upd hf276774 bf276715 (gB_w (gBl (show Int32.toInt 1 = 1 by decide)) (by decide) (by decide))
        refine G_aload_n 2 dr_cX17_stand_58 rfl ?_
        have hT276780 : RS D I P276660 F276771 γ el := RS_set hT n276773 ht276690 (by decide) ⟨f276774, he276777, bf276774⟩
        refine Gw_callV (As := []) (gV_ok D I) (cp_215516_Row_usesB l hl0 D I P276660 F276771 q276663 p276718 p276719 p276720 p276721 p276722 p276723 p276724 hm276716 he276776 bp276718 bp276719 bp276722 bp276723 bp276724) dr_cX17_stand_59 ⟨wr_10_196, wr_1_39, wr_10_199, by decide, rfl, (Nat.le_of_ble_eq_true rfl), (Nat.le_of_ble_eq_true rfl)⟩ wr_10_197 wr_10_198 hm276716 he276776 rfl (show 0 + 0 ≤ 0 by first | omega | decide) (show 0 + 0 ≤ 0 by first | omega | decide) (Nat.le_of_ble_eq_true rfl) (fun r276784 w276785 dc276781 ds276782 hp276783 => ?_) (fun _ _ _ _ _ z => z.elim)
        obtain ⟨o276786, rfl, rfl, hdc, hds, bo276786, x276787⟩ := hp276783
        change G _ _ _ _ _ _ _ (.int o276786 :: _) _ _ _
        refine G_widen (cs' := 0) (sl' := 0) (by omega) (by omega) ?_
        refine G_if_eq 75 dr_cX17_stand_62 (by decide +kernel) (fun hc276788 => ?_) (fun hc276788 => ?_)
        · have r276789 : o276786.toInt = 0 := gj_eq hc276788 (show Int32.toInt 0 = 0 by decide)
          have bo276786' : gB o276786 0 0 := gB_t0 r276789
          exact G_vretA dr_cX17_stand_75 rfl (Nat.le_of_ble_eq_true rfl) (Nat.le_of_ble_eq_true rfl) ⟨F276771, rfl, rfl, hT276780, hs276778, (Nat.le_of_ble_eq_true rfl), (Nat.le_of_ble_eq_true rfl), (fun _ n => by rw [cB_of he276777, cB_of he276714, nmS_of he276717]; exact nm_fin false true false (decide_eq_false (show ¬ (p276718.toInt ≤ 21) by omega)) (decide_eq_true (show (p276718.toInt ≠ 20 ∧ p276718.toInt ≠ 21 ∧ p276718.toInt ≠ 30 ∧ p276723.toInt = 1) by omega)) (decide_eq_false (show ¬ (0 < p276718.toInt ∧ p276718.toInt < 20 ∧ p276724.toInt = 1) by omega)) (by rw [sd_u hf276774 (by omega) (by omega)]; simp)), kp276779⟩
        · have r276790 : o276786.toInt ≠ 0 := gj_neq hc276788 (show Int32.toInt 0 = 0 by decide)
          have bo276786' : gB o276786 1 1 := gB_t1 bo276786 r276790
          refine G_aload_n 1 dr_cX17_stand_65 rfl ?_
          refine Gp_get 3 hm276666 he276775 dr_cX17_stand_66 (gk_X17 D I) (Nat.le_of_ble_eq_true rfl) wr_7_77 rfl ?_
          refine G_aload_n 2 dr_cX17_stand_69 rfl ?_
          refine Gp_get 3 hm276716 he276776 dr_cX17_stand_70 (gk_X15 D I) (Nat.le_of_ble_eq_true rfl) wr_9_190 rfl ?_
          refine G_iconst 1 dr_cX17_stand_73 (by decide +kernel) ?_
          refine Gp_zast 3 hm276713 he276777 dr_cX17_stand_74 rfl (gB_inr (by omega) (by omega)) (fun F276791 e276792 n276793 => ?_)
          obtain ⟨f276794, hf276794⟩ : ∃ z, z = upd f276774 p276721.toNatClampNeg (vp_nar .boolean 1) := ⟨_, rfl⟩
          rw [← hf276794] at e276792
          have he276795 : F276791 q276662 = .inr (22, [.ref (γ 9 0), .ref (γ 9 1), .ref (γ 9 2), .ref (γ 9 3), .ref (γ 9 4), .ref (γ 9 5), .ref (γ 9 6), .ref (γ 9 7), .ref (γ 9 8), .int p276670, .int p276671, .int p276672, .int p276673, .int p276674, .int p276675, .ref (γ 9 15), .ref (γ 9 16), .ref (γ 9 17), .ref (γ 9 18), .ref (γ 9 19), .ref (γ 9 20), .ref (γ 9 21), .ref (γ 9 22), .int p276676, .int p276677, .int p276678, .int p276679, .int p276680, .ref q276668, .ref (γ 9 29), .int p276681, .ref (γ 9 31), .int p276682, .int p276683, .int p276684, .ref q276669]) := (n276793 q276662 (rn_oa he276775 he276777)).trans he276775
          have he276796 : F276791 q276663 = .inr (20, [.int p276718, .int p276719, .int p276720, .int p276721, .int p276722, .int p276723, .int p276724]) := (n276793 q276663 (rn_oa he276776 he276777)).trans he276776
          have he276797 : F276791 (γ 9 3) = .inl (I .boolean, 2000, .inl f276794) := e276792
          have hs276798 : rStr γ [] F276661 F276791 := rStr_put hs276778 n276793 ht276690 (by decide)
          have kp276799 : F276791 q276662 = F276661 q276662 := (n276793 q276662 (rn_ty htq276662 ht276690 (by decide))).trans kp276779
          have bf276794 : gF f276794 0 1 := gF_upd hf276794 bf276774 (gB_w (gBl (show Int32.toInt 1 = 1 by decide)) (by decide) (by decide))
          have hT276800 : RS D I P276660 F276791 γ el := RS_set hT276780 n276793 ht276690 (by decide) ⟨f276794, he276797, bf276794⟩
          exact G_vretA dr_cX17_stand_75 rfl (Nat.le_of_ble_eq_true rfl) (Nat.le_of_ble_eq_true rfl) ⟨F276791, rfl, rfl, hT276800, hs276798, (Nat.le_of_ble_eq_true rfl), (Nat.le_of_ble_eq_true rfl), (fun _ n => by rw [cB_of he276797, cB_of he276714, nmS_of he276717]; exact nm_fin false true true (decide_eq_false (show ¬ (p276718.toInt ≤ 21) by omega)) (decide_eq_true (show (p276718.toInt ≠ 20 ∧ p276718.toInt ≠ 21 ∧ p276718.toInt ≠ 30 ∧ p276723.toInt = 1) by omega)) (decide_eq_true (show (0 < p276718.toInt ∧ p276718.toInt < 20 ∧ p276724.toInt = 1) by omega)) (by rw [sd_u hf276794 (by omega) (by omega), sd_u hf276774 (by omega) (by omega)]; simp)), kp276799⟩
    · have r276801 : p276664.toInt ≠ 0 := gj_neq hc276739 (show Int32.toInt 0 = 0 by decide)
      have bp276664' : gB p276664 1 1 := gB_t1 bp276664 r276801
      refine G_aload_n 2 dr_cX17_stand_21 rfl ?_
      refine Gp_get 0 hm276716 he276717 dr_cX17_stand_22 (gk_X15 D I) (Nat.le_of_ble_eq_true rfl) wr_9_177 rfl ?_
      refine G_bipush 21 dr_cX17_stand_25 (by decide +kernel) ?_
      refine G_icmp_ne 40 dr_cX17_stand_27 (by decide +kernel) (fun hc276802 => ?_) (fun hc276802 => ?_)
      · have r276803 : p276718.toInt ≠ 21 := gj_neq hc276802 (show Int32.toInt 21 = 21 by decide)
        exact G_vretA dr_cX17_stand_40 rfl (Nat.le_of_ble_eq_true rfl) (Nat.le_of_ble_eq_true rfl) ⟨F276661, rfl, rfl, hT, (rStr_rf (γ := γ) (W := []) (F := F276661)), (Nat.le_of_ble_eq_true rfl), (Nat.le_of_ble_eq_true rfl), (fun h => absurd h (by omega)), rfl⟩
      · have r276804 : p276718.toInt = 21 := gj_eq hc276802 (show Int32.toInt 21 = 21 by decide)
        have bp276718' : gB p276718 21 21 := ⟨by omega, by omega⟩
        refine G_aload_n 1 dr_cX17_stand_30 rfl ?_
        refine Gp_get 3 hm276666 he276667 dr_cX17_stand_31 (gk_X17 D I) (Nat.le_of_ble_eq_true rfl) wr_7_77 rfl ?_
        refine G_aload_n 2 dr_cX17_stand_34 rfl ?_
        refine Gp_get 4 hm276716 he276717 dr_cX17_stand_35 (gk_X15 D I) (Nat.le_of_ble_eq_true rfl) wr_9_193 rfl ?_
        refine G_iconst 1 dr_cX17_stand_38 (by decide +kernel) ?_
        refine Gp_zast 3 hm276713 he276714 dr_cX17_stand_39 rfl (gB_in bp276722 (by decide) (by decide)) (fun F276805 e276806 n276807 => ?_)
        obtain ⟨f276808, hf276808⟩ : ∃ z, z = upd f276715 p276722.toNatClampNeg (vp_nar .boolean 1) := ⟨_, rfl⟩
        rw [← hf276808] at e276806
        have he276809 : F276805 q276662 = .inr (22, [.ref (γ 9 0), .ref (γ 9 1), .ref (γ 9 2), .ref (γ 9 3), .ref (γ 9 4), .ref (γ 9 5), .ref (γ 9 6), .ref (γ 9 7), .ref (γ 9 8), .int p276670, .int p276671, .int p276672, .int p276673, .int p276674, .int p276675, .ref (γ 9 15), .ref (γ 9 16), .ref (γ 9 17), .ref (γ 9 18), .ref (γ 9 19), .ref (γ 9 20), .ref (γ 9 21), .ref (γ 9 22), .int p276676, .int p276677, .int p276678, .int p276679, .int p276680, .ref q276668, .ref (γ 9 29), .int p276681, .ref (γ 9 31), .int p276682, .int p276683, .int p276684, .ref q276669]) := (n276807 q276662 (rn_oa he276667 he276714)).trans he276667
        have he276810 : F276805 q276663 = .inr (20, [.int p276718, .int p276719, .int p276720, .int p276721, .int p276722, .int p276723, .int p276724]) := (n276807 q276663 (rn_oa he276717 he276714)).trans he276717
        have he276811 : F276805 (γ 9 3) = .inl (I .boolean, 2000, .inl f276808) := e276806
        have hs276812 : rStr γ [] F276661 F276805 := rStr_put (rStr_rf (γ := γ) (W := []) (F := F276661)) n276807 ht276690 (by decide)
        have kp276813 : F276805 q276662 = F276661 q276662 := n276807 q276662 (rn_ty htq276662 ht276690 (by decide))
        have bf276808 : gF f276808 0 1 := gF_upd hf276808 bf276715 (gB_w (gBl (show Int32.toInt 1 = 1 by decide)) (by decide) (by decide))
        have hT276814 : RS D I P276660 F276805 γ el := RS_set hT n276807 ht276690 (by decide) ⟨f276808, he276811, bf276808⟩
        exact G_vretA dr_cX17_stand_40 rfl (Nat.le_of_ble_eq_true rfl) (Nat.le_of_ble_eq_true rfl) ⟨F276805, rfl, rfl, hT276814, hs276812, (Nat.le_of_ble_eq_true rfl), (Nat.le_of_ble_eq_true rfl), (fun h => absurd h (by omega)), kp276813⟩
  · have r276815 : 0 ≤ o276735.toInt := gj_nlt hc276737 (show Int32.toInt 0 = 0 by decide)
    have bo276735' : gB o276735 0 1999 := ⟨by omega, by omega⟩
    refine G_aload_n 1 dr_cX17_stand_10 rfl ?_
    refine Gp_get 3 hm276666 he276667 dr_cX17_stand_11 (gk_X17 D I) (Nat.le_of_ble_eq_true rfl) wr_7_77 rfl ?_
    refine G_iload_n 0 dr_cX17_stand_14 rfl ?_
    refine G_iconst 1 dr_cX17_stand_15 (by decide +kernel) ?_
    refine Gp_zast 3 hm276713 he276714 dr_cX17_stand_16 rfl (gB_in bo276735' (by decide) (by decide)) (fun F276816 e276817 n276818 => ?_)
    obtain ⟨f276819, hf276819⟩ : ∃ z, z = upd f276715 o276735.toNatClampNeg (vp_nar .boolean 1) := ⟨_, rfl⟩
    rw [← hf276819] at e276817
    have he276820 : F276816 q276662 = .inr (22, [.ref (γ 9 0), .ref (γ 9 1), .ref (γ 9 2), .ref (γ 9 3), .ref (γ 9 4), .ref (γ 9 5), .ref (γ 9 6), .ref (γ 9 7), .ref (γ 9 8), .int p276670, .int p276671, .int p276672, .int p276673, .int p276674, .int p276675, .ref (γ 9 15), .ref (γ 9 16), .ref (γ 9 17), .ref (γ 9 18), .ref (γ 9 19), .ref (γ 9 20), .ref (γ 9 21), .ref (γ 9 22), .int p276676, .int p276677, .int p276678, .int p276679, .int p276680, .ref q276668, .ref (γ 9 29), .int p276681, .ref (γ 9 31), .int p276682, .int p276683, .int p276684, .ref q276669]) := (n276818 q276662 (rn_oa he276667 he276714)).trans he276667
    have he276821 : F276816 q276663 = .inr (20, [.int p276718, .int p276719, .int p276720, .int p276721, .int p276722, .int p276723, .int p276724]) := (n276818 q276663 (rn_oa he276717 he276714)).trans he276717
    have he276822 : F276816 (γ 9 3) = .inl (I .boolean, 2000, .inl f276819) := e276817
    have hs276823 : rStr γ [] F276661 F276816 := rStr_put (rStr_rf (γ := γ) (W := []) (F := F276661)) n276818 ht276690 (by decide)
    have kp276824 : F276816 q276662 = F276661 q276662 := n276818 q276662 (rn_ty htq276662 ht276690 (by decide))
    have bf276819 : gF f276819 0 1 := gF_upd hf276819 bf276715 (gB_w (gBl (show Int32.toInt 1 = 1 by decide)) (by decide) (by decide))
    refine G_iload_n 3 dr_cX17_stand_17 rfl ?_
    refine G_if_eq 41 dr_cX17_stand_18 (by decide +kernel) (fun hc276825 => ?_) (fun hc276825 => ?_)
    · have r276826 : p276664.toInt = 0 := gj_eq hc276825 (show Int32.toInt 0 = 0 by decide)
      have bp276664' : gB p276664 0 0 := gB_t0 r276826
      refine G_aload_n 2 dr_cX17_stand_41 rfl ?_
      have hT276827 : RS D I P276660 F276816 γ el := RS_set hT n276818 ht276690 (by decide) ⟨f276819, he276822, bf276819⟩
      refine Gw_callV (As := []) (gV_ok D I) (cp_215492_Row_usesA l hl0 D I P276660 F276816 q276663 p276718 p276719 p276720 p276721 p276722 p276723 p276724 hm276716 he276821 bp276718 bp276719 bp276722 bp276723 bp276724) dr_cX17_stand_42 ⟨wr_10_192, wr_1_39, wr_10_195, by decide, rfl, (Nat.le_of_ble_eq_true rfl), (Nat.le_of_ble_eq_true rfl)⟩ wr_10_193 wr_10_194 hm276716 he276821 rfl (show 0 + 0 ≤ 0 by first | omega | decide) (show 0 + 0 ≤ 0 by first | omega | decide) (Nat.le_of_ble_eq_true rfl) (fun r276831 w276832 dc276828 ds276829 hp276830 => ?_) (fun _ _ _ _ _ z => z.elim)
      obtain ⟨o276833, rfl, rfl, hdc, hds, bo276833, x276834⟩ := hp276830
      change G _ _ _ _ _ _ _ (.int o276833 :: _) _ _ _
      refine G_widen (cs' := 0) (sl' := 0) (by omega) (by omega) ?_
      refine G_if_eq 58 dr_cX17_stand_45 (by decide +kernel) (fun hc276835 => ?_) (fun hc276835 => ?_)
      · have r276836 : o276833.toInt = 0 := gj_eq hc276835 (show Int32.toInt 0 = 0 by decide)
        have bo276833' : gB o276833 0 0 := gB_t0 r276836
        refine G_aload_n 2 dr_cX17_stand_58 rfl ?_
        refine Gw_callV (As := []) (gV_ok D I) (cp_215516_Row_usesB l hl0 D I P276660 F276816 q276663 p276718 p276719 p276720 p276721 p276722 p276723 p276724 hm276716 he276821 bp276718 bp276719 bp276722 bp276723 bp276724) dr_cX17_stand_59 ⟨wr_10_196, wr_1_39, wr_10_199, by decide, rfl, (Nat.le_of_ble_eq_true rfl), (Nat.le_of_ble_eq_true rfl)⟩ wr_10_197 wr_10_198 hm276716 he276821 rfl (show 0 + 0 ≤ 0 by first | omega | decide) (show 0 + 0 ≤ 0 by first | omega | decide) (Nat.le_of_ble_eq_true rfl) (fun r276840 w276841 dc276837 ds276838 hp276839 => ?_) (fun _ _ _ _ _ z => z.elim)
        obtain ⟨o276842, rfl, rfl, hdc, hds, bo276842, x276843⟩ := hp276839
        change G _ _ _ _ _ _ _ (.int o276842 :: _) _ _ _
        refine G_widen (cs' := 0) (sl' := 0) (by omega) (by omega) ?_
        refine G_if_eq 75 dr_cX17_stand_62 (by decide +kernel) (fun hc276844 => ?_) (fun hc276844 => ?_)
        · have r276845 : o276842.toInt = 0 := gj_eq hc276844 (show Int32.toInt 0 = 0 by decide)
          have bo276842' : gB o276842 0 0 := gB_t0 r276845
          exact G_vretA dr_cX17_stand_75 rfl (Nat.le_of_ble_eq_true rfl) (Nat.le_of_ble_eq_true rfl) ⟨F276816, rfl, rfl, hT276827, hs276823, (Nat.le_of_ble_eq_true rfl), (Nat.le_of_ble_eq_true rfl), (fun _ n => by rw [cB_of he276822, cB_of he276714, nmS_of he276717]; exact nm_fin true false false (decide_eq_true (show (p276718.toInt ≤ 21) by omega)) (decide_eq_false (show ¬ (p276718.toInt ≠ 20 ∧ p276718.toInt ≠ 21 ∧ p276718.toInt ≠ 30 ∧ p276723.toInt = 1) by omega)) (decide_eq_false (show ¬ (0 < p276718.toInt ∧ p276718.toInt < 20 ∧ p276724.toInt = 1) by omega)) (by rw [sd_u hf276819 (by omega) (by omega), show o276735.toInt = p276719.toInt by omega]; simp)), kp276824⟩
        · have r276846 : o276842.toInt ≠ 0 := gj_neq hc276844 (show Int32.toInt 0 = 0 by decide)
          have bo276842' : gB o276842 1 1 := gB_t1 bo276842 r276846
          refine G_aload_n 1 dr_cX17_stand_65 rfl ?_
          refine Gp_get 3 hm276666 he276820 dr_cX17_stand_66 (gk_X17 D I) (Nat.le_of_ble_eq_true rfl) wr_7_77 rfl ?_
          refine G_aload_n 2 dr_cX17_stand_69 rfl ?_
          refine Gp_get 3 hm276716 he276821 dr_cX17_stand_70 (gk_X15 D I) (Nat.le_of_ble_eq_true rfl) wr_9_190 rfl ?_
          refine G_iconst 1 dr_cX17_stand_73 (by decide +kernel) ?_
          refine Gp_zast 3 hm276713 he276822 dr_cX17_stand_74 rfl (gB_inr (by omega) (by omega)) (fun F276847 e276848 n276849 => ?_)
          obtain ⟨f276850, hf276850⟩ : ∃ z, z = upd f276819 p276721.toNatClampNeg (vp_nar .boolean 1) := ⟨_, rfl⟩
          rw [← hf276850] at e276848
          have he276851 : F276847 q276662 = .inr (22, [.ref (γ 9 0), .ref (γ 9 1), .ref (γ 9 2), .ref (γ 9 3), .ref (γ 9 4), .ref (γ 9 5), .ref (γ 9 6), .ref (γ 9 7), .ref (γ 9 8), .int p276670, .int p276671, .int p276672, .int p276673, .int p276674, .int p276675, .ref (γ 9 15), .ref (γ 9 16), .ref (γ 9 17), .ref (γ 9 18), .ref (γ 9 19), .ref (γ 9 20), .ref (γ 9 21), .ref (γ 9 22), .int p276676, .int p276677, .int p276678, .int p276679, .int p276680, .ref q276668, .ref (γ 9 29), .int p276681, .ref (γ 9 31), .int p276682, .int p276683, .int p276684, .ref q276669]) := (n276849 q276662 (rn_oa he276820 he276822)).trans he276820
          have he276852 : F276847 q276663 = .inr (20, [.int p276718, .int p276719, .int p276720, .int p276721, .int p276722, .int p276723, .int p276724]) := (n276849 q276663 (rn_oa he276821 he276822)).trans he276821
          have he276853 : F276847 (γ 9 3) = .inl (I .boolean, 2000, .inl f276850) := e276848
          have hs276854 : rStr γ [] F276661 F276847 := rStr_put hs276823 n276849 ht276690 (by decide)
          have kp276855 : F276847 q276662 = F276661 q276662 := (n276849 q276662 (rn_ty htq276662 ht276690 (by decide))).trans kp276824
          have bf276850 : gF f276850 0 1 := gF_upd hf276850 bf276819 (gB_w (gBl (show Int32.toInt 1 = 1 by decide)) (by decide) (by decide))
          have hT276856 : RS D I P276660 F276847 γ el := RS_set hT276827 n276849 ht276690 (by decide) ⟨f276850, he276853, bf276850⟩
          exact G_vretA dr_cX17_stand_75 rfl (Nat.le_of_ble_eq_true rfl) (Nat.le_of_ble_eq_true rfl) ⟨F276847, rfl, rfl, hT276856, hs276854, (Nat.le_of_ble_eq_true rfl), (Nat.le_of_ble_eq_true rfl), (fun _ n => by rw [cB_of he276853, cB_of he276714, nmS_of he276717]; exact nm_fin true false true (decide_eq_true (show (p276718.toInt ≤ 21) by omega)) (decide_eq_false (show ¬ (p276718.toInt ≠ 20 ∧ p276718.toInt ≠ 21 ∧ p276718.toInt ≠ 30 ∧ p276723.toInt = 1) by omega)) (decide_eq_true (show (0 < p276718.toInt ∧ p276718.toInt < 20 ∧ p276724.toInt = 1) by omega)) (by rw [sd_u hf276850 (by omega) (by omega), sd_u hf276819 (by omega) (by omega), show o276735.toInt = p276719.toInt by omega]; simp)), kp276855⟩
      · have r276857 : o276833.toInt ≠ 0 := gj_neq hc276835 (show Int32.toInt 0 = 0 by decide)
        have bo276833' : gB o276833 1 1 := gB_t1 bo276833 r276857
        refine G_aload_n 1 dr_cX17_stand_48 rfl ?_
        refine Gp_get 3 hm276666 he276820 dr_cX17_stand_49 (gk_X17 D I) (Nat.le_of_ble_eq_true rfl) wr_7_77 rfl ?_
        refine G_aload_n 2 dr_cX17_stand_52 rfl ?_
        refine Gp_get 2 hm276716 he276821 dr_cX17_stand_53 (gk_X15 D I) (Nat.le_of_ble_eq_true rfl) wr_9_186 rfl ?_
        refine G_iconst 1 dr_cX17_stand_56 (by decide +kernel) ?_
        refine Gp_zast 3 hm276713 he276822 dr_cX17_stand_57 rfl (gB_inr (by omega) (by omega)) (fun F276858 e276859 n276860 => ?_)
        obtain ⟨f276861, hf276861⟩ : ∃ z, z = upd f276819 p276720.toNatClampNeg (vp_nar .boolean 1) := ⟨_, rfl⟩
        rw [← hf276861] at e276859
        have he276862 : F276858 q276662 = .inr (22, [.ref (γ 9 0), .ref (γ 9 1), .ref (γ 9 2), .ref (γ 9 3), .ref (γ 9 4), .ref (γ 9 5), .ref (γ 9 6), .ref (γ 9 7), .ref (γ 9 8), .int p276670, .int p276671, .int p276672, .int p276673, .int p276674, .int p276675, .ref (γ 9 15), .ref (γ 9 16), .ref (γ 9 17), .ref (γ 9 18), .ref (γ 9 19), .ref (γ 9 20), .ref (γ 9 21), .ref (γ 9 22), .int p276676, .int p276677, .int p276678, .int p276679, .int p276680, .ref q276668, .ref (γ 9 29), .int p276681, .ref (γ 9 31), .int p276682, .int p276683, .int p276684, .ref q276669]) := (n276860 q276662 (rn_oa he276820 he276822)).trans he276820
        have he276863 : F276858 q276663 = .inr (20, [.int p276718, .int p276719, .int p276720, .int p276721, .int p276722, .int p276723, .int p276724]) := (n276860 q276663 (rn_oa he276821 he276822)).trans he276821
        have he276864 : F276858 (γ 9 3) = .inl (I .boolean, 2000, .inl f276861) := e276859
        have hs276865 : rStr γ [] F276661 F276858 := rStr_put hs276823 n276860 ht276690 (by decide)
        have kp276866 : F276858 q276662 = F276661 q276662 := (n276860 q276662 (rn_ty htq276662 ht276690 (by decide))).trans kp276824
        have bf276861 : gF f276861 0 1 := gF_upd hf276861 bf276819 (gB_w (gBl (show Int32.toInt 1 = 1 by decide)) (by decide) (by decide))
        refine G_aload_n 2 dr_cX17_stand_58 rfl ?_
        have hT276867 : RS D I P276660 F276858 γ el := RS_set hT276827 n276860 ht276690 (by decide) ⟨f276861, he276864, bf276861⟩
        refine Gw_callV (As := []) (gV_ok D I) (cp_215516_Row_usesB l hl0 D I P276660 F276858 q276663 p276718 p276719 p276720 p276721 p276722 p276723 p276724 hm276716 he276863 bp276718 bp276719 bp276722 bp276723 bp276724) dr_cX17_stand_59 ⟨wr_10_196, wr_1_39, wr_10_199, by decide, rfl, (Nat.le_of_ble_eq_true rfl), (Nat.le_of_ble_eq_true rfl)⟩ wr_10_197 wr_10_198 hm276716 he276863 rfl (show 0 + 0 ≤ 0 by first | omega | decide) (show 0 + 0 ≤ 0 by first | omega | decide) (Nat.le_of_ble_eq_true rfl) (fun r276871 w276872 dc276868 ds276869 hp276870 => ?_) (fun _ _ _ _ _ z => z.elim)
        obtain ⟨o276873, rfl, rfl, hdc, hds, bo276873, x276874⟩ := hp276870
        change G _ _ _ _ _ _ _ (.int o276873 :: _) _ _ _
        refine G_widen (cs' := 0) (sl' := 0) (by omega) (by omega) ?_
        refine G_if_eq 75 dr_cX17_stand_62 (by decide +kernel) (fun hc276875 => ?_) (fun hc276875 => ?_)
        · have r276876 : o276873.toInt = 0 := gj_eq hc276875 (show Int32.toInt 0 = 0 by decide)
          have bo276873' : gB o276873 0 0 := gB_t0 r276876
          exact G_vretA dr_cX17_stand_75 rfl (Nat.le_of_ble_eq_true rfl) (Nat.le_of_ble_eq_true rfl) ⟨F276858, rfl, rfl, hT276867, hs276865, (Nat.le_of_ble_eq_true rfl), (Nat.le_of_ble_eq_true rfl), (fun _ n => by rw [cB_of he276864, cB_of he276714, nmS_of he276717]; exact nm_fin true true false (decide_eq_true (show (p276718.toInt ≤ 21) by omega)) (decide_eq_true (show (p276718.toInt ≠ 20 ∧ p276718.toInt ≠ 21 ∧ p276718.toInt ≠ 30 ∧ p276723.toInt = 1) by omega)) (decide_eq_false (show ¬ (0 < p276718.toInt ∧ p276718.toInt < 20 ∧ p276724.toInt = 1) by omega)) (by rw [sd_u hf276861 (by omega) (by omega), sd_u hf276819 (by omega) (by omega), show o276735.toInt = p276719.toInt by omega]; simp)), kp276866⟩
        · have r276877 : o276873.toInt ≠ 0 := gj_neq hc276875 (show Int32.toInt 0 = 0 by decide)
          have bo276873' : gB o276873 1 1 := gB_t1 bo276873 r276877
          refine G_aload_n 1 dr_cX17_stand_65 rfl ?_
          refine Gp_get 3 hm276666 he276862 dr_cX17_stand_66 (gk_X17 D I) (Nat.le_of_ble_eq_true rfl) wr_7_77 rfl ?_
          refine G_aload_n 2 dr_cX17_stand_69 rfl ?_
          refine Gp_get 3 hm276716 he276863 dr_cX17_stand_70 (gk_X15 D I) (Nat.le_of_ble_eq_true rfl) wr_9_190 rfl ?_
          refine G_iconst 1 dr_cX17_stand_73 (by decide +kernel) ?_
          refine Gp_zast 3 hm276713 he276864 dr_cX17_stand_74 rfl (gB_inr (by omega) (by omega)) (fun F276878 e276879 n276880 => ?_)
          obtain ⟨f276881, hf276881⟩ : ∃ z, z = upd f276861 p276721.toNatClampNeg (vp_nar .boolean 1) := ⟨_, rfl⟩
          rw [← hf276881] at e276879
          have he276882 : F276878 q276662 = .inr (22, [.ref (γ 9 0), .ref (γ 9 1), .ref (γ 9 2), .ref (γ 9 3), .ref (γ 9 4), .ref (γ 9 5), .ref (γ 9 6), .ref (γ 9 7), .ref (γ 9 8), .int p276670, .int p276671, .int p276672, .int p276673, .int p276674, .int p276675, .ref (γ 9 15), .ref (γ 9 16), .ref (γ 9 17), .ref (γ 9 18), .ref (γ 9 19), .ref (γ 9 20), .ref (γ 9 21), .ref (γ 9 22), .int p276676, .int p276677, .int p276678, .int p276679, .int p276680, .ref q276668, .ref (γ 9 29), .int p276681, .ref (γ 9 31), .int p276682, .int p276683, .int p276684, .ref q276669]) := (n276880 q276662 (rn_oa he276862 he276864)).trans he276862
          have he276883 : F276878 q276663 = .inr (20, [.int p276718, .int p276719, .int p276720, .int p276721, .int p276722, .int p276723, .int p276724]) := (n276880 q276663 (rn_oa he276863 he276864)).trans he276863
          have he276884 : F276878 (γ 9 3) = .inl (I .boolean, 2000, .inl f276881) := e276879
          have hs276885 : rStr γ [] F276661 F276878 := rStr_put hs276865 n276880 ht276690 (by decide)
          have kp276886 : F276878 q276662 = F276661 q276662 := (n276880 q276662 (rn_ty htq276662 ht276690 (by decide))).trans kp276866
          have bf276881 : gF f276881 0 1 := gF_upd hf276881 bf276861 (gB_w (gBl (show Int32.toInt 1 = 1 by decide)) (by decide) (by decide))
          have hT276887 : RS D I P276660 F276878 γ el := RS_set hT276867 n276880 ht276690 (by decide) ⟨f276881, he276884, bf276881⟩
          exact G_vretA dr_cX17_stand_75 rfl (Nat.le_of_ble_eq_true rfl) (Nat.le_of_ble_eq_true rfl) ⟨F276878, rfl, rfl, hT276887, hs276885, (Nat.le_of_ble_eq_true rfl), (Nat.le_of_ble_eq_true rfl), (fun _ n => by rw [cB_of he276884, cB_of he276714, nmS_of he276717]; exact nm_fin true true true (decide_eq_true (show (p276718.toInt ≤ 21) by omega)) (decide_eq_true (show (p276718.toInt ≠ 20 ∧ p276718.toInt ≠ 21 ∧ p276718.toInt ≠ 30 ∧ p276723.toInt = 1) by omega)) (decide_eq_true (show (0 < p276718.toInt ∧ p276718.toInt < 20 ∧ p276724.toInt = 1) by omega)) (by rw [sd_u hf276881 (by omega) (by omega), sd_u hf276861 (by omega) (by omega), sd_u hf276819 (by omega) (by omega), show o276735.toInt = p276719.toInt by omega]; simp)), kp276886⟩
    · have r276888 : p276664.toInt ≠ 0 := gj_neq hc276825 (show Int32.toInt 0 = 0 by decide)
      have bp276664' : gB p276664 1 1 := gB_t1 bp276664 r276888
      refine G_aload_n 2 dr_cX17_stand_21 rfl ?_
      refine Gp_get 0 hm276716 he276821 dr_cX17_stand_22 (gk_X15 D I) (Nat.le_of_ble_eq_true rfl) wr_9_177 rfl ?_
      refine G_bipush 21 dr_cX17_stand_25 (by decide +kernel) ?_
      refine G_icmp_ne 40 dr_cX17_stand_27 (by decide +kernel) (fun hc276889 => ?_) (fun hc276889 => ?_)
      · have r276890 : p276718.toInt ≠ 21 := gj_neq hc276889 (show Int32.toInt 21 = 21 by decide)
        have hT276891 : RS D I P276660 F276816 γ el := RS_set hT n276818 ht276690 (by decide) ⟨f276819, he276822, bf276819⟩
        exact G_vretA dr_cX17_stand_40 rfl (Nat.le_of_ble_eq_true rfl) (Nat.le_of_ble_eq_true rfl) ⟨F276816, rfl, rfl, hT276891, hs276823, (Nat.le_of_ble_eq_true rfl), (Nat.le_of_ble_eq_true rfl), (fun h => absurd h (by omega)), kp276824⟩
      · have r276892 : p276718.toInt = 21 := gj_eq hc276889 (show Int32.toInt 21 = 21 by decide)
        have bp276718' : gB p276718 21 21 := ⟨by omega, by omega⟩
        refine G_aload_n 1 dr_cX17_stand_30 rfl ?_
        refine Gp_get 3 hm276666 he276820 dr_cX17_stand_31 (gk_X17 D I) (Nat.le_of_ble_eq_true rfl) wr_7_77 rfl ?_
        refine G_aload_n 2 dr_cX17_stand_34 rfl ?_
        refine Gp_get 4 hm276716 he276821 dr_cX17_stand_35 (gk_X15 D I) (Nat.le_of_ble_eq_true rfl) wr_9_193 rfl ?_
        refine G_iconst 1 dr_cX17_stand_38 (by decide +kernel) ?_
        refine Gp_zast 3 hm276713 he276822 dr_cX17_stand_39 rfl (gB_in bp276722 (by decide) (by decide)) (fun F276893 e276894 n276895 => ?_)
        obtain ⟨f276896, hf276896⟩ : ∃ z, z = upd f276819 p276722.toNatClampNeg (vp_nar .boolean 1) := ⟨_, rfl⟩
        rw [← hf276896] at e276894
        have he276897 : F276893 q276662 = .inr (22, [.ref (γ 9 0), .ref (γ 9 1), .ref (γ 9 2), .ref (γ 9 3), .ref (γ 9 4), .ref (γ 9 5), .ref (γ 9 6), .ref (γ 9 7), .ref (γ 9 8), .int p276670, .int p276671, .int p276672, .int p276673, .int p276674, .int p276675, .ref (γ 9 15), .ref (γ 9 16), .ref (γ 9 17), .ref (γ 9 18), .ref (γ 9 19), .ref (γ 9 20), .ref (γ 9 21), .ref (γ 9 22), .int p276676, .int p276677, .int p276678, .int p276679, .int p276680, .ref q276668, .ref (γ 9 29), .int p276681, .ref (γ 9 31), .int p276682, .int p276683, .int p276684, .ref q276669]) := (n276895 q276662 (rn_oa he276820 he276822)).trans he276820
        have he276898 : F276893 q276663 = .inr (20, [.int p276718, .int p276719, .int p276720, .int p276721, .int p276722, .int p276723, .int p276724]) := (n276895 q276663 (rn_oa he276821 he276822)).trans he276821
        have he276899 : F276893 (γ 9 3) = .inl (I .boolean, 2000, .inl f276896) := e276894
        have hs276900 : rStr γ [] F276661 F276893 := rStr_put hs276823 n276895 ht276690 (by decide)
        have n276901 : ∀ b, b ≠ (γ 9 3) → F276893 b = F276661 b := fun b hb => (n276895 b hb).trans (n276818 b hb)
        have kp276902 : F276893 q276662 = F276661 q276662 := (n276895 q276662 (rn_ty htq276662 ht276690 (by decide))).trans kp276824
        have bf276896 : gF f276896 0 1 := gF_upd hf276896 bf276819 (gB_w (gBl (show Int32.toInt 1 = 1 by decide)) (by decide) (by decide))
        have hT276903 : RS D I P276660 F276893 γ el := RS_set hT n276901 ht276690 (by decide) ⟨f276896, he276899, bf276896⟩
        exact G_vretA dr_cX17_stand_40 rfl (Nat.le_of_ble_eq_true rfl) (Nat.le_of_ble_eq_true rfl) ⟨F276893, rfl, rfl, hT276903, hs276900, (Nat.le_of_ble_eq_true rfl), (Nat.le_of_ble_eq_true rfl), (fun h => absurd h (by omega)), kp276902⟩
