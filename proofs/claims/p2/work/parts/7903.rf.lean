abbrev ky_272914_SpillForgeModel_behind : gKey := (cX17_behind, 4, "SpillForgeModel", none, [], "behind", fun _ _ => True)
def pt_272914_SpillForgeModel_behind (D : va_G) (I : FieldType → ClassId) (γ el : Nat → Nat → Nat) (P272910 : List Nat) (F272911 : Nat → va_E) (q272912 : Nat) (q272913 : Nat) : Option Value → va_W → Nat → Nat → Prop := fun r w dc ds => ∃ (F275589 : Nat → va_E), r = none ∧ w = va_pl P272910 F275589 ∧ RS D I P272910 F275589 γ el ∧ rStr γ [] F272911 F275589 ∧ dc ≤ 0 ∧ ds ≤ 0 ∧ (F275589 q272912 = F272911 q272912) ∧ (F275589 (γ 9 3) = F272911 (γ 9 3))
set_option maxRecDepth 100000 in
set_option maxHeartbeats 4000000 in
theorem ct_272914_SpillForgeModel_behind (l : Launch) (hl0 : l.stackTraces = false) (D : va_G) (I : FieldType → ClassId) (γ el : Nat → Nat → Nat) (P272910 : List Nat) (F272911 : Nat → va_E) (q272912 : Nat) (q272913 : Nat) (hT : RS D I P272910 F272911 γ el) (htq272912 : rKd γ q272912 10) (htq272913 : rKd γ q272913 2) : CtA (gV D I) l yX17_behind cX17_behind 4 none 1 21 0 0 [.ref q272912, .ref q272913] (va_pl P272910 F272911) (pt_272914_SpillForgeModel_behind D I γ el P272910 F272911 q272912 q272913) gNA := by
  refine CtA_of hl0 (by decide) (Nat.le_of_ble_eq_true rfl) ?_
  refine G_iconst 0 dr_cX17_behind_0 (by decide +kernel) ?_
  refine G_istore_n (L' := [(2, .int 0), (0, .ref q272912), (1, .ref q272913)]) dr_cX17_behind_1 (Nat.le_of_ble_eq_true rfl) rfl ?_
  have hlp2_275042 : ∀ (n2_275042 : Nat) (F275038 : Nat → va_E) (g275037 : Int32), gB g275037 0 32 → RS D I P272910 F275038 γ el → rStr γ [] F272911 F275038 → (F275038 q272912 = F272911 q272912) → (F275038 (γ 9 3) = F272911 (γ 9 3)) → ((33 : Int) - g275037.toInt).toNat < n2_275042 → G (gV D I) l (gRm 1 21 0 0) (gMA (gV D I) (pt_272914_SpillForgeModel_behind D I γ el P272910 F272911 q272912 q272913) gNA 0 0) ky_272914_SpillForgeModel_behind 2 [(2, .int g275037), (0, .ref q272912), (1, .ref q272913)] [] (va_pl P272910 F275038) 0 0 := by
    intro n2_275042
    induction n2_275042 with
    | zero => intro F275038 g275037 bg275037 hT275039 hs275040 x275041 x275042 hm2_275042; exact absurd hm2_275042 (Nat.not_lt_zero _)
    | succ n2_275042 ih2_275042 =>
      intro F275038 g275037 bg275037 hT275039 hs275040 x275041 x275042 hm2_275042
      have hs275044 : rStr γ [] F272911 F275038 := fun b h0 hb hw => (hs275040 b h0 hb hw).trans ((rStr_rf (γ := γ) (W := []) (F := F272911)) b h0 hb hw).symm
      have hs275045 : rStr γ [] F272911 F275038 := rStr_tr (rStr_rf (γ := γ) (W := []) (F := F272911)) hs275044
      refine G_iload_n 0 dr_cX17_behind_2 rfl ?_
      refine G_bipush 32 dr_cX17_behind_3 (by decide +kernel) ?_
      refine G_icmp_ge 21 dr_cX17_behind_5 (by decide +kernel) (fun hc275046 => ?_) (fun hc275046 => ?_)
      · have r275047 : 32 ≤ g275037.toInt := gj_leL hc275046 (show Int32.toInt 32 = 32 by decide)
        have bg275037' : gB g275037 32 32 := ⟨by omega, by omega⟩
        refine G_iconst 0 dr_cX17_behind_21 (by decide +kernel) ?_
        refine G_istore_n (L' := [(2, .int 0), (0, .ref q272912), (1, .ref q272913)]) dr_cX17_behind_22 (Nat.le_of_ble_eq_true rfl) rfl ?_
        have hlp23_275291 : ∀ (n23_275291 : Nat) (F275287 : Nat → va_E) (g275286 : Int32), gB g275286 0 2 → RS D I P272910 F275287 γ el → rStr γ [] F272911 F275287 → (F275287 q272912 = F272911 q272912) → (F275287 (γ 9 3) = F272911 (γ 9 3)) → ((3 : Int) - g275286.toInt).toNat < n23_275291 → G (gV D I) l (gRm 1 21 0 0) (gMA (gV D I) (pt_272914_SpillForgeModel_behind D I γ el P272910 F272911 q272912 q272913) gNA 0 0) ky_272914_SpillForgeModel_behind 23 [(2, .int g275286), (0, .ref q272912), (1, .ref q272913)] [] (va_pl P272910 F275287) 0 0 := by
          intro n23_275291
          induction n23_275291 with
          | zero => intro F275287 g275286 bg275286 hT275288 hs275289 x275290 x275291 hm23_275291; exact absurd hm23_275291 (Nat.not_lt_zero _)
          | succ n23_275291 ih23_275291 =>
            intro F275287 g275286 bg275286 hT275288 hs275289 x275290 x275291 hm23_275291
            have hs275293 : rStr γ [] F275038 F275287 := fun b h0 hb hw => (hs275289 b h0 hb hw).trans (hs275040 b h0 hb hw).symm
            have hs275294 : rStr γ [] F272911 F275287 := rStr_tr hs275040 hs275293
            refine G_iload_n 0 dr_cX17_behind_23 rfl ?_
            refine G_aload_n 2 dr_cX17_behind_24 rfl ?_
            have hm275295 : q272913 ∈ P272910 := RS_m hT275288 htq272913 (by decide)
            obtain ⟨q275297, q275298, p275299, p275300, he275296, ht275307, ht275301, ht275302, ht275303, ht275304, ht275305, bp275299, bp275300, r275306, r275308, r275309⟩ := show rk_2 γ q272913 (F275287 q272913) from RS_o hT275288 htq272913
            have hm275310 : q275298 ∈ P272910 := RS_m hT275288 ht275303 (by decide)
            obtain ⟨p275312, p275313, p275314, p275315, p275316, p275317, p275318, he275311, bp275312, bp275313, bp275316, bp275317, bp275318, r275319, r275320, r275321, r275322⟩ := show rk_1 γ q275298 (F275287 q275298) from RS_o hT275288 ht275303
            have bp275314 := gB_any p275314
            have bp275315 := gB_any p275315
            refine Gw_callV (As := []) (gV_ok D I) (cp_1809_Block_ways l hl0 D I P272910 F275287 q272913 q275298 q275297 p275299 p275300 p275312 p275313 p275314 p275315 p275316 p275317 p275318 hm275295 hm275310 he275296 he275311 bp275299 bp275300 bp275312 bp275313 bp275316 bp275317 bp275318) dr_cX17_behind_25 ⟨wr_10_166, wr_1_38, wr_10_169, by decide, rfl, (Nat.le_of_ble_eq_true rfl), (Nat.le_of_ble_eq_true rfl)⟩ wr_10_167 wr_10_168 hm275295 he275296 rfl (show 0 + 0 ≤ 0 by first | omega | decide) (show 0 + 0 ≤ 0 by first | omega | decide) (Nat.le_of_ble_eq_true rfl) (fun r275326 w275327 dc275323 ds275324 hp275325 => ?_) (fun _ _ _ _ _ z => z.elim)
            obtain ⟨o275328, rfl, rfl, hdc, hds, bo275328⟩ := hp275325
            change G _ _ _ _ _ _ _ (.int o275328 :: _) _ _ _
            refine G_widen (cs' := 0) (sl' := 0) (by omega) (by omega) ?_
            refine G_icmp_ge 72 dr_cX17_behind_28 (by decide +kernel) (fun hc275329 => ?_) (fun hc275329 => ?_)
            · have r275330 : o275328.toInt ≤ g275286.toInt := gC_le hc275329
              exact G_vretA dr_cX17_behind_72 rfl (Nat.le_of_ble_eq_true rfl) (Nat.le_of_ble_eq_true rfl) ⟨F275287, rfl, rfl, hT275288, hs275289, (Nat.le_of_ble_eq_true rfl), (Nat.le_of_ble_eq_true rfl), x275290, x275291⟩
            · have r275331 : g275286.toInt < o275328.toInt := gC_nle hc275329
              have bg275286' : gB g275286 0 1 := ⟨by omega, by omega⟩
              have bo275328' : gB o275328 1 2 := ⟨by omega, by omega⟩
              refine G_iconst 0 dr_cX17_behind_31 (by decide +kernel) ?_
              refine G_istore_n (L' := [(3, .int 0), (2, .int g275286), (0, .ref q272912), (1, .ref q272913)]) dr_cX17_behind_32 (Nat.le_of_ble_eq_true rfl) rfl ?_
              have hlp33_275433 : ∀ (n33_275433 : Nat) (F275429 : Nat → va_E) (g275428 : Int32), gB g275428 0 32 → RS D I P272910 F275429 γ el → rStr γ [] F272911 F275429 → (F275429 q272912 = F272911 q272912) → (F275429 (γ 9 3) = F272911 (γ 9 3)) → ((33 : Int) - g275428.toInt).toNat < n33_275433 → G (gV D I) l (gRm 1 21 0 0) (gMA (gV D I) (pt_272914_SpillForgeModel_behind D I γ el P272910 F272911 q272912 q272913) gNA 0 0) ky_272914_SpillForgeModel_behind 33 [(3, .int g275428), (2, .int g275286), (0, .ref q272912), (1, .ref q272913)] [] (va_pl P272910 F275429) 0 0 := by
                intro n33_275433
                induction n33_275433 with
                | zero => intro F275429 g275428 bg275428 hT275430 hs275431 x275432 x275433 hm33_275433; exact absurd hm33_275433 (Nat.not_lt_zero _)
                | succ n33_275433 ih33_275433 =>
                  intro F275429 g275428 bg275428 hT275430 hs275431 x275432 x275433 hm33_275433
                  have hs275435 : rStr γ [] F275287 F275429 := fun b h0 hb hw => (hs275431 b h0 hb hw).trans (hs275289 b h0 hb hw).symm
                  have he275436 : F275429 q272913 = .inr (17, [.ref q275297, .ref q275298, .int p275299, .int p275300]) := (hs275435 q272913 (rT0 htq272913 (by decide)) (rT1 htq272913 (by decide)) (rT2 htq272913 (by decide))).trans he275296
                  have he275437 : F275429 q275298 = .inr (20, [.int p275312, .int p275313, .int p275314, .int p275315, .int p275316, .int p275317, .int p275318]) := (hs275435 q275298 (rT0 ht275303 (by decide)) (rT1 ht275303 (by decide)) (rT2 ht275303 (by decide))).trans he275311
                  have hs275438 : rStr γ [] F272911 F275429 := rStr_tr hs275289 hs275435
                  refine G_iload_n 0 dr_cX17_behind_33 rfl ?_
                  refine G_bipush 32 dr_cX17_behind_34 (by decide +kernel) ?_
                  refine G_icmp_ge 66 dr_cX17_behind_36 (by decide +kernel) (fun hc275439 => ?_) (fun hc275439 => ?_)
                  · have r275440 : 32 ≤ g275428.toInt := gj_leL hc275439 (show Int32.toInt 32 = 32 by decide)
                    have bg275428' : gB g275428 32 32 := ⟨by omega, by omega⟩
                    obtain ⟨z275441, hz275441⟩ : ∃ z : Int32, z = g275286 + Int32.ofInt 1 := ⟨_, rfl⟩
                    have ez275441 : z275441.toInt = g275286.toInt + 1 := gI_inc hz275441 (by decide) bg275286' (by decide) (by decide)
                    have bz275441 : gB z275441 1 2 := ⟨by omega, by omega⟩
                    refine G_iinc (L' := [(2, .int z275441), (3, .int g275428), (0, .ref q272912), (1, .ref q272913)]) z275441 1 dr_cX17_behind_66 rfl hz275441.symm (Nat.le_of_ble_eq_true rfl) rfl ?_
                    refine G_goto 23 dr_cX17_behind_69 (by decide +kernel) ?_
                    refine G_lv (L' := [(2, .int z275441), (0, .ref q272912), (1, .ref q272913)]) [0, 2, 3] rfl ?_
                    exact ih23_275291 F275429 z275441 (gB_w bz275441 (by decide) (by decide)) hT275430 hs275431 x275432 x275433 (mz_up ez275441 (Int.le_trans bg275286'.2 (by decide)) hm23_275291)
                  · have r275442 : g275428.toInt < 32 := gj_nleL hc275439 (show Int32.toInt 32 = 32 by decide)
                    have bg275428' : gB g275428 0 31 := ⟨by omega, by omega⟩
                    refine G_aload_n 2 dr_cX17_behind_39 rfl ?_
                    have hm275443 : q272912 ∈ P272910 := RS_m hT275430 htq272912 (by decide)
                    refine rk10_e (show rk_10 γ (F275429 q272912) from RS_o hT275430 htq272912) (fun q275445 q275446 p275447 p275448 p275449 p275450 p275451 p275452 p275453 p275454 p275455 p275456 p275457 p275458 p275459 p275460 p275461 he275444 hB275488 ht275462 ht275463 ht275464 ht275465 ht275466 ht275467 ht275468 ht275469 ht275470 ht275471 ht275472 ht275473 ht275474 ht275475 ht275476 ht275477 ht275478 ht275479 ht275480 ht275481 ht275482 ht275483 ht275484 ht275485 hB275489 => ?_)
                    refine Gp_get 2 hm275443 he275444 dr_cX17_behind_40 (gk_X17 D I) (Nat.le_of_ble_eq_true rfl) wr_7_76 rfl ?_
                    refine G_iload_n 0 dr_cX17_behind_43 rfl ?_
                    refine G_dup2_11 dr_cX17_behind_44 rfl rfl ?_
                    have hm275490 : (γ 9 2) ∈ P272910 := RS_m hT275430 ht275466 (by decide)
                    obtain ⟨f275492, he275491, wf275492⟩ := show rk_35 I (F275429 (γ 9 2)) from RS_o hT275430 ht275466
                    refine Gp_lald 2 hm275490 he275491 dr_cX17_behind_45 rfl (gB_in bg275428' (by decide) (by decide)) (G_namL fun u275493 hu275493 => ?_)
                    have qu275493 : lb_Q u275493 (2000 - 64 * g275428.toInt) := lb_Wld hu275493 wf275492 (by omega) (by omega) (lb_Mod0 (by omega) (by omega))
                    refine G_aload_n 2 dr_cX17_behind_46 rfl ?_
                    refine Gp_get 0 hm275443 he275444 dr_cX17_behind_47 (gk_X17 D I) (Nat.le_of_ble_eq_true rfl) wr_7_74 rfl ?_
                    refine G_aload_n 3 dr_cX17_behind_50 rfl ?_
                    refine G_iload_n 1 dr_cX17_behind_51 rfl ?_
                    refine Gw_callV (As := [.int g275286]) (gV_ok D I) (cp_5047_Block_way l hl0 D I P272910 F275429 q272913 q275298 g275286 q275297 p275299 p275300 p275312 p275313 p275314 p275315 p275316 p275317 p275318 hm275295 hm275310 he275436 he275437 bp275299 bp275300 bp275312 bp275313 bp275316 bp275317 bp275318) dr_cX17_behind_52 ⟨wr_10_170, wr_1_38, wr_10_173, by decide, rfl, (Nat.le_of_ble_eq_true rfl), (Nat.le_of_ble_eq_true rfl)⟩ wr_10_171 wr_10_172 hm275295 he275436 rfl (show 0 + 0 ≤ 0 by first | omega | decide) (show 0 + 0 ≤ 0 by first | omega | decide) (Nat.le_of_ble_eq_true rfl) (fun r275497 w275498 dc275494 ds275495 hp275496 => ?_) (fun _ _ _ _ _ z => z.elim)
                    obtain ⟨o275499, rfl, rfl, hdc, hds, bo275499⟩ := hp275496
                    change G _ _ _ _ _ _ _ (.int o275499 :: _) _ _ _
                    refine G_widen (cs' := 0) (sl' := 0) (by omega) (by omega) ?_
                    have hm275500 : (γ 9 0) ∈ P272910 := RS_m hT275430 ht275464 (by decide)
                    obtain ⟨f275502, he275501, hg275503⟩ := show rk_12 I γ (F275429 (γ 9 0)) from RS_o hT275430 ht275464
                    obtain ⟨q275504, hx275506⟩ : ∃ x, x = γ 10 o275499.toInt.toNat := ⟨_, rfl⟩
                    have ht275505 : rKd γ q275504 11 := by rw [hx275506]; exact (hg275503 _ (show o275499.toInt.toNat < 40 by omega)).2.1
                    refine Gp_aald 5 hm275500 he275501 dr_cX17_behind_55 rfl rfl (gB_in bo275499 (by decide) (by decide)) ?_
                    rw [show f275502 o275499.toNatClampNeg = some q275504 from (hg275503 _ (show o275499.toInt.toNat < 40 by omega)).1.trans (by rw [hx275506])]
                    change G _ _ _ _ _ _ _ (.ref q275504 :: _) _ _ _
                    refine G_iload_n 0 dr_cX17_behind_56 rfl ?_
                    have hm275507 : q275504 ∈ P272910 := RS_m hT275430 ht275505 (by decide)
                    obtain ⟨f275509, he275508, wf275509⟩ := show rk_11 I (F275429 q275504) from RS_o hT275430 ht275505
                    refine Gp_lald 2 hm275507 he275508 dr_cX17_behind_57 rfl (gB_in bg275428' (by decide) (by decide)) (G_namL fun u275510 hu275510 => ?_)
                    have qu275510 : lb_Q u275510 (2000 - 64 * g275428.toInt) := lb_Wld hu275510 wf275509 (by omega) (by omega) (lb_Mod0 (by omega) (by omega))
                    refine G_lor dr_cX17_behind_58 (G_namL fun u275511 hu275511 => ?_)
                    have qu275511 : lb_Q u275511 (2000 - 64 * g275428.toInt) := lb_Qor hu275511 qu275493 qu275510
                    refine Gp_last 2 hm275490 he275491 dr_cX17_behind_59 rfl (gB_in bg275428' (by decide) (by decide)) (fun F275512 e275513 n275514 => ?_)
                    obtain ⟨f275515, hf275515⟩ : ∃ z, z = vp_updL f275492 g275428.toNatClampNeg u275511 := ⟨_, rfl⟩
                    rw [← hf275515] at e275513
                    have he275516 : F275512 q272913 = .inr (17, [.ref q275297, .ref q275298, .int p275299, .int p275300]) := (n275514 q272913 (rn_oa he275436 he275491)).trans he275436
                    have he275517 : F275512 q275298 = .inr (20, [.int p275312, .int p275313, .int p275314, .int p275315, .int p275316, .int p275317, .int p275318]) := (n275514 q275298 (rn_oa he275437 he275491)).trans he275437
                    have he275518 : F275512 q272912 = .inr (22, [.ref (γ 9 0), .ref (γ 9 1), .ref (γ 9 2), .ref (γ 9 3), .ref (γ 9 4), .ref (γ 9 5), .ref (γ 9 6), .ref (γ 9 7), .ref (γ 9 8), .int p275447, .int p275448, .int p275449, .int p275450, .int p275451, .int p275452, .ref (γ 9 15), .ref (γ 9 16), .ref (γ 9 17), .ref (γ 9 18), .ref (γ 9 19), .ref (γ 9 20), .ref (γ 9 21), .ref (γ 9 22), .int p275453, .int p275454, .int p275455, .int p275456, .int p275457, .ref q275445, .ref (γ 9 29), .int p275458, .ref (γ 9 31), .int p275459, .int p275460, .int p275461, .ref q275446]) := (n275514 q272912 (rn_oa he275444 he275491)).trans he275444
                    have he275519 : F275512 (γ 9 0) = .inl (I (.array .long), 40, .inr (.inr (.inr (.inr f275502)))) := (n275514 (γ 9 0) (rn_ref_long he275501 he275491)).trans he275501
                    have he275520 : F275512 q275504 = .inl (I .long, 32, .inr (.inl f275509)) := (n275514 q275504 (rn_ty ht275505 ht275466 (by decide))).trans he275508
                    have he275521 : F275512 (γ 9 2) = .inl (I .long, 32, .inr (.inl f275515)) := e275513
                    have hs275522 : rStr γ [] F272911 F275512 := rStr_put hs275431 n275514 ht275466 (by decide)
                    have kp275523 : F275512 q272912 = F272911 q272912 := (n275514 q272912 (rn_ty htq272912 ht275466 (by decide))).trans x275432
                    have kp275524 : F275512 (γ 9 3) = F272911 (γ 9 3) := (n275514 (γ 9 3) (rn_ty ht275467 ht275466 (by decide))).trans x275433
                    have wf275515 : lb_W f275515 (32) (32) (2000) := lb_Wst hf275515 wf275492 (by omega) (lb_Mod0 (by omega) (by omega)) qu275511
                    obtain ⟨z275525, hz275525⟩ : ∃ z : Int32, z = g275428 + Int32.ofInt 1 := ⟨_, rfl⟩
                    have ez275525 : z275525.toInt = g275428.toInt + 1 := gI_inc hz275525 (by decide) bg275428' (by decide) (by decide)
                    have bz275525 : gB z275525 1 32 := ⟨by omega, by omega⟩
                    refine G_iinc (L' := [(3, .int z275525), (2, .int g275286), (0, .ref q272912), (1, .ref q272913)]) z275525 0 dr_cX17_behind_60 rfl hz275525.symm (Nat.le_of_ble_eq_true rfl) rfl ?_
                    refine G_goto 33 dr_cX17_behind_63 (by decide +kernel) ?_
                    have hT275526 : RS D I P272910 F275512 γ el := RS_set hT275430 n275514 ht275466 (by decide) ⟨f275515, he275521, wf275515⟩
                    exact ih33_275433 F275512 z275525 (gB_w bz275525 (by decide) (by decide)) hT275526 hs275522 kp275523 kp275524 (mz_up ez275525 (Int.le_trans bg275428'.2 (by decide)) hm33_275433)
              exact hlp33_275433 (((33 : Int) - 0).toNat + 1) F275287 0 (gB_w (gBl (show Int32.toInt 0 = 0 by decide)) (by decide) (by decide)) hT275288 hs275289 x275290 x275291 (Nat.lt_succ_self _)
        exact hlp23_275291 (((3 : Int) - 0).toNat + 1) F275038 0 (gB_w (gBl (show Int32.toInt 0 = 0 by decide)) (by decide) (by decide)) hT275039 hs275040 x275041 x275042 (Nat.lt_succ_self _)
      · have r275527 : g275037.toInt < 32 := gj_nleL hc275046 (show Int32.toInt 32 = 32 by decide)
        have bg275037' : gB g275037 0 31 := ⟨by omega, by omega⟩
        refine G_aload_n 1 dr_cX17_behind_8 rfl ?_
        have hm275528 : q272912 ∈ P272910 := RS_m hT275039 htq272912 (by decide)
        refine rk10_e (show rk_10 γ (F275038 q272912) from RS_o hT275039 htq272912) (fun q275530 q275531 p275532 p275533 p275534 p275535 p275536 p275537 p275538 p275539 p275540 p275541 p275542 p275543 p275544 p275545 p275546 he275529 hB275573 ht275547 ht275548 ht275549 ht275550 ht275551 ht275552 ht275553 ht275554 ht275555 ht275556 ht275557 ht275558 ht275559 ht275560 ht275561 ht275562 ht275563 ht275564 ht275565 ht275566 ht275567 ht275568 ht275569 ht275570 hB275574 => ?_)
        refine Gp_get 2 hm275528 he275529 dr_cX17_behind_9 (gk_X17 D I) (Nat.le_of_ble_eq_true rfl) wr_7_76 rfl ?_
        refine G_iload_n 0 dr_cX17_behind_12 rfl ?_
        refine G_lconst 0 dr_cX17_behind_13 rfl ?_
        have hm275575 : (γ 9 2) ∈ P272910 := RS_m hT275039 ht275551 (by decide)
        obtain ⟨f275577, he275576, wf275577⟩ := show rk_35 I (F275038 (γ 9 2)) from RS_o hT275039 ht275551
        refine Gp_last 2 hm275575 he275576 dr_cX17_behind_14 rfl (gB_in bg275037' (by decide) (by decide)) (fun F275578 e275579 n275580 => ?_)
        obtain ⟨f275581, hf275581⟩ : ∃ z, z = vp_updL f275577 g275037.toNatClampNeg 0 := ⟨_, rfl⟩
        rw [← hf275581] at e275579
        have he275582 : F275578 q272912 = .inr (22, [.ref (γ 9 0), .ref (γ 9 1), .ref (γ 9 2), .ref (γ 9 3), .ref (γ 9 4), .ref (γ 9 5), .ref (γ 9 6), .ref (γ 9 7), .ref (γ 9 8), .int p275532, .int p275533, .int p275534, .int p275535, .int p275536, .int p275537, .ref (γ 9 15), .ref (γ 9 16), .ref (γ 9 17), .ref (γ 9 18), .ref (γ 9 19), .ref (γ 9 20), .ref (γ 9 21), .ref (γ 9 22), .int p275538, .int p275539, .int p275540, .int p275541, .int p275542, .ref q275530, .ref (γ 9 29), .int p275543, .ref (γ 9 31), .int p275544, .int p275545, .int p275546, .ref q275531]) := (n275580 q272912 (rn_oa he275529 he275576)).trans he275529
        have he275583 : F275578 (γ 9 2) = .inl (I .long, 32, .inr (.inl f275581)) := e275579
        have hs275584 : rStr γ [] F272911 F275578 := rStr_put hs275040 n275580 ht275551 (by decide)
        have kp275585 : F275578 q272912 = F272911 q272912 := (n275580 q272912 (rn_ty htq272912 ht275551 (by decide))).trans x275041
        have kp275586 : F275578 (γ 9 3) = F272911 (γ 9 3) := (n275580 (γ 9 3) (rn_ty ht275552 ht275551 (by decide))).trans x275042
        have wf275581 : lb_W f275581 (32) (32) (2000) := lb_Wst hf275581 wf275577 (by omega) (lb_Mod0 (by omega) (by omega)) lb_Q0
        obtain ⟨z275587, hz275587⟩ : ∃ z : Int32, z = g275037 + Int32.ofInt 1 := ⟨_, rfl⟩
        have ez275587 : z275587.toInt = g275037.toInt + 1 := gI_inc hz275587 (by decide) bg275037' (by decide) (by decide)
        have bz275587 : gB z275587 1 32 := ⟨by omega, by omega⟩
        refine G_iinc (L' := [(2, .int z275587), (0, .ref q272912), (1, .ref q272913)]) z275587 0 dr_cX17_behind_15 rfl hz275587.symm (Nat.le_of_ble_eq_true rfl) rfl ?_
        refine G_goto 2 dr_cX17_behind_18 (by decide +kernel) ?_
        have hT275588 : RS D I P272910 F275578 γ el := RS_set hT275039 n275580 ht275551 (by decide) ⟨f275581, he275583, wf275581⟩
        exact ih2_275042 F275578 z275587 (gB_w bz275587 (by decide) (by decide)) hT275588 hs275584 kp275585 kp275586 (mz_up ez275587 (Int.le_trans bg275037'.2 (by decide)) hm2_275042)
  exact hlp2_275042 (((33 : Int) - 0).toNat + 1) F272911 0 (gB_w (gBl (show Int32.toInt 0 = 0 by decide)) (by decide) (by decide)) hT (rStr_rf (γ := γ) (W := []) (F := F272911)) rfl rfl (Nat.lt_succ_self _)
abbrev ky_275613_SpillForgeModel_stand : gKey := (cX17_stand, 4, "SpillForgeModel", none, [], "stand", fun _ _ => True)
def pt_275613_SpillForgeModel_stand (D : va_G) (I : FieldType → ClassId) (γ el : Nat → Nat → Nat) (P275608 : List Nat) (F275609 : Nat → va_E) (q275610 : Nat) (q275611 : Nat) (p275612 : Int32) : Option Value → va_W → Nat → Nat → Prop := fun r w dc ds => ∃ (F275851 : Nat → va_E), r = none ∧ w = va_pl P275608 F275851 ∧ RS D I P275608 F275851 γ el ∧ rStr γ [] F275609 F275851 ∧ dc ≤ 0 ∧ ds ≤ 0 ∧ (gIp (p275612.toInt = 0) (∀ n : Nat, rSd (cB (F275851 (γ 9 3))) n ↔ (rSd (cB (F275609 (γ 9 3))) n ∨ nmS (F275609 q275611) n))) ∧ (F275851 q275610 = F275609 q275610)
set_option maxRecDepth 100000 in
set_option maxHeartbeats 4000000 in
theorem ct_275613_SpillForgeModel_stand (l : Launch) (hl0 : l.stackTraces = false) (D : va_G) (I : FieldType → ClassId) (γ el : Nat → Nat → Nat) (P275608 : List Nat) (F275609 : Nat → va_E) (q275610 : Nat) (q275611 : Nat) (p275612 : Int32) (hT : RS D I P275608 F275609 γ el) (htq275610 : rKd γ q275610 10) (htq275611 : rKd γ q275611 1) (bp275612 : gB p275612 0 1) : CtA (gV D I) l yX17_stand cX17_stand 4 none 2 41 0 0 [.ref q275610, .ref q275611, .int p275612] (va_pl P275608 F275609) (pt_275613_SpillForgeModel_stand D I γ el P275608 F275609 q275610 q275611 p275612) gNA := by
  refine CtA_of hl0 (by decide) (Nat.le_of_ble_eq_true rfl) ?_
  have hm275614 : q275610 ∈ P275608 := RS_m hT htq275610 (by decide)
  refine rk10_e (show rk_10 γ (F275609 q275610) from RS_o hT htq275610) (fun q275616 q275617 p275618 p275619 p275620 p275621 p275622 p275623 p275624 p275625 p275626 p275627 p275628 p275629 p275630 p275631 p275632 he275615 hB275659 ht275633 ht275634 ht275635 ht275636 ht275637 ht275638 ht275639 ht275640 ht275641 ht275642 ht275643 ht275644 ht275645 ht275646 ht275647 ht275648 ht275649 ht275650 ht275651 ht275652 ht275653 ht275654 ht275655 ht275656 hB275660 => ?_)
  have hm275661 : (γ 9 3) ∈ P275608 := RS_m hT ht275638 (by decide)
  obtain ⟨f275663, he275662, bf275663⟩ := show rk_14 I (F275609 (γ 9 3)) from RS_o hT ht275638
  have hm275664 : q275611 ∈ P275608 := RS_m hT htq275611 (by decide)
  obtain ⟨p275666, p275667, p275668, p275669, p275670, p275671, p275672, he275665, bp275666, bp275667, bp275670, bp275671, bp275672, r275673, r275674, r275675, r275676⟩ := show rk_1 γ q275611 (F275609 q275611) from RS_o hT htq275611
  have bp275668 := gB_any p275668
  have bp275669 := gB_any p275669
  refine G_aload_n 1 dr_cX17_stand_0 rfl ?_
  refine G_iload_n 2 dr_cX17_stand_1 rfl ?_
  refine Gw_callS (As := [.ref q275611, .int p275612]) (gV_ok D I) (cp_214590_SpillForgeModel_setOf l hl0 D I P275608 F275609 q275611 p275612 p275666 p275667 p275668 p275669 p275670 p275671 p275672 hm275664 he275665 bp275612 bp275666 bp275667 bp275670 bp275671 bp275672) dr_cX17_stand_2 ⟨wr_10_178, wr_1_14, wr_10_180, by decide, rfl, (Nat.le_of_ble_eq_true rfl), (Nat.le_of_ble_eq_true rfl)⟩ wr_10_179 (show 0 + 0 ≤ 0 by first | omega | decide) (show 0 + 0 ≤ 0 by first | omega | decide) (Nat.le_of_ble_eq_true rfl) (fun r275680 w275681 dc275677 ds275678 hp275679 => ?_) (fun _ _ _ _ _ z => z.elim)
  obtain ⟨o275682, rfl, rfl, hdc, hds, bo275682, x275683⟩ := hp275679
  change G _ _ _ _ _ _ _ (.int o275682 :: _) _ _ _
  refine G_widen (cs' := 0) (sl' := 0) (by omega) (by omega) ?_
  refine G_istore_n (L' := [(3, .int o275682), (0, .ref q275610), (1, .ref q275611), (2, .int p275612)]) dr_cX17_stand_5 (Nat.le_of_ble_eq_true rfl) rfl ?_
  refine G_iload_n 0 dr_cX17_stand_6 rfl ?_
  refine G_if_lt 17 dr_cX17_stand_7 (by decide +kernel) (fun hc275684 => ?_) (fun hc275684 => ?_)
  · have r275685 : o275682.toInt < 0 := gj_lt hc275684 (show Int32.toInt 0 = 0 by decide)
    have bo275682' : gB o275682 (-1) (-1) := ⟨by omega, by omega⟩
    refine G_iload_n 3 dr_cX17_stand_17 rfl ?_
    refine G_if_eq 41 dr_cX17_stand_18 (by decide +kernel) (fun hc275686 => ?_) (fun hc275686 => ?_)
    · have r275687 : p275612.toInt = 0 := gj_eq hc275686 (show Int32.toInt 0 = 0 by decide)
      have bp275612' : gB p275612 0 0 := gB_t0 r275687
      refine G_aload_n 2 dr_cX17_stand_41 rfl ?_
      refine Gw_callV (As := []) (gV_ok D I) (cp_214529_Row_usesA l hl0 D I P275608 F275609 q275611 p275666 p275667 p275668 p275669 p275670 p275671 p275672 hm275664 he275665 bp275666 bp275667 bp275670 bp275671 bp275672) dr_cX17_stand_42 ⟨wr_10_192, wr_1_39, wr_10_195, by decide, rfl, (Nat.le_of_ble_eq_true rfl), (Nat.le_of_ble_eq_true rfl)⟩ wr_10_193 wr_10_194 hm275664 he275665 rfl (show 0 + 0 ≤ 0 by first | omega | decide) (show 0 + 0 ≤ 0 by first | omega | decide) (Nat.le_of_ble_eq_true rfl) (fun r275691 w275692 dc275688 ds275689 hp275690 => ?_) (fun _ _ _ _ _ z => z.elim)
      obtain ⟨o275693, rfl, rfl, hdc, hds, bo275693, x275694⟩ := hp275690
      change G _ _ _ _ _ _ _ (.int o275693 :: _) _ _ _
      refine G_widen (cs' := 0) (sl' := 0) (by omega) (by omega) ?_
      refine G_if_eq 58 dr_cX17_stand_45 (by decide +kernel) (fun hc275695 => ?_) (fun hc275695 => ?_)
      · have r275696 : o275693.toInt = 0 := gj_eq hc275695 (show Int32.toInt 0 = 0 by decide)
        have bo275693' : gB o275693 0 0 := gB_t0 r275696
        refine G_aload_n 2 dr_cX17_stand_58 rfl ?_
        refine Gw_callV (As := []) (gV_ok D I) (cp_214553_Row_usesB l hl0 D I P275608 F275609 q275611 p275666 p275667 p275668 p275669 p275670 p275671 p275672 hm275664 he275665 bp275666 bp275667 bp275670 bp275671 bp275672) dr_cX17_stand_59 ⟨wr_10_196, wr_1_39, wr_10_199, by decide, rfl, (Nat.le_of_ble_eq_true rfl), (Nat.le_of_ble_eq_true rfl)⟩ wr_10_197 wr_10_198 hm275664 he275665 rfl (show 0 + 0 ≤ 0 by first | omega | decide) (show 0 + 0 ≤ 0 by first | omega | decide) (Nat.le_of_ble_eq_true rfl) (fun r275700 w275701 dc275697 ds275698 hp275699 => ?_) (fun _ _ _ _ _ z => z.elim)
        obtain ⟨o275702, rfl, rfl, hdc, hds, bo275702, x275703⟩ := hp275699
        change G _ _ _ _ _ _ _ (.int o275702 :: _) _ _ _
        refine G_widen (cs' := 0) (sl' := 0) (by omega) (by omega) ?_
        refine G_if_eq 75 dr_cX17_stand_62 (by decide +kernel) (fun hc275704 => ?_) (fun hc275704 => ?_)
        · have r275705 : o275702.toInt = 0 := gj_eq hc275704 (show Int32.toInt 0 = 0 by decide)
          have bo275702' : gB o275702 0 0 := gB_t0 r275705
          exact G_vretA dr_cX17_stand_75 rfl (Nat.le_of_ble_eq_true rfl) (Nat.le_of_ble_eq_true rfl) ⟨F275609, rfl, rfl, hT, (rStr_rf (γ := γ) (W := []) (F := F275609)), (Nat.le_of_ble_eq_true rfl), (Nat.le_of_ble_eq_true rfl), (fun _ n => by rw [cB_of he275662, nmS_of he275665]; exact nm_fin false false false (decide_eq_false (show ¬ (p275666.toInt ≤ 21) by omega)) (decide_eq_false (show ¬ (p275666.toInt ≠ 20 ∧ p275666.toInt ≠ 21 ∧ p275666.toInt ≠ 30 ∧ p275671.toInt = 1) by omega)) (decide_eq_false (show ¬ (0 < p275666.toInt ∧ p275666.toInt < 20 ∧ p275672.toInt = 1) by omega)) (by simp)), rfl⟩
        · have r275706 : o275702.toInt ≠ 0 := gj_neq hc275704 (show Int32.toInt 0 = 0 by decide)
          have bo275702' : gB o275702 1 1 := gB_t1 bo275702 r275706
          refine G_aload_n 1 dr_cX17_stand_65 rfl ?_
          refine Gp_get 3 hm275614 he275615 dr_cX17_stand_66 (gk_X17 D I) (Nat.le_of_ble_eq_true rfl) wr_7_77 rfl ?_
          refine G_aload_n 2 dr_cX17_stand_69 rfl ?_
          refine Gp_get 3 hm275664 he275665 dr_cX17_stand_70 (gk_X15 D I) (Nat.le_of_ble_eq_true rfl) wr_9_190 rfl ?_
          refine G_iconst 1 dr_cX17_stand_73 (by decide +kernel) ?_
          refine Gp_zast 3 hm275661 he275662 dr_cX17_stand_74 rfl (gB_inr (by omega) (by omega)) (fun F275707 e275708 n275709 => ?_)
          obtain ⟨f275710, hf275710⟩ : ∃ z, z = upd f275663 p275669.toNatClampNeg (vp_nar .boolean 1) := ⟨_, rfl⟩
          rw [← hf275710] at e275708
          have he275711 : F275707 q275610 = .inr (22, [.ref (γ 9 0), .ref (γ 9 1), .ref (γ 9 2), .ref (γ 9 3), .ref (γ 9 4), .ref (γ 9 5), .ref (γ 9 6), .ref (γ 9 7), .ref (γ 9 8), .int p275618, .int p275619, .int p275620, .int p275621, .int p275622, .int p275623, .ref (γ 9 15), .ref (γ 9 16), .ref (γ 9 17), .ref (γ 9 18), .ref (γ 9 19), .ref (γ 9 20), .ref (γ 9 21), .ref (γ 9 22), .int p275624, .int p275625, .int p275626, .int p275627, .int p275628, .ref q275616, .ref (γ 9 29), .int p275629, .ref (γ 9 31), .int p275630, .int p275631, .int p275632, .ref q275617]) := (n275709 q275610 (rn_oa he275615 he275662)).trans he275615
          have he275712 : F275707 q275611 = .inr (20, [.int p275666, .int p275667, .int p275668, .int p275669, .int p275670, .int p275671, .int p275672]) := (n275709 q275611 (rn_oa he275665 he275662)).trans he275665
          have he275713 : F275707 (γ 9 3) = .inl (I .boolean, 2000, .inl f275710) := e275708
          have hs275714 : rStr γ [] F275609 F275707 := rStr_put (rStr_rf (γ := γ) (W := []) (F := F275609)) n275709 ht275638 (by decide)
          have kp275715 : F275707 q275610 = F275609 q275610 := n275709 q275610 (rn_ty htq275610 ht275638 (by decide))
          have bf275710 : gF f275710 0 1 := gF_upd hf275710 bf275663 (gB_w (gBl (show Int32.toInt 1 = 1 by decide)) (by decide) (by decide))
          have hT275716 : RS D I P275608 F275707 γ el := RS_set hT n275709 ht275638 (by decide) ⟨f275710, he275713, bf275710⟩
          exact G_vretA dr_cX17_stand_75 rfl (Nat.le_of_ble_eq_true rfl) (Nat.le_of_ble_eq_true rfl) ⟨F275707, rfl, rfl, hT275716, hs275714, (Nat.le_of_ble_eq_true rfl), (Nat.le_of_ble_eq_true rfl), (fun _ n => by rw [cB_of he275713, cB_of he275662, nmS_of he275665]; exact nm_fin false false true (decide_eq_false (show ¬ (p275666.toInt ≤ 21) by omega)) (decide_eq_false (show ¬ (p275666.toInt ≠ 20 ∧ p275666.toInt ≠ 21 ∧ p275666.toInt ≠ 30 ∧ p275671.toInt = 1) by omega)) (decide_eq_true (show (0 < p275666.toInt ∧ p275666.toInt < 20 ∧ p275672.toInt = 1) by omega)) (by rw [sd_u hf275710 (by omega) (by omega)]; simp)), kp275715⟩
      · have r275717 : o275693.toInt ≠ 0 := gj_neq hc275695 (show Int32.toInt 0 = 0 by decide)
        have bo275693' : gB o275693 1 1 := gB_t1 bo275693 r275717
        refine G_aload_n 1 dr_cX17_stand_48 rfl ?_
        refine Gp_get 3 hm275614 he275615 dr_cX17_stand_49 (gk_X17 D I) (Nat.le_of_ble_eq_true rfl) wr_7_77 rfl ?_
        refine G_aload_n 2 dr_cX17_stand_52 rfl ?_
        refine Gp_get 2 hm275664 he275665 dr_cX17_stand_53 (gk_X15 D I) (Nat.le_of_ble_eq_true rfl) wr_9_186 rfl ?_
        refine G_iconst 1 dr_cX17_stand_56 (by decide +kernel) ?_
        refine Gp_zast 3 hm275661 he275662 dr_cX17_stand_57 rfl (gB_inr (by omega) (by omega)) (fun F275718 e275719 n275720 => ?_)
        obtain ⟨f275721, hf275721⟩ : ∃ z, z = upd f275663 p275668.toNatClampNeg (vp_nar .boolean 1) := ⟨_, rfl⟩
        rw [← hf275721] at e275719
        have he275722 : F275718 q275610 = .inr (22, [.ref (γ 9 0), .ref (γ 9 1), .ref (γ 9 2), .ref (γ 9 3), .ref (γ 9 4), .ref (γ 9 5), .ref (γ 9 6), .ref (γ 9 7), .ref (γ 9 8), .int p275618, .int p275619, .int p275620, .int p275621, .int p275622, .int p275623, .ref (γ 9 15), .ref (γ 9 16), .ref (γ 9 17), .ref (γ 9 18), .ref (γ 9 19), .ref (γ 9 20), .ref (γ 9 21), .ref (γ 9 22), .int p275624, .int p275625, .int p275626, .int p275627, .int p275628, .ref q275616, .ref (γ 9 29), .int p275629, .ref (γ 9 31), .int p275630, .int p275631, .int p275632, .ref q275617]) := (n275720 q275610 (rn_oa he275615 he275662)).trans he275615
        have he275723 : F275718 q275611 = .inr (20, [.int p275666, .int p275667, .int p275668, .int p275669, .int p275670, .int p275671, .int p275672]) := (n275720 q275611 (rn_oa he275665 he275662)).trans he275665
        have he275724 : F275718 (γ 9 3) = .inl (I .boolean, 2000, .inl f275721) := e275719
        have hs275725 : rStr γ [] F275609 F275718 := rStr_put (rStr_rf (γ := γ) (W := []) (F := F275609)) n275720 ht275638 (by decide)
        have kp275726 : F275718 q275610 = F275609 q275610 := n275720 q275610 (rn_ty htq275610 ht275638 (by decide))
        have bf275721 : gF f275721 0 1 := gF_upd hf275721 bf275663 (gB_w (gBl (show Int32.toInt 1 = 1 by decide)) (by decide) (by decide))
        refine G_aload_n 2 dr_cX17_stand_58 rfl ?_
        have hT275727 : RS D I P275608 F275718 γ el := RS_set hT n275720 ht275638 (by decide) ⟨f275721, he275724, bf275721⟩
        refine Gw_callV (As := []) (gV_ok D I) (cp_214553_Row_usesB l hl0 D I P275608 F275718 q275611 p275666 p275667 p275668 p275669 p275670 p275671 p275672 hm275664 he275723 bp275666 bp275667 bp275670 bp275671 bp275672) dr_cX17_stand_59 ⟨wr_10_196, wr_1_39, wr_10_199, by decide, rfl, (Nat.le_of_ble_eq_true rfl), (Nat.le_of_ble_eq_true rfl)⟩ wr_10_197 wr_10_198 hm275664 he275723 rfl (show 0 + 0 ≤ 0 by first | omega | decide) (show 0 + 0 ≤ 0 by first | omega | decide) (Nat.le_of_ble_eq_true rfl) (fun r275731 w275732 dc275728 ds275729 hp275730 => ?_) (fun _ _ _ _ _ z => z.elim)
        obtain ⟨o275733, rfl, rfl, hdc, hds, bo275733, x275734⟩ := hp275730
        change G _ _ _ _ _ _ _ (.int o275733 :: _) _ _ _
        refine G_widen (cs' := 0) (sl' := 0) (by omega) (by omega) ?_
        refine G_if_eq 75 dr_cX17_stand_62 (by decide +kernel) (fun hc275735 => ?_) (fun hc275735 => ?_)
        · have r275736 : o275733.toInt = 0 := gj_eq hc275735 (show Int32.toInt 0 = 0 by decide)
          have bo275733' : gB o275733 0 0 := gB_t0 r275736
          exact G_vretA dr_cX17_stand_75 rfl (Nat.le_of_ble_eq_true rfl) (Nat.le_of_ble_eq_true rfl) ⟨F275718, rfl, rfl, hT275727, hs275725, (Nat.le_of_ble_eq_true rfl), (Nat.le_of_ble_eq_true rfl), (fun _ n => by rw [cB_of he275724, cB_of he275662, nmS_of he275665]; exact nm_fin false true false (decide_eq_false (show ¬ (p275666.toInt ≤ 21) by omega)) (decide_eq_true (show (p275666.toInt ≠ 20 ∧ p275666.toInt ≠ 21 ∧ p275666.toInt ≠ 30 ∧ p275671.toInt = 1) by omega)) (decide_eq_false (show ¬ (0 < p275666.toInt ∧ p275666.toInt < 20 ∧ p275672.toInt = 1) by omega)) (by rw [sd_u hf275721 (by omega) (by omega)]; simp)), kp275726⟩
        · have r275737 : o275733.toInt ≠ 0 := gj_neq hc275735 (show Int32.toInt 0 = 0 by decide)
          have bo275733' : gB o275733 1 1 := gB_t1 bo275733 r275737
          refine G_aload_n 1 dr_cX17_stand_65 rfl ?_
          refine Gp_get 3 hm275614 he275722 dr_cX17_stand_66 (gk_X17 D I) (Nat.le_of_ble_eq_true rfl) wr_7_77 rfl ?_
          refine G_aload_n 2 dr_cX17_stand_69 rfl ?_
          refine Gp_get 3 hm275664 he275723 dr_cX17_stand_70 (gk_X15 D I) (Nat.le_of_ble_eq_true rfl) wr_9_190 rfl ?_
          refine G_iconst 1 dr_cX17_stand_73 (by decide +kernel) ?_
          refine Gp_zast 3 hm275661 he275724 dr_cX17_stand_74 rfl (gB_inr (by omega) (by omega)) (fun F275738 e275739 n275740 => ?_)
          obtain ⟨f275741, hf275741⟩ : ∃ z, z = upd f275721 p275669.toNatClampNeg (vp_nar .boolean 1) := ⟨_, rfl⟩
          rw [← hf275741] at e275739
          have he275742 : F275738 q275610 = .inr (22, [.ref (γ 9 0), .ref (γ 9 1), .ref (γ 9 2), .ref (γ 9 3), .ref (γ 9 4), .ref (γ 9 5), .ref (γ 9 6), .ref (γ 9 7), .ref (γ 9 8), .int p275618, .int p275619, .int p275620, .int p275621, .int p275622, .int p275623, .ref (γ 9 15), .ref (γ 9 16), .ref (γ 9 17), .ref (γ 9 18), .ref (γ 9 19), .ref (γ 9 20), .ref (γ 9 21), .ref (γ 9 22), .int p275624, .int p275625, .int p275626, .int p275627, .int p275628, .ref q275616, .ref (γ 9 29), .int p275629, .ref (γ 9 31), .int p275630, .int p275631, .int p275632, .ref q275617]) := (n275740 q275610 (rn_oa he275722 he275724)).trans he275722
          have he275743 : F275738 q275611 = .inr (20, [.int p275666, .int p275667, .int p275668, .int p275669, .int p275670, .int p275671, .int p275672]) := (n275740 q275611 (rn_oa he275723 he275724)).trans he275723
          have he275744 : F275738 (γ 9 3) = .inl (I .boolean, 2000, .inl f275741) := e275739
          have hs275745 : rStr γ [] F275609 F275738 := rStr_put hs275725 n275740 ht275638 (by decide)
          have kp275746 : F275738 q275610 = F275609 q275610 := (n275740 q275610 (rn_ty htq275610 ht275638 (by decide))).trans kp275726
          have bf275741 : gF f275741 0 1 := gF_upd hf275741 bf275721 (gB_w (gBl (show Int32.toInt 1 = 1 by decide)) (by decide) (by decide))
          have hT275747 : RS D I P275608 F275738 γ el := RS_set hT275727 n275740 ht275638 (by decide) ⟨f275741, he275744, bf275741⟩
          exact G_vretA dr_cX17_stand_75 rfl (Nat.le_of_ble_eq_true rfl) (Nat.le_of_ble_eq_true rfl) ⟨F275738, rfl, rfl, hT275747, hs275745, (Nat.le_of_ble_eq_true rfl), (Nat.le_of_ble_eq_true rfl), (fun _ n => by rw [cB_of he275744, cB_of he275662, nmS_of he275665]; exact nm_fin false true true (decide_eq_false (show ¬ (p275666.toInt ≤ 21) by omega)) (decide_eq_true (show (p275666.toInt ≠ 20 ∧ p275666.toInt ≠ 21 ∧ p275666.toInt ≠ 30 ∧ p275671.toInt = 1) by omega)) (decide_eq_true (show (0 < p275666.toInt ∧ p275666.toInt < 20 ∧ p275672.toInt = 1) by omega)) (by rw [sd_u hf275741 (by omega) (by omega), sd_u hf275721 (by omega) (by omega)]; simp)), kp275746⟩
    · have r275748 : p275612.toInt ≠ 0 := gj_neq hc275686 (show Int32.toInt 0 = 0 by decide)
      have bp275612' : gB p275612 1 1 := gB_t1 bp275612 r275748
      refine G_aload_n 2 dr_cX17_stand_21 rfl ?_
      refine Gp_get 0 hm275664 he275665 dr_cX17_stand_22 (gk_X15 D I) (Nat.le_of_ble_eq_true rfl) wr_9_177 rfl ?_
      refine G_bipush 21 dr_cX17_stand_25 (by decide +kernel) ?_
      refine G_icmp_ne 40 dr_cX17_stand_27 (by decide +kernel) (fun hc275749 => ?_) (fun hc275749 => ?_)
      · have r275750 : p275666.toInt ≠ 21 := gj_neq hc275749 (show Int32.toInt 21 = 21 by decide)
        exact G_vretA dr_cX17_stand_40 rfl (Nat.le_of_ble_eq_true rfl) (Nat.le_of_ble_eq_true rfl) ⟨F275609, rfl, rfl, hT, (rStr_rf (γ := γ) (W := []) (F := F275609)), (Nat.le_of_ble_eq_true rfl), (Nat.le_of_ble_eq_true rfl), (fun h => absurd h (by omega)), rfl⟩
      · have r275751 : p275666.toInt = 21 := gj_eq hc275749 (show Int32.toInt 21 = 21 by decide)
        have bp275666' : gB p275666 21 21 := ⟨by omega, by omega⟩
        refine G_aload_n 1 dr_cX17_stand_30 rfl ?_
        refine Gp_get 3 hm275614 he275615 dr_cX17_stand_31 (gk_X17 D I) (Nat.le_of_ble_eq_true rfl) wr_7_77 rfl ?_
        refine G_aload_n 2 dr_cX17_stand_34 rfl ?_
        refine Gp_get 4 hm275664 he275665 dr_cX17_stand_35 (gk_X15 D I) (Nat.le_of_ble_eq_true rfl) wr_9_193 rfl ?_
        refine G_iconst 1 dr_cX17_stand_38 (by decide +kernel) ?_
        refine Gp_zast 3 hm275661 he275662 dr_cX17_stand_39 rfl (gB_in bp275670 (by decide) (by decide)) (fun F275752 e275753 n275754 => ?_)
        obtain ⟨f275755, hf275755⟩ : ∃ z, z = upd f275663 p275670.toNatClampNeg (vp_nar .boolean 1) := ⟨_, rfl⟩
        rw [← hf275755] at e275753
        have he275756 : F275752 q275610 = .inr (22, [.ref (γ 9 0), .ref (γ 9 1), .ref (γ 9 2), .ref (γ 9 3), .ref (γ 9 4), .ref (γ 9 5), .ref (γ 9 6), .ref (γ 9 7), .ref (γ 9 8), .int p275618, .int p275619, .int p275620, .int p275621, .int p275622, .int p275623, .ref (γ 9 15), .ref (γ 9 16), .ref (γ 9 17), .ref (γ 9 18), .ref (γ 9 19), .ref (γ 9 20), .ref (γ 9 21), .ref (γ 9 22), .int p275624, .int p275625, .int p275626, .int p275627, .int p275628, .ref q275616, .ref (γ 9 29), .int p275629, .ref (γ 9 31), .int p275630, .int p275631, .int p275632, .ref q275617]) := (n275754 q275610 (rn_oa he275615 he275662)).trans he275615
        have he275757 : F275752 q275611 = .inr (20, [.int p275666, .int p275667, .int p275668, .int p275669, .int p275670, .int p275671, .int p275672]) := (n275754 q275611 (rn_oa he275665 he275662)).trans he275665
        have he275758 : F275752 (γ 9 3) = .inl (I .boolean, 2000, .inl f275755) := e275753
        have hs275759 : rStr γ [] F275609 F275752 := rStr_put (rStr_rf (γ := γ) (W := []) (F := F275609)) n275754 ht275638 (by decide)
        have kp275760 : F275752 q275610 = F275609 q275610 := n275754 q275610 (rn_ty htq275610 ht275638 (by decide))
        have bf275755 : gF f275755 0 1 := gF_upd hf275755 bf275663 (gB_w (gBl (show Int32.toInt 1 = 1 by decide)) (by decide) (by decide))
        have hT275761 : RS D I P275608 F275752 γ el := RS_set hT n275754 ht275638 (by decide) ⟨f275755, he275758, bf275755⟩
        exact G_vretA dr_cX17_stand_40 rfl (Nat.le_of_ble_eq_true rfl) (Nat.le_of_ble_eq_true rfl) ⟨F275752, rfl, rfl, hT275761, hs275759, (Nat.le_of_ble_eq_true rfl), (Nat.le_of_ble_eq_true rfl), (fun h => absurd h (by omega)), kp275760⟩
  · have r275762 : 0 ≤ o275682.toInt := gj_nlt hc275684 (show Int32.toInt 0 = 0 by decide)
    have bo275682' : gB o275682 0 1999 := ⟨by omega, by omega⟩
    refine G_aload_n 1 dr_cX17_stand_10 rfl ?_
    refine Gp_get 3 hm275614 he275615 dr_cX17_stand_11 (gk_X17 D I) (Nat.le_of_ble_eq_true rfl) wr_7_77 rfl ?_
    refine G_iload_n 0 dr_cX17_stand_14 rfl ?_
    refine G_iconst 1 dr_cX17_stand_15 (by decide +kernel) ?_
    refine Gp_zast 3 hm275661 he275662 dr_cX17_stand_16 rfl (gB_in bo275682' (by decide) (by decide)) (fun F275763 e275764 n275765 => ?_)
    obtain ⟨f275766, hf275766⟩ : ∃ z, z = upd f275663 o275682.toNatClampNeg (vp_nar .boolean 1) := ⟨_, rfl⟩
    rw [← hf275766] at e275764
    have he275767 : F275763 q275610 = .inr (22, [.ref (γ 9 0), .ref (γ 9 1), .ref (γ 9 2), .ref (γ 9 3), .ref (γ 9 4), .ref (γ 9 5), .ref (γ 9 6), .ref (γ 9 7), .ref (γ 9 8), .int p275618, .int p275619, .int p275620, .int p275621, .int p275622, .int p275623, .ref (γ 9 15), .ref (γ 9 16), .ref (γ 9 17), .ref (γ 9 18), .ref (γ 9 19), .ref (γ 9 20), .ref (γ 9 21), .ref (γ 9 22), .int p275624, .int p275625, .int p275626, .int p275627, .int p275628, .ref q275616, .ref (γ 9 29), .int p275629, .ref (γ 9 31), .int p275630, .int p275631, .int p275632, .ref q275617]) := (n275765 q275610 (rn_oa he275615 he275662)).trans he275615
    have he275768 : F275763 q275611 = .inr (20, [.int p275666, .int p275667, .int p275668, .int p275669, .int p275670, .int p275671, .int p275672]) := (n275765 q275611 (rn_oa he275665 he275662)).trans he275665
    have he275769 : F275763 (γ 9 3) = .inl (I .boolean, 2000, .inl f275766) := e275764
    have hs275770 : rStr γ [] F275609 F275763 := rStr_put (rStr_rf (γ := γ) (W := []) (F := F275609)) n275765 ht275638 (by decide)
    have kp275771 : F275763 q275610 = F275609 q275610 := n275765 q275610 (rn_ty htq275610 ht275638 (by decide))
    have bf275766 : gF f275766 0 1 := gF_upd hf275766 bf275663 (gB_w (gBl (show Int32.toInt 1 = 1 by decide)) (by decide) (by decide))
    refine G_iload_n 3 dr_cX17_stand_17 rfl ?_
    refine G_if_eq 41 dr_cX17_stand_18 (by decide +kernel) (fun hc275772 => ?_) (fun hc275772 => ?_)
    · have r275773 : p275612.toInt = 0 := gj_eq hc275772 (show Int32.toInt 0 = 0 by decide)
      have bp275612' : gB p275612 0 0 := gB_t0 r275773
      refine G_aload_n 2 dr_cX17_stand_41 rfl ?_
      have hT275774 : RS D I P275608 F275763 γ el := RS_set hT n275765 ht275638 (by decide) ⟨f275766, he275769, bf275766⟩
      refine Gw_callV (As := []) (gV_ok D I) (cp_214529_Row_usesA l hl0 D I P275608 F275763 q275611 p275666 p275667 p275668 p275669 p275670 p275671 p275672 hm275664 he275768 bp275666 bp275667 bp275670 bp275671 bp275672) dr_cX17_stand_42 ⟨wr_10_192, wr_1_39, wr_10_195, by decide, rfl, (Nat.le_of_ble_eq_true rfl), (Nat.le_of_ble_eq_true rfl)⟩ wr_10_193 wr_10_194 hm275664 he275768 rfl (show 0 + 0 ≤ 0 by first | omega | decide) (show 0 + 0 ≤ 0 by first | omega | decide) (Nat.le_of_ble_eq_true rfl) (fun r275778 w275779 dc275775 ds275776 hp275777 => ?_) (fun _ _ _ _ _ z => z.elim)
      obtain ⟨o275780, rfl, rfl, hdc, hds, bo275780, x275781⟩ := hp275777
      change G _ _ _ _ _ _ _ (.int o275780 :: _) _ _ _
      refine G_widen (cs' := 0) (sl' := 0) (by omega) (by omega) ?_
      refine G_if_eq 58 dr_cX17_stand_45 (by decide +kernel) (fun hc275782 => ?_) (fun hc275782 => ?_)
      · have r275783 : o275780.toInt = 0 := gj_eq hc275782 (show Int32.toInt 0 = 0 by decide)
        have bo275780' : gB o275780 0 0 := gB_t0 r275783
        refine G_aload_n 2 dr_cX17_stand_58 rfl ?_
        refine Gw_callV (As := []) (gV_ok D I) (cp_214553_Row_usesB l hl0 D I P275608 F275763 q275611 p275666 p275667 p275668 p275669 p275670 p275671 p275672 hm275664 he275768 bp275666 bp275667 bp275670 bp275671 bp275672) dr_cX17_stand_59 ⟨wr_10_196, wr_1_39, wr_10_199, by decide, rfl, (Nat.le_of_ble_eq_true rfl), (Nat.le_of_ble_eq_true rfl)⟩ wr_10_197 wr_10_198 hm275664 he275768 rfl (show 0 + 0 ≤ 0 by first | omega | decide) (show 0 + 0 ≤ 0 by first | omega | decide) (Nat.le_of_ble_eq_true rfl) (fun r275787 w275788 dc275784 ds275785 hp275786 => ?_) (fun _ _ _ _ _ z => z.elim)
        obtain ⟨o275789, rfl, rfl, hdc, hds, bo275789, x275790⟩ := hp275786
        change G _ _ _ _ _ _ _ (.int o275789 :: _) _ _ _
        refine G_widen (cs' := 0) (sl' := 0) (by omega) (by omega) ?_
        refine G_if_eq 75 dr_cX17_stand_62 (by decide +kernel) (fun hc275791 => ?_) (fun hc275791 => ?_)
        · have r275792 : o275789.toInt = 0 := gj_eq hc275791 (show Int32.toInt 0 = 0 by decide)
          have bo275789' : gB o275789 0 0 := gB_t0 r275792
          exact G_vretA dr_cX17_stand_75 rfl (Nat.le_of_ble_eq_true rfl) (Nat.le_of_ble_eq_true rfl) ⟨F275763, rfl, rfl, hT275774, hs275770, (Nat.le_of_ble_eq_true rfl), (Nat.le_of_ble_eq_true rfl), (fun _ n => by rw [cB_of he275769, cB_of he275662, nmS_of he275665]; exact nm_fin true false false (decide_eq_true (show (p275666.toInt ≤ 21) by omega)) (decide_eq_false (show ¬ (p275666.toInt ≠ 20 ∧ p275666.toInt ≠ 21 ∧ p275666.toInt ≠ 30 ∧ p275671.toInt = 1) by omega)) (decide_eq_false (show ¬ (0 < p275666.toInt ∧ p275666.toInt < 20 ∧ p275672.toInt = 1) by omega)) (by rw [sd_u hf275766 (by omega) (by omega), show o275682.toInt = p275667.toInt by omega]; simp)), kp275771⟩
        · have r275793 : o275789.toInt ≠ 0 := gj_neq hc275791 (show Int32.toInt 0 = 0 by decide)
          have bo275789' : gB o275789 1 1 := gB_t1 bo275789 r275793
          refine G_aload_n 1 dr_cX17_stand_65 rfl ?_
          refine Gp_get 3 hm275614 he275767 dr_cX17_stand_66 (gk_X17 D I) (Nat.le_of_ble_eq_true rfl) wr_7_77 rfl ?_
          refine G_aload_n 2 dr_cX17_stand_69 rfl ?_
          refine Gp_get 3 hm275664 he275768 dr_cX17_stand_70 (gk_X15 D I) (Nat.le_of_ble_eq_true rfl) wr_9_190 rfl ?_
          refine G_iconst 1 dr_cX17_stand_73 (by decide +kernel) ?_
          refine Gp_zast 3 hm275661 he275769 dr_cX17_stand_74 rfl (gB_inr (by omega) (by omega)) (fun F275794 e275795 n275796 => ?_)
          obtain ⟨f275797, hf275797⟩ : ∃ z, z = upd f275766 p275669.toNatClampNeg (vp_nar .boolean 1) := ⟨_, rfl⟩
          rw [← hf275797] at e275795
          have he275798 : F275794 q275610 = .inr (22, [.ref (γ 9 0), .ref (γ 9 1), .ref (γ 9 2), .ref (γ 9 3), .ref (γ 9 4), .ref (γ 9 5), .ref (γ 9 6), .ref (γ 9 7), .ref (γ 9 8), .int p275618, .int p275619, .int p275620, .int p275621, .int p275622, .int p275623, .ref (γ 9 15), .ref (γ 9 16), .ref (γ 9 17), .ref (γ 9 18), .ref (γ 9 19), .ref (γ 9 20), .ref (γ 9 21), .ref (γ 9 22), .int p275624, .int p275625, .int p275626, .int p275627, .int p275628, .ref q275616, .ref (γ 9 29), .int p275629, .ref (γ 9 31), .int p275630, .int p275631, .int p275632, .ref q275617]) := (n275796 q275610 (rn_oa he275767 he275769)).trans he275767
          have he275799 : F275794 q275611 = .inr (20, [.int p275666, .int p275667, .int p275668, .int p275669, .int p275670, .int p275671, .int p275672]) := (n275796 q275611 (rn_oa he275768 he275769)).trans he275768
          have he275800 : F275794 (γ 9 3) = .inl (I .boolean, 2000, .inl f275797) := e275795
          have hs275801 : rStr γ [] F275609 F275794 := rStr_put hs275770 n275796 ht275638 (by decide)
          have kp275802 : F275794 q275610 = F275609 q275610 := (n275796 q275610 (rn_ty htq275610 ht275638 (by decide))).trans kp275771
          have bf275797 : gF f275797 0 1 := gF_upd hf275797 bf275766 (gB_w (gBl (show Int32.toInt 1 = 1 by decide)) (by decide) (by decide))
          have hT275803 : RS D I P275608 F275794 γ el := RS_set hT275774 n275796 ht275638 (by decide) ⟨f275797, he275800, bf275797⟩
          exact G_vretA dr_cX17_stand_75 rfl (Nat.le_of_ble_eq_true rfl) (Nat.le_of_ble_eq_true rfl) ⟨F275794, rfl, rfl, hT275803, hs275801, (Nat.le_of_ble_eq_true rfl), (Nat.le_of_ble_eq_true rfl), (fun _ n => by rw [cB_of he275800, cB_of he275662, nmS_of he275665]; exact nm_fin true false true (decide_eq_true (show (p275666.toInt ≤ 21) by omega)) (decide_eq_false (show ¬ (p275666.toInt ≠ 20 ∧ p275666.toInt ≠ 21 ∧ p275666.toInt ≠ 30 ∧ p275671.toInt = 1) by omega)) (decide_eq_true (show (0 < p275666.toInt ∧ p275666.toInt < 20 ∧ p275672.toInt = 1) by omega)) (by rw [sd_u hf275797 (by omega) (by omega), sd_u hf275766 (by omega) (by omega), show o275682.toInt = p275667.toInt by omega]; simp)), kp275802⟩
      · have r275804 : o275780.toInt ≠ 0 := gj_neq hc275782 (show Int32.toInt 0 = 0 by decide)
        have bo275780' : gB o275780 1 1 := gB_t1 bo275780 r275804
        refine G_aload_n 1 dr_cX17_stand_48 rfl ?_
        refine Gp_get 3 hm275614 he275767 dr_cX17_stand_49 (gk_X17 D I) (Nat.le_of_ble_eq_true rfl) wr_7_77 rfl ?_
        refine G_aload_n 2 dr_cX17_stand_52 rfl ?_
        refine Gp_get 2 hm275664 he275768 dr_cX17_stand_53 (gk_X15 D I) (Nat.le_of_ble_eq_true rfl) wr_9_186 rfl ?_
        refine G_iconst 1 dr_cX17_stand_56 (by decide +kernel) ?_
        refine Gp_zast 3 hm275661 he275769 dr_cX17_stand_57 rfl (gB_inr (by omega) (by omega)) (fun F275805 e275806 n275807 => ?_)
        obtain ⟨f275808, hf275808⟩ : ∃ z, z = upd f275766 p275668.toNatClampNeg (vp_nar .boolean 1) := ⟨_, rfl⟩
        rw [← hf275808] at e275806
        have he275809 : F275805 q275610 = .inr (22, [.ref (γ 9 0), .ref (γ 9 1), .ref (γ 9 2), .ref (γ 9 3), .ref (γ 9 4), .ref (γ 9 5), .ref (γ 9 6), .ref (γ 9 7), .ref (γ 9 8), .int p275618, .int p275619, .int p275620, .int p275621, .int p275622, .int p275623, .ref (γ 9 15), .ref (γ 9 16), .ref (γ 9 17), .ref (γ 9 18), .ref (γ 9 19), .ref (γ 9 20), .ref (γ 9 21), .ref (γ 9 22), .int p275624, .int p275625, .int p275626, .int p275627, .int p275628, .ref q275616, .ref (γ 9 29), .int p275629, .ref (γ 9 31), .int p275630, .int p275631, .int p275632, .ref q275617]) := (n275807 q275610 (rn_oa he275767 he275769)).trans he275767
        have he275810 : F275805 q275611 = .inr (20, [.int p275666, .int p275667, .int p275668, .int p275669, .int p275670, .int p275671, .int p275672]) := (n275807 q275611 (rn_oa he275768 he275769)).trans he275768
        have he275811 : F275805 (γ 9 3) = .inl (I .boolean, 2000, .inl f275808) := e275806
        have hs275812 : rStr γ [] F275609 F275805 := rStr_put hs275770 n275807 ht275638 (by decide)
        have kp275813 : F275805 q275610 = F275609 q275610 := (n275807 q275610 (rn_ty htq275610 ht275638 (by decide))).trans kp275771
        have bf275808 : gF f275808 0 1 := gF_upd hf275808 bf275766 (gB_w (gBl (show Int32.toInt 1 = 1 by decide)) (by decide) (by decide))
        refine G_aload_n 2 dr_cX17_stand_58 rfl ?_
        have hT275814 : RS D I P275608 F275805 γ el := RS_set hT275774 n275807 ht275638 (by decide) ⟨f275808, he275811, bf275808⟩
        refine Gw_callV (As := []) (gV_ok D I) (cp_214553_Row_usesB l hl0 D I P275608 F275805 q275611 p275666 p275667 p275668 p275669 p275670 p275671 p275672 hm275664 he275810 bp275666 bp275667 bp275670 bp275671 bp275672) dr_cX17_stand_59 ⟨wr_10_196, wr_1_39, wr_10_199, by decide, rfl, (Nat.le_of_ble_eq_true rfl), (Nat.le_of_ble_eq_true rfl)⟩ wr_10_197 wr_10_198 hm275664 he275810 rfl (show 0 + 0 ≤ 0 by first | omega | decide) (show 0 + 0 ≤ 0 by first | omega | decide) (Nat.le_of_ble_eq_true rfl) (fun r275818 w275819 dc275815 ds275816 hp275817 => ?_) (fun _ _ _ _ _ z => z.elim)
        obtain ⟨o275820, rfl, rfl, hdc, hds, bo275820, x275821⟩ := hp275817
        change G _ _ _ _ _ _ _ (.int o275820 :: _) _ _ _
        refine G_widen (cs' := 0) (sl' := 0) (by omega) (by omega) ?_
        refine G_if_eq 75 dr_cX17_stand_62 (by decide +kernel) (fun hc275822 => ?_) (fun hc275822 => ?_)
        · have r275823 : o275820.toInt = 0 := gj_eq hc275822 (show Int32.toInt 0 = 0 by decide)
          have bo275820' : gB o275820 0 0 := gB_t0 r275823
          exact G_vretA dr_cX17_stand_75 rfl (Nat.le_of_ble_eq_true rfl) (Nat.le_of_ble_eq_true rfl) ⟨F275805, rfl, rfl, hT275814, hs275812, (Nat.le_of_ble_eq_true rfl), (Nat.le_of_ble_eq_true rfl), (fun _ n => by rw [cB_of he275811, cB_of he275662, nmS_of he275665]; exact nm_fin true true false (decide_eq_true (show (p275666.toInt ≤ 21) by omega)) (decide_eq_true (show (p275666.toInt ≠ 20 ∧ p275666.toInt ≠ 21 ∧ p275666.toInt ≠ 30 ∧ p275671.toInt = 1) by omega)) (decide_eq_false (show ¬ (0 < p275666.toInt ∧ p275666.toInt < 20 ∧ p275672.toInt = 1) by omega)) (by rw [sd_u hf275808 (by omega) (by omega), sd_u hf275766 (by omega) (by omega), show o275682.toInt = p275667.toInt by omega]; simp)), kp275813⟩
        · have r275824 : o275820.toInt ≠ 0 := gj_neq hc275822 (show Int32.toInt 0 = 0 by decide)
          have bo275820' : gB o275820 1 1 := gB_t1 bo275820 r275824
          refine G_aload_n 1 dr_cX17_stand_65 rfl ?_
          refine Gp_get 3 hm275614 he275809 dr_cX17_stand_66 (gk_X17 D I) (Nat.le_of_ble_eq_true rfl) wr_7_77 rfl ?_
          refine G_aload_n 2 dr_cX17_stand_69 rfl ?_
          refine Gp_get 3 hm275664 he275810 dr_cX17_stand_70 (gk_X15 D I) (Nat.le_of_ble_eq_true rfl) wr_9_190 rfl ?_
          refine G_iconst 1 dr_cX17_stand_73 (by decide +kernel) ?_
          refine Gp_zast 3 hm275661 he275811 dr_cX17_stand_74 rfl (gB_inr (by omega) (by omega)) (fun F275825 e275826 n275827 => ?_)
          obtain ⟨f275828, hf275828⟩ : ∃ z, z = upd f275808 p275669.toNatClampNeg (vp_nar .boolean 1) := ⟨_, rfl⟩
          rw [← hf275828] at e275826
          have he275829 : F275825 q275610 = .inr (22, [.ref (γ 9 0), .ref (γ 9 1), .ref (γ 9 2), .ref (γ 9 3), .ref (γ 9 4), .ref (γ 9 5), .ref (γ 9 6), .ref (γ 9 7), .ref (γ 9 8), .int p275618, .int p275619, .int p275620, .int p275621, .int p275622, .int p275623, .ref (γ 9 15), .ref (γ 9 16), .ref (γ 9 17), .ref (γ 9 18), .ref (γ 9 19), .ref (γ 9 20), .ref (γ 9 21), .ref (γ 9 22), .int p275624, .int p275625, .int p275626, .int p275627, .int p275628, .ref q275616, .ref (γ 9 29), .int p275629, .ref (γ 9 31), .int p275630, .int p275631, .int p275632, .ref q275617]) := (n275827 q275610 (rn_oa he275809 he275811)).trans he275809
          have he275830 : F275825 q275611 = .inr (20, [.int p275666, .int p275667, .int p275668, .int p275669, .int p275670, .int p275671, .int p275672]) := (n275827 q275611 (rn_oa he275810 he275811)).trans he275810
          have he275831 : F275825 (γ 9 3) = .inl (I .boolean, 2000, .inl f275828) := e275826
          have hs275832 : rStr γ [] F275609 F275825 := rStr_put hs275812 n275827 ht275638 (by decide)
          have kp275833 : F275825 q275610 = F275609 q275610 := (n275827 q275610 (rn_ty htq275610 ht275638 (by decide))).trans kp275813
          have bf275828 : gF f275828 0 1 := gF_upd hf275828 bf275808 (gB_w (gBl (show Int32.toInt 1 = 1 by decide)) (by decide) (by decide))
          have hT275834 : RS D I P275608 F275825 γ el := RS_set hT275814 n275827 ht275638 (by decide) ⟨f275828, he275831, bf275828⟩
          exact G_vretA dr_cX17_stand_75 rfl (Nat.le_of_ble_eq_true rfl) (Nat.le_of_ble_eq_true rfl) ⟨F275825, rfl, rfl, hT275834, hs275832, (Nat.le_of_ble_eq_true rfl), (Nat.le_of_ble_eq_true rfl), (fun _ n => by rw [cB_of he275831, cB_of he275662, nmS_of he275665]; exact nm_fin true true true (decide_eq_true (show (p275666.toInt ≤ 21) by omega)) (decide_eq_true (show (p275666.toInt ≠ 20 ∧ p275666.toInt ≠ 21 ∧ p275666.toInt ≠ 30 ∧ p275671.toInt = 1) by omega)) (decide_eq_true (show (0 < p275666.toInt ∧ p275666.toInt < 20 ∧ p275672.toInt = 1) by omega)) (by rw [sd_u hf275828 (by omega) (by omega), sd_u hf275808 (by omega) (by omega), sd_u hf275766 (by omega) (by omega), show o275682.toInt = p275667.toInt by omega]; simp)), kp275833⟩
    · have r275835 : p275612.toInt ≠ 0 := gj_neq hc275772 (show Int32.toInt 0 = 0 by decide)
      have bp275612' : gB p275612 1 1 := gB_t1 bp275612 r275835
      refine G_aload_n 2 dr_cX17_stand_21 rfl ?_
      refine Gp_get 0 hm275664 he275768 dr_cX17_stand_22 (gk_X15 D I) (Nat.le_of_ble_eq_true rfl) wr_9_177 rfl ?_
      refine G_bipush 21 dr_cX17_stand_25 (by decide +kernel) ?_
      refine G_icmp_ne 40 dr_cX17_stand_27 (by decide +kernel) (fun hc275836 => ?_) (fun hc275836 => ?_)
      · have r275837 : p275666.toInt ≠ 21 := gj_neq hc275836 (show Int32.toInt 21 = 21 by decide)
        have hT275838 : RS D I P275608 F275763 γ el := RS_set hT n275765 ht275638 (by decide) ⟨f275766, he275769, bf275766⟩
        exact G_vretA dr_cX17_stand_40 rfl (Nat.le_of_ble_eq_true rfl) (Nat.le_of_ble_eq_true rfl) ⟨F275763, rfl, rfl, hT275838, hs275770, (Nat.le_of_ble_eq_true rfl), (Nat.le_of_ble_eq_true rfl), (fun h => absurd h (by omega)), kp275771⟩
      · have r275839 : p275666.toInt = 21 := gj_eq hc275836 (show Int32.toInt 21 = 21 by decide)
        have bp275666' : gB p275666 21 21 := ⟨by omega, by omega⟩
        refine G_aload_n 1 dr_cX17_stand_30 rfl ?_
        refine Gp_get 3 hm275614 he275767 dr_cX17_stand_31 (gk_X17 D I) (Nat.le_of_ble_eq_true rfl) wr_7_77 rfl ?_
        refine G_aload_n 2 dr_cX17_stand_34 rfl ?_
        refine Gp_get 4 hm275664 he275768 dr_cX17_stand_35 (gk_X15 D I) (Nat.le_of_ble_eq_true rfl) wr_9_193 rfl ?_
        refine G_iconst 1 dr_cX17_stand_38 (by decide +kernel) ?_
        refine Gp_zast 3 hm275661 he275769 dr_cX17_stand_39 rfl (gB_in bp275670 (by decide) (by decide)) (fun F275840 e275841 n275842 => ?_)
        obtain ⟨f275843, hf275843⟩ : ∃ z, z = upd f275766 p275670.toNatClampNeg (vp_nar .boolean 1) := ⟨_, rfl⟩
        rw [← hf275843] at e275841
        have he275844 : F275840 q275610 = .inr (22, [.ref (γ 9 0), .ref (γ 9 1), .ref (γ 9 2), .ref (γ 9 3), .ref (γ 9 4), .ref (γ 9 5), .ref (γ 9 6), .ref (γ 9 7), .ref (γ 9 8), .int p275618, .int p275619, .int p275620, .int p275621, .int p275622, .int p275623, .ref (γ 9 15), .ref (γ 9 16), .ref (γ 9 17), .ref (γ 9 18), .ref (γ 9 19), .ref (γ 9 20), .ref (γ 9 21), .ref (γ 9 22), .int p275624, .int p275625, .int p275626, .int p275627, .int p275628, .ref q275616, .ref (γ 9 29), .int p275629, .ref (γ 9 31), .int p275630, .int p275631, .int p275632, .ref q275617]) := (n275842 q275610 (rn_oa he275767 he275769)).trans he275767
        have he275845 : F275840 q275611 = .inr (20, [.int p275666, .int p275667, .int p275668, .int p275669, .int p275670, .int p275671, .int p275672]) := (n275842 q275611 (rn_oa he275768 he275769)).trans he275768
        have he275846 : F275840 (γ 9 3) = .inl (I .boolean, 2000, .inl f275843) := e275841
        have hs275847 : rStr γ [] F275609 F275840 := rStr_put hs275770 n275842 ht275638 (by decide)
        have n275848 : ∀ b, b ≠ (γ 9 3) → F275840 b = F275609 b := fun b hb => (n275842 b hb).trans (n275765 b hb)
        have kp275849 : F275840 q275610 = F275609 q275610 := (n275842 q275610 (rn_ty htq275610 ht275638 (by decide))).trans kp275771
        have bf275843 : gF f275843 0 1 := gF_upd hf275843 bf275766 (gB_w (gBl (show Int32.toInt 1 = 1 by decide)) (by decide) (by decide))
        have hT275850 : RS D I P275608 F275840 γ el := RS_set hT n275848 ht275638 (by decide) ⟨f275843, he275846, bf275843⟩
        exact G_vretA dr_cX17_stand_40 rfl (Nat.le_of_ble_eq_true rfl) (Nat.le_of_ble_eq_true rfl) ⟨F275840, rfl, rfl, hT275850, hs275847, (Nat.le_of_ble_eq_true rfl), (Nat.le_of_ble_eq_true rfl), (fun h => absurd h (by omega)), kp275849⟩
