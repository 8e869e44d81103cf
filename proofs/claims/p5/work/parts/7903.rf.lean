abbrev ky_273905_SpillForgeModel_behind : gKey := (cX17_behind, 4, "SpillForgeModel", none, [], "behind", fun _ _ => True)
def pt_273905_SpillForgeModel_behind (D : va_G) (I : FieldType → ClassId) (γ el : Nat → Nat → Nat) (P273901 : List Nat) (F273902 : Nat → va_E) (q273903 : Nat) (q273904 : Nat) : Option Value → va_W → Nat → Nat → Prop := fun r w dc ds => ∃ (F276588 : Nat → va_E), r = none ∧ w = va_pl P273901 F276588 ∧ RS D I P273901 F276588 γ el ∧ rStr γ [] F273902 F276588 ∧ dc ≤ 0 ∧ ds ≤ 0 ∧ (F276588 q273903 = F273902 q273903) ∧ (F276588 (γ 9 3) = F273902 (γ 9 3))
set_option maxRecDepth 100000 in
set_option maxHeartbeats 4000000 in
theorem ct_273905_SpillForgeModel_behind (l : Launch) (hl0 : l.stackTraces = false) (D : va_G) (I : FieldType → ClassId) (γ el : Nat → Nat → Nat) (P273901 : List Nat) (F273902 : Nat → va_E) (q273903 : Nat) (q273904 : Nat) (hT : RS D I P273901 F273902 γ el) (htq273903 : rKd γ q273903 10) (htq273904 : rKd γ q273904 2) : CtA (gV D I) l yX17_behind cX17_behind 4 none 1 21 0 0 [.ref q273903, .ref q273904] (va_pl P273901 F273902) (pt_273905_SpillForgeModel_behind D I γ el P273901 F273902 q273903 q273904) gNA := by
  refine CtA_of hl0 (by decide) (Nat.le_of_ble_eq_true rfl) ?_
  refine G_iconst 0 dr_cX17_behind_0 (by decide +kernel) ?_
  refine G_istore_n (L' := [(2, .int 0), (0, .ref q273903), (1, .ref q273904)]) dr_cX17_behind_1 (Nat.le_of_ble_eq_true rfl) rfl ?_
  have hlp2_276039 : ∀ (n2_276039 : Nat) (F276035 : Nat → va_E) (g276034 : Int32), gB g276034 0 32 → RS D I P273901 F276035 γ el → rStr γ [] F273902 F276035 → (F276035 q273903 = F273902 q273903) → (F276035 (γ 9 3) = F273902 (γ 9 3)) → ((33 : Int) - g276034.toInt).toNat < n2_276039 → G (gV D I) l (gRm 1 21 0 0) (gMA (gV D I) (pt_273905_SpillForgeModel_behind D I γ el P273901 F273902 q273903 q273904) gNA 0 0) ky_273905_SpillForgeModel_behind 2 [(2, .int g276034), (0, .ref q273903), (1, .ref q273904)] [] (va_pl P273901 F276035) 0 0 := by
    intro n2_276039
    induction n2_276039 with
    | zero => intro F276035 g276034 bg276034 hT276036 hs276037 x276038 x276039 hm2_276039; exact absurd hm2_276039 (Nat.not_lt_zero _)
    | succ n2_276039 ih2_276039 =>
      intro F276035 g276034 bg276034 hT276036 hs276037 x276038 x276039 hm2_276039
      have hs276041 : rStr γ [] F273902 F276035 := fun b h0 hb hw => (hs276037 b h0 hb hw).trans ((rStr_rf (γ := γ) (W := []) (F := F273902)) b h0 hb hw).symm
      have hs276042 : rStr γ [] F273902 F276035 := rStr_tr (rStr_rf (γ := γ) (W := []) (F := F273902)) hs276041
      refine G_iload_n 0 dr_cX17_behind_2 rfl ?_
      refine G_bipush 32 dr_cX17_behind_3 (by decide +kernel) ?_
      refine G_icmp_ge 21 dr_cX17_behind_5 (by decide +kernel) (fun hc276043 => ?_) (fun hc276043 => ?_)
      · have r276044 : 32 ≤ g276034.toInt := gj_leL hc276043 (show Int32.toInt 32 = 32 by decide)
        have bg276034' : gB g276034 32 32 := ⟨by omega, by omega⟩
        refine G_iconst 0 dr_cX17_behind_21 (by decide +kernel) ?_
        refine G_istore_n (L' := [(2, .int 0), (0, .ref q273903), (1, .ref q273904)]) dr_cX17_behind_22 (Nat.le_of_ble_eq_true rfl) rfl ?_
        have hlp23_276289 : ∀ (n23_276289 : Nat) (F276285 : Nat → va_E) (g276284 : Int32), gB g276284 0 2 → RS D I P273901 F276285 γ el → rStr γ [] F273902 F276285 → (F276285 q273903 = F273902 q273903) → (F276285 (γ 9 3) = F273902 (γ 9 3)) → ((3 : Int) - g276284.toInt).toNat < n23_276289 → G (gV D I) l (gRm 1 21 0 0) (gMA (gV D I) (pt_273905_SpillForgeModel_behind D I γ el P273901 F273902 q273903 q273904) gNA 0 0) ky_273905_SpillForgeModel_behind 23 [(2, .int g276284), (0, .ref q273903), (1, .ref q273904)] [] (va_pl P273901 F276285) 0 0 := by
          intro n23_276289
          induction n23_276289 with
          | zero => intro F276285 g276284 bg276284 hT276286 hs276287 x276288 x276289 hm23_276289; exact absurd hm23_276289 (Nat.not_lt_zero _)
          | succ n23_276289 ih23_276289 =>
            intro F276285 g276284 bg276284 hT276286 hs276287 x276288 x276289 hm23_276289
            have hs276291 : rStr γ [] F276035 F276285 := fun b h0 hb hw => (hs276287 b h0 hb hw).trans (hs276037 b h0 hb hw).symm
            have hs276292 : rStr γ [] F273902 F276285 := rStr_tr hs276037 hs276291
            refine G_iload_n 0 dr_cX17_behind_23 rfl ?_
            refine G_aload_n 2 dr_cX17_behind_24 rfl ?_
            have hm276293 : q273904 ∈ P273901 := RS_m hT276286 htq273904 (by decide)
            obtain ⟨q276295, q276296, p276297, p276298, he276294, ht276305, ht276299, ht276300, ht276301, ht276302, ht276303, bp276297, bp276298, r276304, r276306, r276307⟩ := show rk_2 γ q273904 (F276285 q273904) from RS_o hT276286 htq273904
            have hm276308 : q276296 ∈ P273901 := RS_m hT276286 ht276301 (by decide)
            obtain ⟨p276310, p276311, p276312, p276313, p276314, p276315, p276316, he276309, bp276310, bp276311, bp276314, bp276315, bp276316, r276317, r276318, r276319, r276320, r276321⟩ := show rk_1 γ q276296 (F276285 q276296) from RS_o hT276286 ht276301
            have bp276312 := gB_any p276312
            have bp276313 := gB_any p276313
            refine Gw_callV (As := []) (gV_ok D I) (cp_1809_Block_ways l hl0 D I P273901 F276285 q273904 q276296 q276295 p276297 p276298 p276310 p276311 p276312 p276313 p276314 p276315 p276316 hm276293 hm276308 he276294 he276309 bp276297 bp276298 bp276310 bp276311 bp276314 bp276315 bp276316) dr_cX17_behind_25 ⟨wr_10_162, wr_1_38, wr_10_165, by decide, rfl, (Nat.le_of_ble_eq_true rfl), (Nat.le_of_ble_eq_true rfl)⟩ wr_10_163 wr_10_164 hm276293 he276294 rfl (show 0 + 0 ≤ 0 by first | omega | decide) (show 0 + 0 ≤ 0 by first | omega | decide) (Nat.le_of_ble_eq_true rfl) (fun r276325 w276326 dc276322 ds276323 hp276324 => ?_) (fun _ _ _ _ _ z => z.elim)
            obtain ⟨o276327, rfl, rfl, hdc, hds, bo276327⟩ := hp276324
            change G _ _ _ _ _ _ _ (.int o276327 :: _) _ _ _
            refine G_widen (cs' := 0) (sl' := 0) (by omega) (by omega) ?_
            refine G_icmp_ge 72 dr_cX17_behind_28 (by decide +kernel) (fun hc276328 => ?_) (fun hc276328 => ?_)
            · have r276329 : o276327.toInt ≤ g276284.toInt := gC_le hc276328
              exact G_vretA dr_cX17_behind_72 rfl (Nat.le_of_ble_eq_true rfl) (Nat.le_of_ble_eq_true rfl) ⟨F276285, rfl, rfl, hT276286, hs276287, (Nat.le_of_ble_eq_true rfl), (Nat.le_of_ble_eq_true rfl), x276288, x276289⟩
            · have r276330 : g276284.toInt < o276327.toInt := gC_nle hc276328
              have bg276284' : gB g276284 0 1 := ⟨by omega, by omega⟩
              have bo276327' : gB o276327 1 2 := ⟨by omega, by omega⟩
              refine G_iconst 0 dr_cX17_behind_31 (by decide +kernel) ?_
              refine G_istore_n (L' := [(3, .int 0), (2, .int g276284), (0, .ref q273903), (1, .ref q273904)]) dr_cX17_behind_32 (Nat.le_of_ble_eq_true rfl) rfl ?_
              have hlp33_276432 : ∀ (n33_276432 : Nat) (F276428 : Nat → va_E) (g276427 : Int32), gB g276427 0 32 → RS D I P273901 F276428 γ el → rStr γ [] F273902 F276428 → (F276428 q273903 = F273902 q273903) → (F276428 (γ 9 3) = F273902 (γ 9 3)) → ((33 : Int) - g276427.toInt).toNat < n33_276432 → G (gV D I) l (gRm 1 21 0 0) (gMA (gV D I) (pt_273905_SpillForgeModel_behind D I γ el P273901 F273902 q273903 q273904) gNA 0 0) ky_273905_SpillForgeModel_behind 33 [(3, .int g276427), (2, .int g276284), (0, .ref q273903), (1, .ref q273904)] [] (va_pl P273901 F276428) 0 0 := by
                intro n33_276432
                induction n33_276432 with
                | zero => intro F276428 g276427 bg276427 hT276429 hs276430 x276431 x276432 hm33_276432; exact absurd hm33_276432 (Nat.not_lt_zero _)
                | succ n33_276432 ih33_276432 =>
                  intro F276428 g276427 bg276427 hT276429 hs276430 x276431 x276432 hm33_276432
                  have hs276434 : rStr γ [] F276285 F276428 := fun b h0 hb hw => (hs276430 b h0 hb hw).trans (hs276287 b h0 hb hw).symm
                  have he276435 : F276428 q273904 = .inr (17, [.ref q276295, .ref q276296, .int p276297, .int p276298]) := (hs276434 q273904 (rT0 htq273904 (by decide)) (rT1 htq273904 (by decide)) (rT2 htq273904 (by decide))).trans he276294
                  have he276436 : F276428 q276296 = .inr (20, [.int p276310, .int p276311, .int p276312, .int p276313, .int p276314, .int p276315, .int p276316]) := (hs276434 q276296 (rT0 ht276301 (by decide)) (rT1 ht276301 (by decide)) (rT2 ht276301 (by decide))).trans he276309
                  have hs276437 : rStr γ [] F273902 F276428 := rStr_tr hs276287 hs276434
                  refine G_iload_n 0 dr_cX17_behind_33 rfl ?_
                  refine G_bipush 32 dr_cX17_behind_34 (by decide +kernel) ?_
                  refine G_icmp_ge 66 dr_cX17_behind_36 (by decide +kernel) (fun hc276438 => ?_) (fun hc276438 => ?_)
                  · have r276439 : 32 ≤ g276427.toInt := gj_leL hc276438 (show Int32.toInt 32 = 32 by decide)
                    have bg276427' : gB g276427 32 32 := ⟨by omega, by omega⟩
                    obtain ⟨z276440, hz276440⟩ : ∃ z : Int32, z = g276284 + Int32.ofInt 1 := ⟨_, rfl⟩
                    have ez276440 : z276440.toInt = g276284.toInt + 1 := gI_inc hz276440 (by decide) bg276284' (by decide) (by decide)
                    have bz276440 : gB z276440 1 2 := ⟨by omega, by omega⟩
                    refine G_iinc (L' := [(2, .int z276440), (3, .int g276427), (0, .ref q273903), (1, .ref q273904)]) z276440 1 dr_cX17_behind_66 rfl hz276440.symm (Nat.le_of_ble_eq_true rfl) rfl ?_
                    refine G_goto 23 dr_cX17_behind_69 (by decide +kernel) ?_
                    refine G_lv (L' := [(2, .int z276440), (0, .ref q273903), (1, .ref q273904)]) [0, 2, 3] rfl ?_
                    exact ih23_276289 F276428 z276440 (gB_w bz276440 (by decide) (by decide)) hT276429 hs276430 x276431 x276432 (mz_up ez276440 (Int.le_trans bg276284'.2 (by decide)) hm23_276289)
                  · have r276441 : g276427.toInt < 32 := gj_nleL hc276438 (show Int32.toInt 32 = 32 by decide)
                    have bg276427' : gB g276427 0 31 := ⟨by omega, by omega⟩
                    refine G_aload_n 2 dr_cX17_behind_39 rfl ?_
                    have hm276442 : q273903 ∈ P273901 := RS_m hT276429 htq273903 (by decide)
                    refine rk10_e (show rk_10 γ (F276428 q273903) from RS_o hT276429 htq273903) (fun q276444 q276445 p276446 p276447 p276448 p276449 p276450 p276451 p276452 p276453 p276454 p276455 p276456 p276457 p276458 p276459 p276460 he276443 hB276487 ht276461 ht276462 ht276463 ht276464 ht276465 ht276466 ht276467 ht276468 ht276469 ht276470 ht276471 ht276472 ht276473 ht276474 ht276475 ht276476 ht276477 ht276478 ht276479 ht276480 ht276481 ht276482 ht276483 ht276484 hB276488 => ?_)
                    refine Gp_get 2 hm276442 he276443 dr_cX17_behind_40 (gk_X17 D I) (Nat.le_of_ble_eq_true rfl) wr_7_76 rfl ?_
                    refine G_iload_n 0 dr_cX17_behind_43 rfl ?_
                    refine G_dup2_11 dr_cX17_behind_44 rfl rfl ?_
                    have hm276489 : (γ 9 2) ∈ P273901 := RS_m hT276429 ht276465 (by decide)
                    obtain ⟨f276491, he276490, wf276491⟩ := show rk_35 I (F276428 (γ 9 2)) from RS_o hT276429 ht276465
                    refine Gp_lald 2 hm276489 he276490 dr_cX17_behind_45 rfl (gB_in bg276427' (by decide) (by decide)) (G_namL fun u276492 hu276492 => ?_)
                    have qu276492 : lb_Q u276492 (2000 - 64 * g276427.toInt) := lb_Wld hu276492 wf276491 (by omega) (by omega) (lb_Mod0 (by omega) (by omega))
                    refine G_aload_n 2 dr_cX17_behind_46 rfl ?_
                    refine Gp_get 0 hm276442 he276443 dr_cX17_behind_47 (gk_X17 D I) (Nat.le_of_ble_eq_true rfl) wr_7_74 rfl ?_
                    refine G_aload_n 3 dr_cX17_behind_50 rfl ?_
                    refine G_iload_n 1 dr_cX17_behind_51 rfl ?_
                    refine Gw_callV (As := [.int g276284]) (gV_ok D I) (cp_5050_Block_way l hl0 D I P273901 F276428 q273904 q276296 g276284 q276295 p276297 p276298 p276310 p276311 p276312 p276313 p276314 p276315 p276316 hm276293 hm276308 he276435 he276436 bp276297 bp276298 bp276310 bp276311 bp276314 bp276315 bp276316) dr_cX17_behind_52 ⟨wr_10_166, wr_1_38, wr_10_169, by decide, rfl, (Nat.le_of_ble_eq_true rfl), (Nat.le_of_ble_eq_true rfl)⟩ wr_10_167 wr_10_168 hm276293 he276435 rfl (show 0 + 0 ≤ 0 by first | omega | decide) (show 0 + 0 ≤ 0 by first | omega | decide) (Nat.le_of_ble_eq_true rfl) (fun r276496 w276497 dc276493 ds276494 hp276495 => ?_) (fun _ _ _ _ _ z => z.elim)
                    obtain ⟨o276498, rfl, rfl, hdc, hds, bo276498⟩ := hp276495
                    change G _ _ _ _ _ _ _ (.int o276498 :: _) _ _ _
                    refine G_widen (cs' := 0) (sl' := 0) (by omega) (by omega) ?_
                    have hm276499 : (γ 9 0) ∈ P273901 := RS_m hT276429 ht276463 (by decide)
                    obtain ⟨f276501, he276500, hg276502⟩ := show rk_12 I γ (F276428 (γ 9 0)) from RS_o hT276429 ht276463
                    obtain ⟨q276503, hx276505⟩ : ∃ x, x = γ 10 o276498.toInt.toNat := ⟨_, rfl⟩
                    have ht276504 : rKd γ q276503 11 := by rw [hx276505]; exact (hg276502 _ (show o276498.toInt.toNat < 40 by omega)).2.1
                    refine Gp_aald 5 hm276499 he276500 dr_cX17_behind_55 rfl rfl (gB_in bo276498 (by decide) (by decide)) ?_
                    rw [show f276501 o276498.toNatClampNeg = some q276503 from (hg276502 _ (show o276498.toInt.toNat < 40 by omega)).1.trans (by rw [hx276505])]
                    change G _ _ _ _ _ _ _ (.ref q276503 :: _) _ _ _
                    refine G_iload_n 0 dr_cX17_behind_56 rfl ?_
                    have hm276506 : q276503 ∈ P273901 := RS_m hT276429 ht276504 (by decide)
                    obtain ⟨f276508, he276507, wf276508⟩ := show rk_11 I (F276428 q276503) from RS_o hT276429 ht276504
                    refine Gp_lald 2 hm276506 he276507 dr_cX17_behind_57 rfl (gB_in bg276427' (by decide) (by decide)) (G_namL fun u276509 hu276509 => ?_)
                    have qu276509 : lb_Q u276509 (2000 - 64 * g276427.toInt) := lb_Wld hu276509 wf276508 (by omega) (by omega) (lb_Mod0 (by omega) (by omega))
                    refine G_lor dr_cX17_behind_58 (G_namL fun u276510 hu276510 => ?_)
                    have qu276510 : lb_Q u276510 (2000 - 64 * g276427.toInt) := lb_Qor hu276510 qu276492 qu276509
                    refine Gp_last 2 hm276489 he276490 dr_cX17_behind_59 rfl (gB_in bg276427' (by decide) (by decide)) (fun F276511 e276512 n276513 => ?_)
                    obtain ⟨f276514, hf276514⟩ : ∃ z, z = vp_updL f276491 g276427.toNatClampNeg u276510 := ⟨_, rfl⟩
                    rw [← hf276514] at e276512
                    have he276515 : F276511 q273904 = .inr (17, [.ref q276295, .ref q276296, .int p276297, .int p276298]) := (n276513 q273904 (rn_oa he276435 he276490)).trans he276435
                    have he276516 : F276511 q276296 = .inr (20, [.int p276310, .int p276311, .int p276312, .int p276313, .int p276314, .int p276315, .int p276316]) := (n276513 q276296 (rn_oa he276436 he276490)).trans he276436
                    have he276517 : F276511 q273903 = .inr (22, [.ref (γ 9 0), .ref (γ 9 1), .ref (γ 9 2), .ref (γ 9 3), .ref (γ 9 4), .ref (γ 9 5), .ref (γ 9 6), .ref (γ 9 7), .ref (γ 9 8), .int p276446, .int p276447, .int p276448, .int p276449, .int p276450, .int p276451, .ref (γ 9 15), .ref (γ 9 16), .ref (γ 9 17), .ref (γ 9 18), .ref (γ 9 19), .ref (γ 9 20), .ref (γ 9 21), .ref (γ 9 22), .int p276452, .int p276453, .int p276454, .int p276455, .int p276456, .ref q276444, .ref (γ 9 29), .int p276457, .ref (γ 9 31), .int p276458, .int p276459, .int p276460, .ref q276445]) := (n276513 q273903 (rn_oa he276443 he276490)).trans he276443
                    have he276518 : F276511 (γ 9 0) = .inl (I (.array .long), 40, .inr (.inr (.inr (.inr f276501)))) := (n276513 (γ 9 0) (rn_ref_long he276500 he276490)).trans he276500
                    have he276519 : F276511 q276503 = .inl (I .long, 32, .inr (.inl f276508)) := (n276513 q276503 (rn_ty ht276504 ht276465 (by decide))).trans he276507
                    have he276520 : F276511 (γ 9 2) = .inl (I .long, 32, .inr (.inl f276514)) := e276512
                    have hs276521 : rStr γ [] F273902 F276511 := rStr_put hs276430 n276513 ht276465 (by decide)
                    have kp276522 : F276511 q273903 = F273902 q273903 := (n276513 q273903 (rn_ty htq273903 ht276465 (by decide))).trans x276431
                    have kp276523 : F276511 (γ 9 3) = F273902 (γ 9 3) := (n276513 (γ 9 3) (rn_ty ht276466 ht276465 (by decide))).trans x276432
                    have wf276514 : lb_W f276514 (32) (32) (2000) := lb_Wst hf276514 wf276491 (by omega) (lb_Mod0 (by omega) (by omega)) qu276510
                    obtain ⟨z276524, hz276524⟩ : ∃ z : Int32, z = g276427 + Int32.ofInt 1 := ⟨_, rfl⟩
                    have ez276524 : z276524.toInt = g276427.toInt + 1 := gI_inc hz276524 (by decide) bg276427' (by decide) (by decide)
                    have bz276524 : gB z276524 1 32 := ⟨by omega, by omega⟩
                    refine G_iinc (L' := [(3, .int z276524), (2, .int g276284), (0, .ref q273903), (1, .ref q273904)]) z276524 0 dr_cX17_behind_60 rfl hz276524.symm (Nat.le_of_ble_eq_true rfl) rfl ?_
                    refine G_goto 33 dr_cX17_behind_63 (by decide +kernel) ?_
                    have hT276525 : RS D I P273901 F276511 γ el := RS_set hT276429 n276513 ht276465 (by decide) ⟨f276514, he276520, wf276514⟩
                    exact ih33_276432 F276511 z276524 (gB_w bz276524 (by decide) (by decide)) hT276525 hs276521 kp276522 kp276523 (mz_up ez276524 (Int.le_trans bg276427'.2 (by decide)) hm33_276432)
              exact hlp33_276432 (((33 : Int) - 0).toNat + 1) F276285 0 (gB_w (gBl (show Int32.toInt 0 = 0 by decide)) (by decide) (by decide)) hT276286 hs276287 x276288 x276289 (Nat.lt_succ_self _)
        exact hlp23_276289 (((3 : Int) - 0).toNat + 1) F276035 0 (gB_w (gBl (show Int32.toInt 0 = 0 by decide)) (by decide) (by decide)) hT276036 hs276037 x276038 x276039 (Nat.lt_succ_self _)
      · have r276526 : g276034.toInt < 32 := gj_nleL hc276043 (show Int32.toInt 32 = 32 by decide)
        have bg276034' : gB g276034 0 31 := ⟨by omega, by omega⟩
        refine G_aload_n 1 dr_cX17_behind_8 rfl ?_
        have hm276527 : q273903 ∈ P273901 := RS_m hT276036 htq273903 (by decide)
        refine rk10_e (show rk_10 γ (F276035 q273903) from RS_o hT276036 htq273903) (fun q276529 q276530 p276531 p276532 p276533 p276534 p276535 p276536 p276537 p276538 p276539 p276540 p276541 p276542 p276543 p276544 p276545 he276528 hB276572 ht276546 ht276547 ht276548 ht276549 ht276550 ht276551 ht276552 ht276553 ht276554 ht276555 ht276556 ht276557 ht276558 ht276559 ht276560 ht276561 ht276562 ht276563 ht276564 ht276565 ht276566 ht276567 ht276568 ht276569 hB276573 => ?_)
        refine Gp_get 2 hm276527 he276528 dr_cX17_behind_9 (gk_X17 D I) (Nat.le_of_ble_eq_true rfl) wr_7_76 rfl ?_
        refine G_iload_n 0 dr_cX17_behind_12 rfl ?_
        refine G_lconst 0 dr_cX17_behind_13 rfl ?_
        have hm276574 : (γ 9 2) ∈ P273901 := RS_m hT276036 ht276550 (by decide)
        obtain ⟨f276576, he276575, wf276576⟩ := show rk_35 I (F276035 (γ 9 2)) from RS_o hT276036 ht276550
        refine Gp_last 2 hm276574 he276575 dr_cX17_behind_14 rfl (gB_in bg276034' (by decide) (by decide)) (fun F276577 e276578 n276579 => ?_)
        obtain ⟨f276580, hf276580⟩ : ∃ z, z = vp_updL f276576 g276034.toNatClampNeg 0 := ⟨_, rfl⟩
        rw [← hf276580] at e276578
        have he276581 : F276577 q273903 = .inr (22, [.ref (γ 9 0), .ref (γ 9 1), .ref (γ 9 2), .ref (γ 9 3), .ref (γ 9 4), .ref (γ 9 5), .ref (γ 9 6), .ref (γ 9 7), .ref (γ 9 8), .int p276531, .int p276532, .int p276533, .int p276534, .int p276535, .int p276536, .ref (γ 9 15), .ref (γ 9 16), .ref (γ 9 17), .ref (γ 9 18), .ref (γ 9 19), .ref (γ 9 20), .ref (γ 9 21), .ref (γ 9 22), .int p276537, .int p276538, .int p276539, .int p276540, .int p276541, .ref q276529, .ref (γ 9 29), .int p276542, .ref (γ 9 31), .int p276543, .int p276544, .int p276545, .ref q276530]) := (n276579 q273903 (rn_oa he276528 he276575)).trans he276528
        have he276582 : F276577 (γ 9 2) = .inl (I .long, 32, .inr (.inl f276580)) := e276578
        have hs276583 : rStr γ [] F273902 F276577 := rStr_put hs276037 n276579 ht276550 (by decide)
        have kp276584 : F276577 q273903 = F273902 q273903 := (n276579 q273903 (rn_ty htq273903 ht276550 (by decide))).trans x276038
        have kp276585 : F276577 (γ 9 3) = F273902 (γ 9 3) := (n276579 (γ 9 3) (rn_ty ht276551 ht276550 (by decide))).trans x276039
        have wf276580 : lb_W f276580 (32) (32) (2000) := lb_Wst hf276580 wf276576 (by omega) (lb_Mod0 (by omega) (by omega)) lb_Q0
        obtain ⟨z276586, hz276586⟩ : ∃ z : Int32, z = g276034 + Int32.ofInt 1 := ⟨_, rfl⟩
        have ez276586 : z276586.toInt = g276034.toInt + 1 := gI_inc hz276586 (by decide) bg276034' (by decide) (by decide)
        have bz276586 : gB z276586 1 32 := ⟨by omega, by omega⟩
        refine G_iinc (L' := [(2, .int z276586), (0, .ref q273903), (1, .ref q273904)]) z276586 0 dr_cX17_behind_15 rfl hz276586.symm (Nat.le_of_ble_eq_true rfl) rfl ?_
        refine G_goto 2 dr_cX17_behind_18 (by decide +kernel) ?_
        have hT276587 : RS D I P273901 F276577 γ el := RS_set hT276036 n276579 ht276550 (by decide) ⟨f276580, he276582, wf276580⟩
        exact ih2_276039 F276577 z276586 (gB_w bz276586 (by decide) (by decide)) hT276587 hs276583 kp276584 kp276585 (mz_up ez276586 (Int.le_trans bg276034'.2 (by decide)) hm2_276039)
  exact hlp2_276039 (((33 : Int) - 0).toNat + 1) F273902 0 (gB_w (gBl (show Int32.toInt 0 = 0 by decide)) (by decide) (by decide)) hT (rStr_rf (γ := γ) (W := []) (F := F273902)) rfl rfl (Nat.lt_succ_self _)
abbrev ky_276612_SpillForgeModel_stand : gKey := (cX17_stand, 4, "SpillForgeModel", none, [], "stand", fun _ _ => True)
def pt_276612_SpillForgeModel_stand (D : va_G) (I : FieldType → ClassId) (γ el : Nat → Nat → Nat) (P276607 : List Nat) (F276608 : Nat → va_E) (q276609 : Nat) (q276610 : Nat) (p276611 : Int32) : Option Value → va_W → Nat → Nat → Prop := fun r w dc ds => ∃ (F276851 : Nat → va_E), r = none ∧ w = va_pl P276607 F276851 ∧ RS D I P276607 F276851 γ el ∧ rStr γ [] F276608 F276851 ∧ dc ≤ 0 ∧ ds ≤ 0 ∧ (gIp (p276611.toInt = 0) (∀ n : Nat, rSd (cB (F276851 (γ 9 3))) n ↔ (rSd (cB (F276608 (γ 9 3))) n ∨ nmS (F276608 q276610) n))) ∧ (F276851 q276609 = F276608 q276609)
set_option maxRecDepth 100000 in
set_option maxHeartbeats 4000000 in
theorem ct_276612_SpillForgeModel_stand (l : Launch) (hl0 : l.stackTraces = false) (D : va_G) (I : FieldType → ClassId) (γ el : Nat → Nat → Nat) (P276607 : List Nat) (F276608 : Nat → va_E) (q276609 : Nat) (q276610 : Nat) (p276611 : Int32) (hT : RS D I P276607 F276608 γ el) (htq276609 : rKd γ q276609 10) (htq276610 : rKd γ q276610 1) (bp276611 : gB p276611 0 1) : CtA (gV D I) l yX17_stand cX17_stand 4 none 2 41 0 0 [.ref q276609, .ref q276610, .int p276611] (va_pl P276607 F276608) (pt_276612_SpillForgeModel_stand D I γ el P276607 F276608 q276609 q276610 p276611) gNA := by
  refine CtA_of hl0 (by decide) (Nat.le_of_ble_eq_true rfl) ?_
  have hm276613 : q276609 ∈ P276607 := RS_m hT htq276609 (by decide)
  refine rk10_e (show rk_10 γ (F276608 q276609) from RS_o hT htq276609) (fun q276615 q276616 p276617 p276618 p276619 p276620 p276621 p276622 p276623 p276624 p276625 p276626 p276627 p276628 p276629 p276630 p276631 he276614 hB276658 ht276632 ht276633 ht276634 ht276635 ht276636 ht276637 ht276638 ht276639 ht276640 ht276641 ht276642 ht276643 ht276644 ht276645 ht276646 ht276647 ht276648 ht276649 ht276650 ht276651 ht276652 ht276653 ht276654 ht276655 hB276659 => ?_)
  have hm276660 : (γ 9 3) ∈ P276607 := RS_m hT ht276637 (by decide)
  obtain ⟨f276662, he276661, bf276662⟩ := show rk_14 I (F276608 (γ 9 3)) from RS_o hT ht276637
  have hm276663 : q276610 ∈ P276607 := RS_m hT htq276610 (by decide)
  obtain ⟨p276665, p276666, p276667, p276668, p276669, p276670, p276671, he276664, bp276665, bp276666, bp276669, bp276670, bp276671, r276672, r276673, r276674, r276675, r276676⟩ := show rk_1 γ q276610 (F276608 q276610) from RS_o hT htq276610
  have bp276667 := gB_any p276667
  have bp276668 := gB_any p276668
  refine G_aload_n 1 dr_cX17_stand_0 rfl ?_
  refine G_iload_n 2 dr_cX17_stand_1 rfl ?_
  refine Gw_callS (As := [.ref q276610, .int p276611]) (gV_ok D I) (cp_215500_SpillForgeModel_setOf l hl0 D I P276607 F276608 q276610 p276611 p276665 p276666 p276667 p276668 p276669 p276670 p276671 hm276663 he276664 bp276611 bp276665 bp276666 bp276669 bp276670 bp276671) dr_cX17_stand_2 ⟨wr_10_174, wr_1_14, wr_10_176, by decide, rfl, (Nat.le_of_ble_eq_true rfl), (Nat.le_of_ble_eq_true rfl)⟩ wr_10_175 (show 0 + 0 ≤ 0 by first | omega | decide) (show 0 + 0 ≤ 0 by first | omega | decide) (Nat.le_of_ble_eq_true rfl) (fun r276680 w276681 dc276677 ds276678 hp276679 => ?_) (fun _ _ _ _ _ z => z.elim)
  obtain ⟨o276682, rfl, rfl, hdc, hds, bo276682, x276683⟩ := hp276679
  change G _ _ _ _ _ _ _ (.int o276682 :: _) _ _ _
  refine G_widen (cs' := 0) (sl' := 0) (by omega) (by omega) ?_
  refine G_istore_n (L' := [(3, .int o276682), (0, .ref q276609), (1, .ref q276610), (2, .int p276611)]) dr_cX17_stand_5 (Nat.le_of_ble_eq_true rfl) rfl ?_
  refine G_iload_n 0 dr_cX17_stand_6 rfl ?_
  refine G_if_lt 17 dr_cX17_stand_7 (by decide +kernel) (fun hc276684 => ?_) (fun hc276684 => ?_)
  · have r276685 : o276682.toInt < 0 := gj_lt hc276684 (show Int32.toInt 0 = 0 by decide)
    have bo276682' : gB o276682 (-1) (-1) := ⟨by omega, by omega⟩
    refine G_iload_n 3 dr_cX17_stand_17 rfl ?_
    refine G_if_eq 41 dr_cX17_stand_18 (by decide +kernel) (fun hc276686 => ?_) (fun hc276686 => ?_)
    · have r276687 : p276611.toInt = 0 := gj_eq hc276686 (show Int32.toInt 0 = 0 by decide)
      have bp276611' : gB p276611 0 0 := gB_t0 r276687
      refine G_aload_n 2 dr_cX17_stand_41 rfl ?_
      refine Gw_callV (As := []) (gV_ok D I) (cp_215439_Row_usesA l hl0 D I P276607 F276608 q276610 p276665 p276666 p276667 p276668 p276669 p276670 p276671 hm276663 he276664 bp276665 bp276666 bp276669 bp276670 bp276671) dr_cX17_stand_42 ⟨wr_10_188, wr_1_39, wr_10_191, by decide, rfl, (Nat.le_of_ble_eq_true rfl), (Nat.le_of_ble_eq_true rfl)⟩ wr_10_189 wr_10_190 hm276663 he276664 rfl (show 0 + 0 ≤ 0 by first | omega | decide) (show 0 + 0 ≤ 0 by first | omega | decide) (Nat.le_of_ble_eq_true rfl) (fun r276691 w276692 dc276688 ds276689 hp276690 => ?_) (fun _ _ _ _ _ z => z.elim)
      obtain ⟨o276693, rfl, rfl, hdc, hds, bo276693, x276694⟩ := hp276690
      change G _ _ _ _ _ _ _ (.int o276693 :: _) _ _ _
      refine G_widen (cs' := 0) (sl' := 0) (by omega) (by omega) ?_
      refine G_if_eq 58 dr_cX17_stand_45 (by decide +kernel) (fun hc276695 => ?_) (fun hc276695 => ?_)
      · have r276696 : o276693.toInt = 0 := gj_eq hc276695 (show Int32.toInt 0 = 0 by decide)
        have bo276693' : gB o276693 0 0 := gB_t0 r276696
        refine G_aload_n 2 dr_cX17_stand_58 rfl ?_
        refine Gw_callV (As := []) (gV_ok D I) (cp_215463_Row_usesB l hl0 D I P276607 F276608 q276610 p276665 p276666 p276667 p276668 p276669 p276670 p276671 hm276663 he276664 bp276665 bp276666 bp276669 bp276670 bp276671) dr_cX17_stand_59 ⟨wr_10_192, wr_1_39, wr_10_195, by decide, rfl, (Nat.le_of_ble_eq_true rfl), (Nat.le_of_ble_eq_true rfl)⟩ wr_10_193 wr_10_194 hm276663 he276664 rfl (show 0 + 0 ≤ 0 by first | omega | decide) (show 0 + 0 ≤ 0 by first | omega | decide) (Nat.le_of_ble_eq_true rfl) (fun r276700 w276701 dc276697 ds276698 hp276699 => ?_) (fun _ _ _ _ _ z => z.elim)
        obtain ⟨o276702, rfl, rfl, hdc, hds, bo276702, x276703⟩ := hp276699
        change G _ _ _ _ _ _ _ (.int o276702 :: _) _ _ _
        refine G_widen (cs' := 0) (sl' := 0) (by omega) (by omega) ?_
        refine G_if_eq 75 dr_cX17_stand_62 (by decide +kernel) (fun hc276704 => ?_) (fun hc276704 => ?_)
        · have r276705 : o276702.toInt = 0 := gj_eq hc276704 (show Int32.toInt 0 = 0 by decide)
          have bo276702' : gB o276702 0 0 := gB_t0 r276705
          exact G_vretA dr_cX17_stand_75 rfl (Nat.le_of_ble_eq_true rfl) (Nat.le_of_ble_eq_true rfl) ⟨F276608, rfl, rfl, hT, (rStr_rf (γ := γ) (W := []) (F := F276608)), (Nat.le_of_ble_eq_true rfl), (Nat.le_of_ble_eq_true rfl), (fun _ n => by rw [cB_of he276661, nmS_of he276664]; exact nm_fin false false false (decide_eq_false (show ¬ (p276665.toInt ≤ 21) by omega)) (decide_eq_false (show ¬ (p276665.toInt ≠ 20 ∧ p276665.toInt ≠ 21 ∧ p276665.toInt ≠ 30 ∧ p276670.toInt = 1) by omega)) (decide_eq_false (show ¬ (0 < p276665.toInt ∧ p276665.toInt < 20 ∧ p276671.toInt = 1) by omega)) (by simp)), rfl⟩
        · have r276706 : o276702.toInt ≠ 0 := gj_neq hc276704 (show Int32.toInt 0 = 0 by decide)
          have bo276702' : gB o276702 1 1 := gB_t1 bo276702 r276706
          refine G_aload_n 1 dr_cX17_stand_65 rfl ?_
          refine Gp_get 3 hm276613 he276614 dr_cX17_stand_66 (gk_X17 D I) (Nat.le_of_ble_eq_true rfl) wr_7_77 rfl ?_
          refine G_aload_n 2 dr_cX17_stand_69 rfl ?_
          refine Gp_get 3 hm276663 he276664 dr_cX17_stand_70 (gk_X15 D I) (Nat.le_of_ble_eq_true rfl) wr_9_186 rfl ?_
          refine G_iconst 1 dr_cX17_stand_73 (by decide +kernel) ?_
          refine Gp_zast 3 hm276660 he276661 dr_cX17_stand_74 rfl (gB_inr (by omega) (by omega)) (fun F276707 e276708 n276709 => ?_)
          obtain ⟨f276710, hf276710⟩ : ∃ z, z = upd f276662 p276668.toNatClampNeg (vp_nar .boolean 1) := ⟨_, rfl⟩
          rw [← hf276710] at e276708
          have he276711 : F276707 q276609 = .inr (22, [.ref (γ 9 0), .ref (γ 9 1), .ref (γ 9 2), .ref (γ 9 3), .ref (γ 9 4), .ref (γ 9 5), .ref (γ 9 6), .ref (γ 9 7), .ref (γ 9 8), .int p276617, .int p276618, .int p276619, .int p276620, .int p276621, .int p276622, .ref (γ 9 15), .ref (γ 9 16), .ref (γ 9 17), .ref (γ 9 18), .ref (γ 9 19), .ref (γ 9 20), .ref (γ 9 21), .ref (γ 9 22), .int p276623, .int p276624, .int p276625, .int p276626, .int p276627, .ref q276615, .ref (γ 9 29), .int p276628, .ref (γ 9 31), .int p276629, .int p276630, .int p276631, .ref q276616]) := (n276709 q276609 (rn_oa he276614 he276661)).trans he276614
          have he276712 : F276707 q276610 = .inr (20, [.int p276665, .int p276666, .int p276667, .int p276668, .int p276669, .int p276670, .int p276671]) := (n276709 q276610 (rn_oa he276664 he276661)).trans he276664
          have he276713 : F276707 (γ 9 3) = .inl (I .boolean, 2000, .inl f276710) := e276708
          have hs276714 : rStr γ [] F276608 F276707 := rStr_put (rStr_rf (γ := γ) (W := []) (F := F276608)) n276709 ht276637 (by decide)
          have kp276715 : F276707 q276609 = F276608 q276609 := n276709 q276609 (rn_ty htq276609 ht276637 (by decide))
          have bf276710 : gF f276710 0 1 := gF_upd hf276710 bf276662 (gB_w (gBl (show Int32.toInt 1 = 1 by decide)) (by decide) (by decide))
          have hT276716 : RS D I P276607 F276707 γ el := RS_set hT n276709 ht276637 (by decide) ⟨f276710, he276713, bf276710⟩
          exact G_vretA dr_cX17_stand_75 rfl (Nat.le_of_ble_eq_true rfl) (Nat.le_of_ble_eq_true rfl) ⟨F276707, rfl, rfl, hT276716, hs276714, (Nat.le_of_ble_eq_true rfl), (Nat.le_of_ble_eq_true rfl), (fun _ n => by rw [cB_of he276713, cB_of he276661, nmS_of he276664]; exact nm_fin false false true (decide_eq_false (show ¬ (p276665.toInt ≤ 21) by omega)) (decide_eq_false (show ¬ (p276665.toInt ≠ 20 ∧ p276665.toInt ≠ 21 ∧ p276665.toInt ≠ 30 ∧ p276670.toInt = 1) by omega)) (decide_eq_true (show (0 < p276665.toInt ∧ p276665.toInt < 20 ∧ p276671.toInt = 1) by omega)) (by rw [sd_u hf276710 (by omega) (by omega)]; simp)), kp276715⟩
      · have r276717 : o276693.toInt ≠ 0 := gj_neq hc276695 (show Int32.toInt 0 = 0 by decide)
        have bo276693' : gB o276693 1 1 := gB_t1 bo276693 r276717
        refine G_aload_n 1 dr_cX17_stand_48 rfl ?_
        refine Gp_get 3 hm276613 he276614 dr_cX17_stand_49 (gk_X17 D I) (Nat.le_of_ble_eq_true rfl) wr_7_77 rfl ?_
        refine G_aload_n 2 dr_cX17_stand_52 rfl ?_
        refine Gp_get 2 hm276663 he276664 dr_cX17_stand_53 (gk_X15 D I) (Nat.le_of_ble_eq_true rfl) wr_9_182 rfl ?_
        refine G_iconst 1 dr_cX17_stand_56 (by decide +kernel) ?_
        refine Gp_zast 3 hm276660 he276661 dr_cX17_stand_57 rfl (gB_inr (by omega) (by omega)) (fun F276718 e276719 n276720 => ?_)
        obtain ⟨f276721, hf276721⟩ : ∃ z, z = upd f276662 p276667.toNatClampNeg (vp_nar .boolean 1) := ⟨_, rfl⟩
        rw [← hf276721] at e276719
        have he276722 : F276718 q276609 = .inr (22, [.ref (γ 9 0), .ref (γ 9 1), .ref (γ 9 2), .ref (γ 9 3), .ref (γ 9 4), .ref (γ 9 5), .ref (γ 9 6), .ref (γ 9 7), .ref (γ 9 8), .int p276617, .int p276618, .int p276619, .int p276620, .int p276621, .int p276622, .ref (γ 9 15), .ref (γ 9 16), .ref (γ 9 17), .ref (γ 9 18), .ref (γ 9 19), .ref (γ 9 20), .ref (γ 9 21), .ref (γ 9 22), .int p276623, .int p276624, .int p276625, .int p276626, .int p276627, .ref q276615, .ref (γ 9 29), .int p276628, .ref (γ 9 31), .int p276629, .int p276630, .int p276631, .ref q276616]) := (n276720 q276609 (rn_oa he276614 he276661)).trans he276614
        have he276723 : F276718 q276610 = .inr (20, [.int p276665, .int p276666, .int p276667, .int p276668, .int p276669, .int p276670, .int p276671]) := (n276720 q276610 (rn_oa he276664 he276661)).trans he276664
        have he276724 : F276718 (γ 9 3) = .inl (I .boolean, 2000, .inl f276721) := e276719
        have hs276725 : rStr γ [] F276608 F276718 := rStr_put (rStr_rf (γ := γ) (W := []) (F := F276608)) n276720 ht276637 (by decide)
        have kp276726 : F276718 q276609 = F276608 q276609 := n276720 q276609 (rn_ty htq276609 ht276637 (by decide))
        have bf276721 : gF f276721 0 1 := gF_upd hf276721 bf276662 (gB_w (gBl (show Int32.toInt 1 = 1 by decide)) (by decide) (by decide))
        refine G_aload_n 2 dr_cX17_stand_58 rfl ?_
        have hT276727 : RS D I P276607 F276718 γ el := RS_set hT n276720 ht276637 (by decide) ⟨f276721, he276724, bf276721⟩
        refine Gw_callV (As := []) (gV_ok D I) (cp_215463_Row_usesB l hl0 D I P276607 F276718 q276610 p276665 p276666 p276667 p276668 p276669 p276670 p276671 hm276663 he276723 bp276665 bp276666 bp276669 bp276670 bp276671) dr_cX17_stand_59 ⟨wr_10_192, wr_1_39, wr_10_195, by decide, rfl, (Nat.le_of_ble_eq_true rfl), (Nat.le_of_ble_eq_true rfl)⟩ wr_10_193 wr_10_194 hm276663 he276723 rfl (show 0 + 0 ≤ 0 by first | omega | decide) (show 0 + 0 ≤ 0 by first | omega | decide) (Nat.le_of_ble_eq_true rfl) (fun r276731 w276732 dc276728 ds276729 hp276730 => ?_) (fun _ _ _ _ _ z => z.elim)
        obtain ⟨o276733, rfl, rfl, hdc, hds, bo276733, x276734⟩ := hp276730
        change G _ _ _ _ _ _ _ (.int o276733 :: _) _ _ _
        refine G_widen (cs' := 0) (sl' := 0) (by omega) (by omega) ?_
        refine G_if_eq 75 dr_cX17_stand_62 (by decide +kernel) (fun hc276735 => ?_) (fun hc276735 => ?_)
        · have r276736 : o276733.toInt = 0 := gj_eq hc276735 (show Int32.toInt 0 = 0 by decide)
          have bo276733' : gB o276733 0 0 := gB_t0 r276736
          exact G_vretA dr_cX17_stand_75 rfl (Nat.le_of_ble_eq_true rfl) (Nat.le_of_ble_eq_true rfl) ⟨F276718, rfl, rfl, hT276727, hs276725, (Nat.le_of_ble_eq_true rfl), (Nat.le_of_ble_eq_true rfl), (fun _ n => by rw [cB_of he276724, cB_of he276661, nmS_of he276664]; exact nm_fin false true false (decide_eq_false (show ¬ (p276665.toInt ≤ 21) by omega)) (decide_eq_true (show (p276665.toInt ≠ 20 ∧ p276665.toInt ≠ 21 ∧ p276665.toInt ≠ 30 ∧ p276670.toInt = 1) by omega)) (decide_eq_false (show ¬ (0 < p276665.toInt ∧ p276665.toInt < 20 ∧ p276671.toInt = 1) by omega)) (by rw [sd_u hf276721 (by omega) (by omega)]; simp)), kp276726⟩
        · have r276737 : o276733.toInt ≠ 0 := gj_neq hc276735 (show Int32.toInt 0 = 0 by decide)
          have bo276733' : gB o276733 1 1 := gB_t1 bo276733 r276737
          refine G_aload_n 1 dr_cX17_stand_65 rfl ?_
          refine Gp_get 3 hm276613 he276722 dr_cX17_stand_66 (gk_X17 D I) (Nat.le_of_ble_eq_true rfl) wr_7_77 rfl ?_
          refine G_aload_n 2 dr_cX17_stand_69 rfl ?_
          refine Gp_get 3 hm276663 he276723 dr_cX17_stand_70 (gk_X15 D I) (Nat.le_of_ble_eq_true rfl) wr_9_186 rfl ?_
          refine G_iconst 1 dr_cX17_stand_73 (by decide +kernel) ?_
          refine Gp_zast 3 hm276660 he276724 dr_cX17_stand_74 rfl (gB_inr (by omega) (by omega)) (fun F276738 e276739 n276740 => ?_)
          obtain ⟨f276741, hf276741⟩ : ∃ z, z = upd f276721 p276668.toNatClampNeg (vp_nar .boolean 1) := ⟨_, rfl⟩
          rw [← hf276741] at e276739
          have he276742 : F276738 q276609 = .inr (22, [.ref (γ 9 0), .ref (γ 9 1), .ref (γ 9 2), .ref (γ 9 3), .ref (γ 9 4), .ref (γ 9 5), .ref (γ 9 6), .ref (γ 9 7), .ref (γ 9 8), .int p276617, .int p276618, .int p276619, .int p276620, .int p276621, .int p276622, .ref (γ 9 15), .ref (γ 9 16), .ref (γ 9 17), .ref (γ 9 18), .ref (γ 9 19), .ref (γ 9 20), .ref (γ 9 21), .ref (γ 9 22), .int p276623, .int p276624, .int p276625, .int p276626, .int p276627, .ref q276615, .ref (γ 9 29), .int p276628, .ref (γ 9 31), .int p276629, .int p276630, .int p276631, .ref q276616]) := (n276740 q276609 (rn_oa he276722 he276724)).trans he276722
          have he276743 : F276738 q276610 = .inr (20, [.int p276665, .int p276666, .int p276667, .int p276668, .int p276669, .int p276670, .int p276671]) := (n276740 q276610 (rn_oa he276723 he276724)).trans he276723
          have he276744 : F276738 (γ 9 3) = .inl (I .boolean, 2000, .inl f276741) := e276739
          have hs276745 : rStr γ [] F276608 F276738 := rStr_put hs276725 n276740 ht276637 (by decide)
          have kp276746 : F276738 q276609 = F276608 q276609 := (n276740 q276609 (rn_ty htq276609 ht276637 (by decide))).trans kp276726
          have bf276741 : gF f276741 0 1 := gF_upd hf276741 bf276721 (gB_w (gBl (show Int32.toInt 1 = 1 by decide)) (by decide) (by decide))
          have hT276747 : RS D I P276607 F276738 γ el := RS_set hT276727 n276740 ht276637 (by decide) ⟨f276741, he276744, bf276741⟩
          exact G_vretA dr_cX17_stand_75 rfl (Nat.le_of_ble_eq_true rfl) (Nat.le_of_ble_eq_true rfl) ⟨F276738, rfl, rfl, hT276747, hs276745, (Nat.le_of_ble_eq_true rfl), (Nat.le_of_ble_eq_true rfl), (fun _ n => by rw [cB_of he276744, cB_of he276661, nmS_of he276664]; exact nm_fin false true true (decide_eq_false (show ¬ (p276665.toInt ≤ 21) by omega)) (decide_eq_true (show (p276665.toInt ≠ 20 ∧ p276665.toInt ≠ 21 ∧ p276665.toInt ≠ 30 ∧ p276670.toInt = 1) by omega)) (decide_eq_true (show (0 < p276665.toInt ∧ p276665.toInt < 20 ∧ p276671.toInt = 1) by omega)) (by rw [sd_u hf276741 (by omega) (by omega), sd_u hf276721 (by omega) (by omega)]; simp)), kp276746⟩
    · have r276748 : p276611.toInt ≠ 0 := gj_neq hc276686 (show Int32.toInt 0 = 0 by decide)
      have bp276611' : gB p276611 1 1 := gB_t1 bp276611 r276748
      refine G_aload_n 2 dr_cX17_stand_21 rfl ?_
      refine Gp_get 0 hm276663 he276664 dr_cX17_stand_22 (gk_X15 D I) (Nat.le_of_ble_eq_true rfl) wr_9_173 rfl ?_
      refine G_bipush 21 dr_cX17_stand_25 (by decide +kernel) ?_
      refine G_icmp_ne 40 dr_cX17_stand_27 (by decide +kernel) (fun hc276749 => ?_) (fun hc276749 => ?_)
      · have r276750 : p276665.toInt ≠ 21 := gj_neq hc276749 (show Int32.toInt 21 = 21 by decide)
        exact G_vretA dr_cX17_stand_40 rfl (Nat.le_of_ble_eq_true rfl) (Nat.le_of_ble_eq_true rfl) ⟨F276608, rfl, rfl, hT, (rStr_rf (γ := γ) (W := []) (F := F276608)), (Nat.le_of_ble_eq_true rfl), (Nat.le_of_ble_eq_true rfl), (fun h => absurd h (by omega)), rfl⟩
      · have r276751 : p276665.toInt = 21 := gj_eq hc276749 (show Int32.toInt 21 = 21 by decide)
        have bp276665' : gB p276665 21 21 := ⟨by omega, by omega⟩
        refine G_aload_n 1 dr_cX17_stand_30 rfl ?_
        refine Gp_get 3 hm276613 he276614 dr_cX17_stand_31 (gk_X17 D I) (Nat.le_of_ble_eq_true rfl) wr_7_77 rfl ?_
        refine G_aload_n 2 dr_cX17_stand_34 rfl ?_
        refine Gp_get 4 hm276663 he276664 dr_cX17_stand_35 (gk_X15 D I) (Nat.le_of_ble_eq_true rfl) wr_9_189 rfl ?_
        refine G_iconst 1 dr_cX17_stand_38 (by decide +kernel) ?_
        refine Gp_zast 3 hm276660 he276661 dr_cX17_stand_39 rfl (gB_in bp276669 (by decide) (by decide)) (fun F276752 e276753 n276754 => ?_)
        obtain ⟨f276755, hf276755⟩ : ∃ z, z = upd f276662 p276669.toNatClampNeg (vp_nar .boolean 1) := ⟨_, rfl⟩
        rw [← hf276755] at e276753
        have he276756 : F276752 q276609 = .inr (22, [.ref (γ 9 0), .ref (γ 9 1), .ref (γ 9 2), .ref (γ 9 3), .ref (γ 9 4), .ref (γ 9 5), .ref (γ 9 6), .ref (γ 9 7), .ref (γ 9 8), .int p276617, .int p276618, .int p276619, .int p276620, .int p276621, .int p276622, .ref (γ 9 15), .ref (γ 9 16), .ref (γ 9 17), .ref (γ 9 18), .ref (γ 9 19), .ref (γ 9 20), .ref (γ 9 21), .ref (γ 9 22), .int p276623, .int p276624, .int p276625, .int p276626, .int p276627, .ref q276615, .ref (γ 9 29), .int p276628, .ref (γ 9 31), .int p276629, .int p276630, .int p276631, .ref q276616]) := (n276754 q276609 (rn_oa he276614 he276661)).trans he276614
        have he276757 : F276752 q276610 = .inr (20, [.int p276665, .int p276666, .int p276667, .int p276668, .int p276669, .int p276670, .int p276671]) := (n276754 q276610 (rn_oa he276664 he276661)).trans he276664
        have he276758 : F276752 (γ 9 3) = .inl (I .boolean, 2000, .inl f276755) := e276753
        have hs276759 : rStr γ [] F276608 F276752 := rStr_put (rStr_rf (γ := γ) (W := []) (F := F276608)) n276754 ht276637 (by decide)
        have kp276760 : F276752 q276609 = F276608 q276609 := n276754 q276609 (rn_ty htq276609 ht276637 (by decide))
        have bf276755 : gF f276755 0 1 := gF_upd hf276755 bf276662 (gB_w (gBl (show Int32.toInt 1 = 1 by decide)) (by decide) (by decide))
        have hT276761 : RS D I P276607 F276752 γ el := RS_set hT n276754 ht276637 (by decide) ⟨f276755, he276758, bf276755⟩
        exact G_vretA dr_cX17_stand_40 rfl (Nat.le_of_ble_eq_true rfl) (Nat.le_of_ble_eq_true rfl) ⟨F276752, rfl, rfl, hT276761, hs276759, (Nat.le_of_ble_eq_true rfl), (Nat.le_of_ble_eq_true rfl), (fun h => absurd h (by omega)), kp276760⟩
  · have r276762 : 0 ≤ o276682.toInt := gj_nlt hc276684 (show Int32.toInt 0 = 0 by decide)
    have bo276682' : gB o276682 0 1999 := ⟨by omega, by omega⟩
    refine G_aload_n 1 dr_cX17_stand_10 rfl ?_
    refine Gp_get 3 hm276613 he276614 dr_cX17_stand_11 (gk_X17 D I) (Nat.le_of_ble_eq_true rfl) wr_7_77 rfl ?_
    refine G_iload_n 0 dr_cX17_stand_14 rfl ?_
    refine G_iconst 1 dr_cX17_stand_15 (by decide +kernel) ?_
    refine Gp_zast 3 hm276660 he276661 dr_cX17_stand_16 rfl (gB_in bo276682' (by decide) (by decide)) (fun F276763 e276764 n276765 => ?_)
    obtain ⟨f276766, hf276766⟩ : ∃ z, z = upd f276662 o276682.toNatClampNeg (vp_nar .boolean 1) := ⟨_, rfl⟩
    rw [← hf276766] at e276764
    have he276767 : F276763 q276609 = .inr (22, [.ref (γ 9 0), .ref (γ 9 1), .ref (γ 9 2), .ref (γ 9 3), .ref (γ 9 4), .ref (γ 9 5), .ref (γ 9 6), .ref (γ 9 7), .ref (γ 9 8), .int p276617, .int p276618, .int p276619, .int p276620, .int p276621, .int p276622, .ref (γ 9 15), .ref (γ 9 16), .ref (γ 9 17), .ref (γ 9 18), .ref (γ 9 19), .ref (γ 9 20), .ref (γ 9 21), .ref (γ 9 22), .int p276623, .int p276624, .int p276625, .int p276626, .int p276627, .ref q276615, .ref (γ 9 29), .int p276628, .ref (γ 9 31), .int p276629, .int p276630, .int p276631, .ref q276616]) := (n276765 q276609 (rn_oa he276614 he276661)).trans he276614
    have he276768 : F276763 q276610 = .inr (20, [.int p276665, .int p276666, .int p276667, .int p276668, .int p276669, .int p276670, .int p276671]) := (n276765 q276610 (rn_oa he276664 he276661)).trans he276664
    have he276769 : F276763 (γ 9 3) = .inl (I .boolean, 2000, .inl f276766) := e276764
    have hs276770 : rStr γ [] F276608 F276763 := rStr_put (rStr_rf (γ := γ) (W := []) (F := F276608)) n276765 ht276637 (by decide)
    have kp276771 : F276763 q276609 = F276608 q276609 := n276765 q276609 (rn_ty htq276609 ht276637 (by decide))
    have bf276766 : gF f276766 0 1 := gF_upd hf276766 bf276662 (gB_w (gBl (show Int32.toInt 1 = 1 by decide)) (by decide) (by decide))
    refine G_iload_n 3 dr_cX17_stand_17 rfl ?_
    refine G_if_eq 41 dr_cX17_stand_18 (by decide +kernel) (fun hc276772 => ?_) (fun hc276772 => ?_)
    · have r276773 : p276611.toInt = 0 := gj_eq hc276772 (show Int32.toInt 0 = 0 by decide)
      have bp276611' : gB p276611 0 0 := gB_t0 r276773
      refine G_aload_n 2 dr_cX17_stand_41 rfl ?_
      have hT276774 : RS D I P276607 F276763 γ el := RS_set hT n276765 ht276637 (by decide) ⟨f276766, he276769, bf276766⟩
      refine Gw_callV (As := []) (gV_ok D I) (cp_215439_Row_usesA l hl0 D I P276607 F276763 q276610 p276665 p276666 p276667 p276668 p276669 p276670 p276671 hm276663 he276768 bp276665 bp276666 bp276669 bp276670 bp276671) dr_cX17_stand_42 ⟨wr_10_188, wr_1_39, wr_10_191, by decide, rfl, (Nat.le_of_ble_eq_true rfl), (Nat.le_of_ble_eq_true rfl)⟩ wr_10_189 wr_10_190 hm276663 he276768 rfl (show 0 + 0 ≤ 0 by first | omega | decide) (show 0 + 0 ≤ 0 by first | omega | decide) (Nat.le_of_ble_eq_true rfl) (fun r276778 w276779 dc276775 ds276776 hp276777 => ?_) (fun _ _ _ _ _ z => z.elim)
      obtain ⟨o276780, rfl, rfl, hdc, hds, bo276780, x276781⟩ := hp276777
      change G _ _ _ _ _ _ _ (.int o276780 :: _) _ _ _
      refine G_widen (cs' := 0) (sl' := 0) (by omega) (by omega) ?_
      refine G_if_eq 58 dr_cX17_stand_45 (by decide +kernel) (fun hc276782 => ?_) (fun hc276782 => ?_)
      · have r276783 : o276780.toInt = 0 := gj_eq hc276782 (show Int32.toInt 0 = 0 by decide)
        have bo276780' : gB o276780 0 0 := gB_t0 r276783
        refine G_aload_n 2 dr_cX17_stand_58 rfl ?_
        refine Gw_callV (As := []) (gV_ok D I) (cp_215463_Row_usesB l hl0 D I P276607 F276763 q276610 p276665 p276666 p276667 p276668 p276669 p276670 p276671 hm276663 he276768 bp276665 bp276666 bp276669 bp276670 bp276671) dr_cX17_stand_59 ⟨wr_10_192, wr_1_39, wr_10_195, by decide, rfl, (Nat.le_of_ble_eq_true rfl), (Nat.le_of_ble_eq_true rfl)⟩ wr_10_193 wr_10_194 hm276663 he276768 rfl (show 0 + 0 ≤ 0 by first | omega | decide) (show 0 + 0 ≤ 0 by first | omega | decide) (Nat.le_of_ble_eq_true rfl) (fun r276787 w276788 dc276784 ds276785 hp276786 => ?_) (fun _ _ _ _ _ z => z.elim)
        obtain ⟨o276789, rfl, rfl, hdc, hds, bo276789, x276790⟩ := hp276786
        change G _ _ _ _ _ _ _ (.int o276789 :: _) _ _ _
        refine G_widen (cs' := 0) (sl' := 0) (by omega) (by omega) ?_
        refine G_if_eq 75 dr_cX17_stand_62 (by decide +kernel) (fun hc276791 => ?_) (fun hc276791 => ?_)
        · have r276792 : o276789.toInt = 0 := gj_eq hc276791 (show Int32.toInt 0 = 0 by decide)
          have bo276789' : gB o276789 0 0 := gB_t0 r276792
          exact G_vretA dr_cX17_stand_75 rfl (Nat.le_of_ble_eq_true rfl) (Nat.le_of_ble_eq_true rfl) ⟨F276763, rfl, rfl, hT276774, hs276770, (Nat.le_of_ble_eq_true rfl), (Nat.le_of_ble_eq_true rfl), (fun _ n => by rw [cB_of he276769, cB_of he276661, nmS_of he276664]; exact nm_fin true false false (decide_eq_true (show (p276665.toInt ≤ 21) by omega)) (decide_eq_false (show ¬ (p276665.toInt ≠ 20 ∧ p276665.toInt ≠ 21 ∧ p276665.toInt ≠ 30 ∧ p276670.toInt = 1) by omega)) (decide_eq_false (show ¬ (0 < p276665.toInt ∧ p276665.toInt < 20 ∧ p276671.toInt = 1) by omega)) (by rw [sd_u hf276766 (by omega) (by omega), show o276682.toInt = p276666.toInt by omega]; simp)), kp276771⟩
        · have r276793 : o276789.toInt ≠ 0 := gj_neq hc276791 (show Int32.toInt 0 = 0 by decide)
          have bo276789' : gB o276789 1 1 := gB_t1 bo276789 r276793
          refine G_aload_n 1 dr_cX17_stand_65 rfl ?_
          refine Gp_get 3 hm276613 he276767 dr_cX17_stand_66 (gk_X17 D I) (Nat.le_of_ble_eq_true rfl) wr_7_77 rfl ?_
          refine G_aload_n 2 dr_cX17_stand_69 rfl ?_
          refine Gp_get 3 hm276663 he276768 dr_cX17_stand_70 (gk_X15 D I) (Nat.le_of_ble_eq_true rfl) wr_9_186 rfl ?_
          refine G_iconst 1 dr_cX17_stand_73 (by decide +kernel) ?_
          refine Gp_zast 3 hm276660 he276769 dr_cX17_stand_74 rfl (gB_inr (by omega) (by omega)) (fun F276794 e276795 n276796 => ?_)
          obtain ⟨f276797, hf276797⟩ : ∃ z, z = upd f276766 p276668.toNatClampNeg (vp_nar .boolean 1) := ⟨_, rfl⟩
          rw [← hf276797] at e276795
          have he276798 : F276794 q276609 = .inr (22, [.ref (γ 9 0), .ref (γ 9 1), .ref (γ 9 2), .ref (γ 9 3), .ref (γ 9 4), .ref (γ 9 5), .ref (γ 9 6), .ref (γ 9 7), .ref (γ 9 8), .int p276617, .int p276618, .int p276619, .int p276620, .int p276621, .int p276622, .ref (γ 9 15), .ref (γ 9 16), .ref (γ 9 17), .ref (γ 9 18), .ref (γ 9 19), .ref (γ 9 20), .ref (γ 9 21), .ref (γ 9 22), .int p276623, .int p276624, .int p276625, .int p276626, .int p276627, .ref q276615, .ref (γ 9 29), .int p276628, .ref (γ 9 31), .int p276629, .int p276630, .int p276631, .ref q276616]) := (n276796 q276609 (rn_oa he276767 he276769)).trans he276767
          have he276799 : F276794 q276610 = .inr (20, [.int p276665, .int p276666, .int p276667, .int p276668, .int p276669, .int p276670, .int p276671]) := (n276796 q276610 (rn_oa he276768 he276769)).trans he276768
          have he276800 : F276794 (γ 9 3) = .inl (I .boolean, 2000, .inl f276797) := e276795
          have hs276801 : rStr γ [] F276608 F276794 := rStr_put hs276770 n276796 ht276637 (by decide)
          have kp276802 : F276794 q276609 = F276608 q276609 := (n276796 q276609 (rn_ty htq276609 ht276637 (by decide))).trans kp276771
          have bf276797 : gF f276797 0 1 := gF_upd hf276797 bf276766 (gB_w (gBl (show Int32.toInt 1 = 1 by decide)) (by decide) (by decide))
          have hT276803 : RS D I P276607 F276794 γ el := RS_set hT276774 n276796 ht276637 (by decide) ⟨f276797, he276800, bf276797⟩
          exact G_vretA dr_cX17_stand_75 rfl (Nat.le_of_ble_eq_true rfl) (Nat.le_of_ble_eq_true rfl) ⟨F276794, rfl, rfl, hT276803, hs276801, (Nat.le_of_ble_eq_true rfl), (Nat.le_of_ble_eq_true rfl), (fun _ n => by rw [cB_of he276800, cB_of he276661, nmS_of he276664]; exact nm_fin true false true (decide_eq_true (show (p276665.toInt ≤ 21) by omega)) (decide_eq_false (show ¬ (p276665.toInt ≠ 20 ∧ p276665.toInt ≠ 21 ∧ p276665.toInt ≠ 30 ∧ p276670.toInt = 1) by omega)) (decide_eq_true (show (0 < p276665.toInt ∧ p276665.toInt < 20 ∧ p276671.toInt = 1) by omega)) (by rw [sd_u hf276797 (by omega) (by omega), sd_u hf276766 (by omega) (by omega), show o276682.toInt = p276666.toInt by omega]; simp)), kp276802⟩
      · have r276804 : o276780.toInt ≠ 0 := gj_neq hc276782 (show Int32.toInt 0 = 0 by decide)
        have bo276780' : gB o276780 1 1 := gB_t1 bo276780 r276804
        refine G_aload_n 1 dr_cX17_stand_48 rfl ?_
        refine Gp_get 3 hm276613 he276767 dr_cX17_stand_49 (gk_X17 D I) (Nat.le_of_ble_eq_true rfl) wr_7_77 rfl ?_
        refine G_aload_n 2 dr_cX17_stand_52 rfl ?_
        refine Gp_get 2 hm276663 he276768 dr_cX17_stand_53 (gk_X15 D I) (Nat.le_of_ble_eq_true rfl) wr_9_182 rfl ?_
        refine G_iconst 1 dr_cX17_stand_56 (by decide +kernel) ?_
        refine Gp_zast 3 hm276660 he276769 dr_cX17_stand_57 rfl (gB_inr (by omega) (by omega)) (fun F276805 e276806 n276807 => ?_)
        obtain ⟨f276808, hf276808⟩ : ∃ z, z = upd f276766 p276667.toNatClampNeg (vp_nar .boolean 1) := ⟨_, rfl⟩
        rw [← hf276808] at e276806
        have he276809 : F276805 q276609 = .inr (22, [.ref (γ 9 0), .ref (γ 9 1), .ref (γ 9 2), .ref (γ 9 3), .ref (γ 9 4), .ref (γ 9 5), .ref (γ 9 6), .ref (γ 9 7), .ref (γ 9 8), .int p276617, .int p276618, .int p276619, .int p276620, .int p276621, .int p276622, .ref (γ 9 15), .ref (γ 9 16), .ref (γ 9 17), .ref (γ 9 18), .ref (γ 9 19), .ref (γ 9 20), .ref (γ 9 21), .ref (γ 9 22), .int p276623, .int p276624, .int p276625, .int p276626, .int p276627, .ref q276615, .ref (γ 9 29), .int p276628, .ref (γ 9 31), .int p276629, .int p276630, .int p276631, .ref q276616]) := (n276807 q276609 (rn_oa he276767 he276769)).trans he276767
        have he276810 : F276805 q276610 = .inr (20, [.int p276665, .int p276666, .int p276667, .int p276668, .int p276669, .int p276670, .int p276671]) := (n276807 q276610 (rn_oa he276768 he276769)).trans he276768
        have he276811 : F276805 (γ 9 3) = .inl (I .boolean, 2000, .inl f276808) := e276806
        have hs276812 : rStr γ [] F276608 F276805 := rStr_put hs276770 n276807 ht276637 (by decide)
        have kp276813 : F276805 q276609 = F276608 q276609 := (n276807 q276609 (rn_ty htq276609 ht276637 (by decide))).trans kp276771
        have bf276808 : gF f276808 0 1 := gF_upd hf276808 bf276766 (gB_w (gBl (show Int32.toInt 1 = 1 by decide)) (by decide) (by decide))
        refine G_aload_n 2 dr_cX17_stand_58 rfl ?_
        have hT276814 : RS D I P276607 F276805 γ el := RS_set hT276774 n276807 ht276637 (by decide) ⟨f276808, he276811, bf276808⟩
        refine Gw_callV (As := []) (gV_ok D I) (cp_215463_Row_usesB l hl0 D I P276607 F276805 q276610 p276665 p276666 p276667 p276668 p276669 p276670 p276671 hm276663 he276810 bp276665 bp276666 bp276669 bp276670 bp276671) dr_cX17_stand_59 ⟨wr_10_192, wr_1_39, wr_10_195, by decide, rfl, (Nat.le_of_ble_eq_true rfl), (Nat.le_of_ble_eq_true rfl)⟩ wr_10_193 wr_10_194 hm276663 he276810 rfl (show 0 + 0 ≤ 0 by first | omega | decide) (show 0 + 0 ≤ 0 by first | omega | decide) (Nat.le_of_ble_eq_true rfl) (fun r276818 w276819 dc276815 ds276816 hp276817 => ?_) (fun _ _ _ _ _ z => z.elim)
        obtain ⟨o276820, rfl, rfl, hdc, hds, bo276820, x276821⟩ := hp276817
        change G _ _ _ _ _ _ _ (.int o276820 :: _) _ _ _
        refine G_widen (cs' := 0) (sl' := 0) (by omega) (by omega) ?_
        refine G_if_eq 75 dr_cX17_stand_62 (by decide +kernel) (fun hc276822 => ?_) (fun hc276822 => ?_)
        · have r276823 : o276820.toInt = 0 := gj_eq hc276822 (show Int32.toInt 0 = 0 by decide)
          have bo276820' : gB o276820 0 0 := gB_t0 r276823
          exact G_vretA dr_cX17_stand_75 rfl (Nat.le_of_ble_eq_true rfl) (Nat.le_of_ble_eq_true rfl) ⟨F276805, rfl, rfl, hT276814, hs276812, (Nat.le_of_ble_eq_true rfl), (Nat.le_of_ble_eq_true rfl), (fun _ n => by rw [cB_of he276811, cB_of he276661, nmS_of he276664]; exact nm_fin true true false (decide_eq_true (show (p276665.toInt ≤ 21) by omega)) (decide_eq_true (show (p276665.toInt ≠ 20 ∧ p276665.toInt ≠ 21 ∧ p276665.toInt ≠ 30 ∧ p276670.toInt = 1) by omega)) (decide_eq_false (show ¬ (0 < p276665.toInt ∧ p276665.toInt < 20 ∧ p276671.toInt = 1) by omega)) (by rw [sd_u hf276808 (by omega) (by omega), sd_u hf276766 (by omega) (by omega), show o276682.toInt = p276666.toInt by omega]; simp)), kp276813⟩
        · have r276824 : o276820.toInt ≠ 0 := gj_neq hc276822 (show Int32.toInt 0 = 0 by decide)
          have bo276820' : gB o276820 1 1 := gB_t1 bo276820 r276824
          refine G_aload_n 1 dr_cX17_stand_65 rfl ?_
          refine Gp_get 3 hm276613 he276809 dr_cX17_stand_66 (gk_X17 D I) (Nat.le_of_ble_eq_true rfl) wr_7_77 rfl ?_
          refine G_aload_n 2 dr_cX17_stand_69 rfl ?_
          refine Gp_get 3 hm276663 he276810 dr_cX17_stand_70 (gk_X15 D I) (Nat.le_of_ble_eq_true rfl) wr_9_186 rfl ?_
          refine G_iconst 1 dr_cX17_stand_73 (by decide +kernel) ?_
          refine Gp_zast 3 hm276660 he276811 dr_cX17_stand_74 rfl (gB_inr (by omega) (by omega)) (fun F276825 e276826 n276827 => ?_)
          obtain ⟨f276828, hf276828⟩ : ∃ z, z = upd f276808 p276668.toNatClampNeg (vp_nar .boolean 1) := ⟨_, rfl⟩
          rw [← hf276828] at e276826
          have he276829 : F276825 q276609 = .inr (22, [.ref (γ 9 0), .ref (γ 9 1), .ref (γ 9 2), .ref (γ 9 3), .ref (γ 9 4), .ref (γ 9 5), .ref (γ 9 6), .ref (γ 9 7), .ref (γ 9 8), .int p276617, .int p276618, .int p276619, .int p276620, .int p276621, .int p276622, .ref (γ 9 15), .ref (γ 9 16), .ref (γ 9 17), .ref (γ 9 18), .ref (γ 9 19), .ref (γ 9 20), .ref (γ 9 21), .ref (γ 9 22), .int p276623, .int p276624, .int p276625, .int p276626, .int p276627, .ref q276615, .ref (γ 9 29), .int p276628, .ref (γ 9 31), .int p276629, .int p276630, .int p276631, .ref q276616]) := (n276827 q276609 (rn_oa he276809 he276811)).trans he276809
          have he276830 : F276825 q276610 = .inr (20, [.int p276665, .int p276666, .int p276667, .int p276668, .int p276669, .int p276670, .int p276671]) := (n276827 q276610 (rn_oa he276810 he276811)).trans he276810
          have he276831 : F276825 (γ 9 3) = .inl (I .boolean, 2000, .inl f276828) := e276826
          have hs276832 : rStr γ [] F276608 F276825 := rStr_put hs276812 n276827 ht276637 (by decide)
          have kp276833 : F276825 q276609 = F276608 q276609 := (n276827 q276609 (rn_ty htq276609 ht276637 (by decide))).trans kp276813
          have bf276828 : gF f276828 0 1 := gF_upd hf276828 bf276808 (gB_w (gBl (show Int32.toInt 1 = 1 by decide)) (by decide) (by decide))
          have hT276834 : RS D I P276607 F276825 γ el := RS_set hT276814 n276827 ht276637 (by decide) ⟨f276828, he276831, bf276828⟩
          exact G_vretA dr_cX17_stand_75 rfl (Nat.le_of_ble_eq_true rfl) (Nat.le_of_ble_eq_true rfl) ⟨F276825, rfl, rfl, hT276834, hs276832, (Nat.le_of_ble_eq_true rfl), (Nat.le_of_ble_eq_true rfl), (fun _ n => by rw [cB_of he276831, cB_of he276661, nmS_of he276664]; exact nm_fin true true true (decide_eq_true (show (p276665.toInt ≤ 21) by omega)) (decide_eq_true (show (p276665.toInt ≠ 20 ∧ p276665.toInt ≠ 21 ∧ p276665.toInt ≠ 30 ∧ p276670.toInt = 1) by omega)) (decide_eq_true (show (0 < p276665.toInt ∧ p276665.toInt < 20 ∧ p276671.toInt = 1) by omega)) (by rw [sd_u hf276828 (by omega) (by omega), sd_u hf276808 (by omega) (by omega), sd_u hf276766 (by omega) (by omega), show o276682.toInt = p276666.toInt by omega]; simp)), kp276833⟩
    · have r276835 : p276611.toInt ≠ 0 := gj_neq hc276772 (show Int32.toInt 0 = 0 by decide)
      have bp276611' : gB p276611 1 1 := gB_t1 bp276611 r276835
      refine G_aload_n 2 dr_cX17_stand_21 rfl ?_
      refine Gp_get 0 hm276663 he276768 dr_cX17_stand_22 (gk_X15 D I) (Nat.le_of_ble_eq_true rfl) wr_9_173 rfl ?_
      refine G_bipush 21 dr_cX17_stand_25 (by decide +kernel) ?_
      refine G_icmp_ne 40 dr_cX17_stand_27 (by decide +kernel) (fun hc276836 => ?_) (fun hc276836 => ?_)
      · have r276837 : p276665.toInt ≠ 21 := gj_neq hc276836 (show Int32.toInt 21 = 21 by decide)
        have hT276838 : RS D I P276607 F276763 γ el := RS_set hT n276765 ht276637 (by decide) ⟨f276766, he276769, bf276766⟩
        exact G_vretA dr_cX17_stand_40 rfl (Nat.le_of_ble_eq_true rfl) (Nat.le_of_ble_eq_true rfl) ⟨F276763, rfl, rfl, hT276838, hs276770, (Nat.le_of_ble_eq_true rfl), (Nat.le_of_ble_eq_true rfl), (fun h => absurd h (by omega)), kp276771⟩
      · have r276839 : p276665.toInt = 21 := gj_eq hc276836 (show Int32.toInt 21 = 21 by decide)
        have bp276665' : gB p276665 21 21 := ⟨by omega, by omega⟩
        refine G_aload_n 1 dr_cX17_stand_30 rfl ?_
        refine Gp_get 3 hm276613 he276767 dr_cX17_stand_31 (gk_X17 D I) (Nat.le_of_ble_eq_true rfl) wr_7_77 rfl ?_
        refine G_aload_n 2 dr_cX17_stand_34 rfl ?_
        refine Gp_get 4 hm276663 he276768 dr_cX17_stand_35 (gk_X15 D I) (Nat.le_of_ble_eq_true rfl) wr_9_189 rfl ?_
        refine G_iconst 1 dr_cX17_stand_38 (by decide +kernel) ?_
        refine Gp_zast 3 hm276660 he276769 dr_cX17_stand_39 rfl (gB_in bp276669 (by decide) (by decide)) (fun F276840 e276841 n276842 => ?_)
        obtain ⟨f276843, hf276843⟩ : ∃ z, z = upd f276766 p276669.toNatClampNeg (vp_nar .boolean 1) := ⟨_, rfl⟩
        rw [← hf276843] at e276841
        have he276844 : F276840 q276609 = .inr (22, [.ref (γ 9 0), .ref (γ 9 1), .ref (γ 9 2), .ref (γ 9 3), .ref (γ 9 4), .ref (γ 9 5), .ref (γ 9 6), .ref (γ 9 7), .ref (γ 9 8), .int p276617, .int p276618, .int p276619, .int p276620, .int p276621, .int p276622, .ref (γ 9 15), .ref (γ 9 16), .ref (γ 9 17), .ref (γ 9 18), .ref (γ 9 19), .ref (γ 9 20), .ref (γ 9 21), .ref (γ 9 22), .int p276623, .int p276624, .int p276625, .int p276626, .int p276627, .ref q276615, .ref (γ 9 29), .int p276628, .ref (γ 9 31), .int p276629, .int p276630, .int p276631, .ref q276616]) := (n276842 q276609 (rn_oa he276767 he276769)).trans he276767
        have he276845 : F276840 q276610 = .inr (20, [.int p276665, .int p276666, .int p276667, .int p276668, .int p276669, .int p276670, .int p276671]) := (n276842 q276610 (rn_oa he276768 he276769)).trans he276768
        have he276846 : F276840 (γ 9 3) = .inl (I .boolean, 2000, .inl f276843) := e276841
        have hs276847 : rStr γ [] F276608 F276840 := rStr_put hs276770 n276842 ht276637 (by decide)
        have n276848 : ∀ b, b ≠ (γ 9 3) → F276840 b = F276608 b := fun b hb => (n276842 b hb).trans (n276765 b hb)
        have kp276849 : F276840 q276609 = F276608 q276609 := (n276842 q276609 (rn_ty htq276609 ht276637 (by decide))).trans kp276771
        have bf276843 : gF f276843 0 1 := gF_upd hf276843 bf276766 (gB_w (gBl (show Int32.toInt 1 = 1 by decide)) (by decide) (by decide))
        have hT276850 : RS D I P276607 F276840 γ el := RS_set hT n276848 ht276637 (by decide) ⟨f276843, he276846, bf276843⟩
        exact G_vretA dr_cX17_stand_40 rfl (Nat.le_of_ble_eq_true rfl) (Nat.le_of_ble_eq_true rfl) ⟨F276840, rfl, rfl, hT276850, hs276847, (Nat.le_of_ble_eq_true rfl), (Nat.le_of_ble_eq_true rfl), (fun h => absurd h (by omega)), kp276849⟩
