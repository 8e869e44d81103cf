abbrev ky_409961_SpillForgeModel_findDepth : gKey := (cX17_findDepth, 13, "SpillForgeModel", none, [], "findDepth", fun _ _ => True)
def pt_409961_SpillForgeModel_findDepth (D : va_G) (I : FieldType → ClassId) (γ el : Nat → Nat → Nat) (P409956 : List Nat) (F409957 : Nat → va_E) (q409958 : Nat) (q409959 : Nat) : Option Value → va_W → Nat → Nat → Prop := fun r w dc ds => ∃ (F536096 : Nat → va_E), r = none ∧ w = va_pl P409956 F536096 ∧ RS D I P409956 F536096 γ el ∧ rStr γ [] F409957 F536096 ∧ dc ≤ 0 ∧ ds ≤ 0 ∧ (F536096 q409958 = F409957 q409958) ∧ (F536096 (γ 9 3) = F409957 (γ 9 3)) ∧ tr_RModel_findDepth2 D I γ el P409956 F409957 q409958 q409959 F536096
set_option maxRecDepth 100000 in
set_option maxHeartbeats 4000000 in
theorem ct_409961_SpillForgeModel_findDepth (l : Launch) (hl0 : l.stackTraces = false) (D : va_G) (I : FieldType → ClassId) (γ el : Nat → Nat → Nat) (P409956 : List Nat) (F409957 : Nat → va_E) (q409958 : Nat) (q409959 : Nat) (hT : RS D I P409956 F409957 γ el) (htq409958 : rKd γ q409958 10) (htq409959 : rKd γ q409959 9) (x409960 : 0 < γ 6 (γ 1 q409959)) : CtA (gV D I) l yX17_findDepth cX17_findDepth 13 none 5 112 0 0 [.ref q409958, .ref q409959] (va_pl P409956 F409957) (pt_409961_SpillForgeModel_findDepth D I γ el P409956 F409957 q409958 q409959) gNA := by
  refine CtA_of hl0 (by decide) (Nat.le_of_ble_eq_true rfl) ?_
  have hm409962 : q409958 ∈ P409956 := RS_m hT htq409958 (by decide)
  refine rk10_e (show rk_10 γ (F409957 q409958) from RS_o hT htq409958) (fun q409964 q409965 p409966 p409967 p409968 p409969 p409970 p409971 p409972 p409973 p409974 p409975 p409976 p409977 p409978 p409979 p409980 he409963 hB410007 ht409981 ht409982 ht409983 ht409984 ht409985 ht409986 ht409987 ht409988 ht409989 ht409990 ht409991 ht409992 ht409993 ht409994 ht409995 ht409996 ht409997 ht409998 ht409999 ht410000 ht410001 ht410002 ht410003 ht410004 hB410008 => ?_)
  refine G_iconst 0 dr_cX17_findDepth_0 (by decide +kernel) ?_
  refine G_istore_n (L' := [(2, .int 0), (0, .ref q409958), (1, .ref q409959)]) dr_cX17_findDepth_1 (Nat.le_of_ble_eq_true rfl) rfl ?_
  have hlp2_530364 : ∀ (n2_530364 : Nat) (F530360 : Nat → va_E) (g530359 : Int32), gB g530359 0 1000000 → RS D I P409956 F530360 γ el → rStr γ [] F409957 F530360 → (F530360 q409958 = F409957 q409958) → (F530360 (γ 9 3) = F409957 (γ 9 3)) → (∀ (k : Nat) (e1 : Nat → va_E), tl_RModel_findDepth2_2 D I γ el P409956 F409957 q409958 q409959 F530360 g530359 k e1 → tl_RModel_findDepth2_2 D I γ el P409956 F409957 q409958 q409959 F409957 (0 : Int32) k e1) → ((1000001 : Int) - g530359.toInt).toNat < n2_530364 → G (gV D I) l (gRm 5 112 0 0) (gMA (gV D I) (pt_409961_SpillForgeModel_findDepth D I γ el P409956 F409957 q409958 q409959) gNA 0 0) ky_409961_SpillForgeModel_findDepth 2 [(2, .int g530359), (0, .ref q409958), (1, .ref q409959)] [] (va_pl P409956 F530360) 0 0 := by
    intro n2_530364
    induction n2_530364 with
    | zero => intro F530360 g530359 bg530359 hT530361 hs530362 x530363 x530364 kt2_530365 hm2_530364; exact absurd hm2_530364 (Nat.not_lt_zero _)
    | succ n2_530364 ih2_530364 =>
      intro F530360 g530359 bg530359 hT530361 hs530362 x530363 x530364 kt2_530365 hm2_530364
      have hs530366 : rStr γ [] F409957 F530360 := fun b h0 hb hw => (hs530362 b h0 hb hw).trans ((rStr_rf (γ := γ) (W := []) (F := F409957)) b h0 hb hw).symm
      have hs530367 : rStr γ [] F409957 F530360 := rStr_tr (rStr_rf (γ := γ) (W := []) (F := F409957)) hs530366
      have he530368 : F530360 q409958 = .inr (22, [.ref (γ 9 0), .ref (γ 9 1), .ref (γ 9 2), .ref (γ 9 3), .ref (γ 9 4), .ref (γ 9 5), .ref (γ 9 6), .ref (γ 9 7), .ref (γ 9 8), .int p409966, .int p409967, .int p409968, .int p409969, .int p409970, .int p409971, .ref (γ 9 15), .ref (γ 9 16), .ref (γ 9 17), .ref (γ 9 18), .ref (γ 9 19), .ref (γ 9 20), .ref (γ 9 21), .ref (γ 9 22), .int p409972, .int p409973, .int p409974, .int p409975, .int p409976, .ref q409964, .ref (γ 9 29), .int p409977, .ref (γ 9 31), .int p409978, .int p409979, .int p409980, .ref q409965]) := x530363.trans he409963
      have hm530369 : q409958 ∈ P409956 := RS_m hT530361 htq409958 (by decide)
      refine G_iload_n 0 dr_cX17_findDepth_2 rfl ?_
      refine G_aload_n 2 dr_cX17_findDepth_3 rfl ?_
      have hm530370 : q409959 ∈ P409956 := RS_m hT530361 htq409959 (by decide)
      obtain ⟨q530372, q530373, p530374, p530375, he530371, ht530391, ht530376, ht530377, ht530378, ht530379, r530380, r530381, r530382, r530383, r530384, r530385, r530386, r530387, r530388, r530389, r530390⟩ := show rk_9 γ el q409959 (F530360 q409959) from RS_o hT530361 htq409959
      have bp530374 : gB p530374 0 1000000 := ⟨by omega, by omega⟩
      have bp530375 : gB p530375 0 1000000 := ⟨by omega, by omega⟩
      have fq530392 : fI (F530360 q409959) 3 = p530375 := by rw [he530371]; rfl
      refine Gw_callV (As := []) (gV_ok D I) (cp_12780_Code_size l hl0 D I P409956 F530360 q409959 q530372 q530373 p530374 p530375 hm530370 he530371) dr_cX17_findDepth_4 ⟨wr_10_160, wr_1_15, wr_9_131, by decide, rfl, (Nat.le_of_ble_eq_true rfl), (Nat.le_of_ble_eq_true rfl)⟩ wr_9_129 wr_9_130 hm530370 he530371 rfl (show 0 + 0 ≤ 0 by first | omega | decide) (show 0 + 0 ≤ 0 by first | omega | decide) (Nat.le_of_ble_eq_true rfl) (fun r530396 w530397 dc530393 ds530394 hp530395 => ?_) (fun _ _ _ _ _ z => z.elim)
      obtain ⟨rfl, rfl, hdc, hds⟩ := hp530395
      change G _ _ _ _ _ _ _ (.int p530375 :: _) _ _ _
      refine G_widen (cs' := 0) (sl' := 0) (by omega) (by omega) ?_
      refine G_icmp_ge 23 dr_cX17_findDepth_7 (by decide +kernel) (fun hc530398 => ?_) (fun hc530398 => ?_)
      · have r530399 : p530375.toInt ≤ g530359.toInt := gC_le hc530398
        have hx530400 : tl_RModel_findDepth2_2 D I γ el P409956 F409957 q409958 q409959 F409957 (0 : Int32) 23 F530360 := kt2_530365 23 F530360 (fun R c1 c2 => c1 F530360 g530359 p530375 bg530359 hT530361 hs530362 x530363 x530364 fq530392 r530399)
        refine G_aload_n 2 dr_cX17_findDepth_23 rfl ?_
        refine G_iconst (-1) dr_cX17_findDepth_24 (by decide +kernel) ?_
        refine Gw_callS (As := [.ref q409959, .int (-1)]) (gV_ok D I) (ct_12748_SpillForgeModel_reached l hl0 D I γ el P409956 F530360 q409959 (-1) hT530361 htq409959 (by omega)) dr_cX17_findDepth_25 ⟨wr_11_41, wr_1_14, wr_11_43, by decide, rfl, (Nat.le_of_ble_eq_true rfl), (Nat.le_of_ble_eq_true rfl)⟩ wr_11_42 (show 0 + 0 ≤ 0 by first | omega | decide) (show 0 + 0 ≤ 0 by first | omega | decide) (Nat.le_of_ble_eq_true rfl) (fun r530404 w530405 dc530401 ds530402 hp530403 => ?_) (fun _ _ _ _ _ z => z.elim)
        obtain ⟨ol530406, rfl, rfl, hdc, hds, ht530407⟩ := hp530403
        change G _ _ _ _ _ _ _ (.long ol530406 :: _) _ _ _
        refine G_widen (cs' := 0) (sl' := 0) (by omega) (by omega) ?_
        refine G_lstore_n (L' := [(2, .long ol530406), (0, .ref q409958), (1, .ref q409959)]) dr_cX17_findDepth_28 (Nat.le_of_ble_eq_true rfl) rfl ?_
        refine G_iconst 0 dr_cX17_findDepth_29 (by decide +kernel) ?_
        refine G_istore (L' := [(4, .int 0), (2, .long ol530406), (0, .ref q409958), (1, .ref q409959)]) dr_cX17_findDepth_30 (Nat.le_of_ble_eq_true rfl) rfl ?_
        have hlp32_533236 : ∀ (n32_533236 : Nat) (F533232 : Nat → va_E) (g533231 : Int32), gB g533231 0 1000000 → RS D I P409956 F533232 γ el → rStr γ [] F409957 F533232 → (F533232 q409958 = F409957 q409958) → (F533232 (γ 9 3) = F409957 (γ 9 3)) → (∀ (k : Nat) (e1 : Nat → va_E), tl_RModel_findDepth2_32 D I γ el P409956 F409957 q409958 q409959 ol530406 F533232 g533231 k e1 → tl_RModel_findDepth2_32 D I γ el P409956 F409957 q409958 q409959 ol530406 F530360 (0 : Int32) k e1) → ((1000001 : Int) - g533231.toInt).toNat < n32_533236 → G (gV D I) l (gRm 5 112 0 0) (gMA (gV D I) (pt_409961_SpillForgeModel_findDepth D I γ el P409956 F409957 q409958 q409959) gNA 0 0) ky_409961_SpillForgeModel_findDepth 32 [(4, .int g533231), (2, .long ol530406), (0, .ref q409958), (1, .ref q409959)] [] (va_pl P409956 F533232) 0 0 := by
          intro n32_533236
          induction n32_533236 with
          | zero => intro F533232 g533231 bg533231 hT533233 hs533234 x533235 x533236 kt32_533237 hm32_533236; exact absurd hm32_533236 (Nat.not_lt_zero _)
          | succ n32_533236 ih32_533236 =>
            intro F533232 g533231 bg533231 hT533233 hs533234 x533235 x533236 kt32_533237 hm32_533236
            have hs533238 : rStr γ [] F530360 F533232 := fun b h0 hb hw => (hs533234 b h0 hb hw).trans (hs530362 b h0 hb hw).symm
            have he533239 : F533232 q409959 = .inr (18, [.ref q530372, .ref q530373, .int p530374, .int p530375]) := (hs533238 q409959 (rT0 htq409959 (by decide)) (rT1 htq409959 (by decide)) (rT2 htq409959 (by decide))).trans he530371
            have hs533240 : rStr γ [] F409957 F533232 := rStr_tr hs530362 hs533238
            have he533241 : F533232 q409958 = .inr (22, [.ref (γ 9 0), .ref (γ 9 1), .ref (γ 9 2), .ref (γ 9 3), .ref (γ 9 4), .ref (γ 9 5), .ref (γ 9 6), .ref (γ 9 7), .ref (γ 9 8), .int p409966, .int p409967, .int p409968, .int p409969, .int p409970, .int p409971, .ref (γ 9 15), .ref (γ 9 16), .ref (γ 9 17), .ref (γ 9 18), .ref (γ 9 19), .ref (γ 9 20), .ref (γ 9 21), .ref (γ 9 22), .int p409972, .int p409973, .int p409974, .int p409975, .int p409976, .ref q409964, .ref (γ 9 29), .int p409977, .ref (γ 9 31), .int p409978, .int p409979, .int p409980, .ref q409965]) := x533235.trans he409963
            have hm533242 : q409958 ∈ P409956 := RS_m hT533233 htq409958 (by decide)
            refine G_iload 0 dr_cX17_findDepth_32 rfl ?_
            refine G_aload_n 3 dr_cX17_findDepth_34 rfl ?_
            have fq533243 : fI (F533232 q409959) 3 = p530375 := by rw [he533239]; rfl
            refine Gw_callV (As := []) (gV_ok D I) (cp_12780_Code_size l hl0 D I P409956 F533232 q409959 q530372 q530373 p530374 p530375 hm530370 he533239) dr_cX17_findDepth_35 ⟨wr_10_160, wr_1_15, wr_9_131, by decide, rfl, (Nat.le_of_ble_eq_true rfl), (Nat.le_of_ble_eq_true rfl)⟩ wr_9_129 wr_9_130 hm530370 he533239 rfl (show 0 + 0 ≤ 0 by first | omega | decide) (show 0 + 0 ≤ 0 by first | omega | decide) (Nat.le_of_ble_eq_true rfl) (fun r533247 w533248 dc533244 ds533245 hp533246 => ?_) (fun _ _ _ _ _ z => z.elim)
            obtain ⟨rfl, rfl, hdc, hds⟩ := hp533246
            change G _ _ _ _ _ _ _ (.int p530375 :: _) _ _ _
            refine G_widen (cs' := 0) (sl' := 0) (by omega) (by omega) ?_
            refine G_icmp_ge 339 dr_cX17_findDepth_38 (by decide +kernel) (fun hc533249 => ?_) (fun hc533249 => ?_)
            · have r533250 : p530375.toInt ≤ g533231.toInt := gC_le hc533249
              have hx533251 : tl_RModel_findDepth2_32 D I γ el P409956 F409957 q409958 q409959 ol530406 F530360 (0 : Int32) 339 F533232 := kt32_533237 339 F533232 (fun R c1 c2 c3 c4 => c1 F533232 g533231 p530375 bg533231 hT533233 hs533234 x533235 x533236 fq533243 r533250)
              refine G_iconst 0 dr_cX17_findDepth_339 (by decide +kernel) ?_
              refine G_istore (L' := [(4, .int 0), (2, .long ol530406), (0, .ref q409958), (1, .ref q409959)]) dr_cX17_findDepth_340 (Nat.le_of_ble_eq_true rfl) rfl ?_
              have hlp342_533291 : ∀ (n342_533291 : Nat) (F533287 : Nat → va_E) (g533286 : Int32), gB g533286 0 1000000 → RS D I P409956 F533287 γ el → rStr γ [] F409957 F533287 → (F533287 q409958 = F409957 q409958) → (F533287 (γ 9 3) = F409957 (γ 9 3)) → (∀ (k : Nat) (e1 : Nat → va_E), tl_RModel_findDepth2_342 D I γ el P409956 F409957 q409958 q409959 F533287 g533286 k e1 → tl_RModel_findDepth2_342 D I γ el P409956 F409957 q409958 q409959 F533232 (0 : Int32) k e1) → ((1000001 : Int) - g533286.toInt).toNat < n342_533291 → G (gV D I) l (gRm 5 112 0 0) (gMA (gV D I) (pt_409961_SpillForgeModel_findDepth D I γ el P409956 F409957 q409958 q409959) gNA 0 0) ky_409961_SpillForgeModel_findDepth 342 [(4, .int g533286), (2, .long ol530406), (0, .ref q409958), (1, .ref q409959)] [] (va_pl P409956 F533287) 0 0 := by
                intro n342_533291
                induction n342_533291 with
                | zero => intro F533287 g533286 bg533286 hT533288 hs533289 x533290 x533291 kt342_533292 hm342_533291; exact absurd hm342_533291 (Nat.not_lt_zero _)
                | succ n342_533291 ih342_533291 =>
                  intro F533287 g533286 bg533286 hT533288 hs533289 x533290 x533291 kt342_533292 hm342_533291
                  have hs533293 : rStr γ [] F533232 F533287 := fun b h0 hb hw => (hs533289 b h0 hb hw).trans (hs533234 b h0 hb hw).symm
                  have he533294 : F533287 q409959 = .inr (18, [.ref q530372, .ref q530373, .int p530374, .int p530375]) := (hs533293 q409959 (rT0 htq409959 (by decide)) (rT1 htq409959 (by decide)) (rT2 htq409959 (by decide))).trans he533239
                  have hs533295 : rStr γ [] F409957 F533287 := rStr_tr hs533234 hs533293
                  have he533296 : F533287 q409958 = .inr (22, [.ref (γ 9 0), .ref (γ 9 1), .ref (γ 9 2), .ref (γ 9 3), .ref (γ 9 4), .ref (γ 9 5), .ref (γ 9 6), .ref (γ 9 7), .ref (γ 9 8), .int p409966, .int p409967, .int p409968, .int p409969, .int p409970, .int p409971, .ref (γ 9 15), .ref (γ 9 16), .ref (γ 9 17), .ref (γ 9 18), .ref (γ 9 19), .ref (γ 9 20), .ref (γ 9 21), .ref (γ 9 22), .int p409972, .int p409973, .int p409974, .int p409975, .int p409976, .ref q409964, .ref (γ 9 29), .int p409977, .ref (γ 9 31), .int p409978, .int p409979, .int p409980, .ref q409965]) := x533290.trans he409963
                  have hm533297 : q409958 ∈ P409956 := RS_m hT533288 htq409958 (by decide)
                  refine G_iload 0 dr_cX17_findDepth_342 rfl ?_
                  refine G_aload_n 3 dr_cX17_findDepth_344 rfl ?_
                  have fq533298 : fI (F533287 q409959) 3 = p530375 := by rw [he533294]; rfl
                  refine Gw_callV (As := []) (gV_ok D I) (cp_12780_Code_size l hl0 D I P409956 F533287 q409959 q530372 q530373 p530374 p530375 hm530370 he533294) dr_cX17_findDepth_345 ⟨wr_10_160, wr_1_15, wr_9_131, by decide, rfl, (Nat.le_of_ble_eq_true rfl), (Nat.le_of_ble_eq_true rfl)⟩ wr_9_129 wr_9_130 hm530370 he533294 rfl (show 0 + 0 ≤ 0 by first | omega | decide) (show 0 + 0 ≤ 0 by first | omega | decide) (Nat.le_of_ble_eq_true rfl) (fun r533302 w533303 dc533299 ds533300 hp533301 => ?_) (fun _ _ _ _ _ z => z.elim)
                  obtain ⟨rfl, rfl, hdc, hds⟩ := hp533301
                  change G _ _ _ _ _ _ _ (.int p530375 :: _) _ _ _
                  refine G_widen (cs' := 0) (sl' := 0) (by omega) (by omega) ?_
                  refine G_icmp_ge 375 dr_cX17_findDepth_348 (by decide +kernel) (fun hc533304 => ?_) (fun hc533304 => ?_)
                  · have r533305 : p530375.toInt ≤ g533286.toInt := gC_le hc533304
                    have hx533306 : tl_RModel_findDepth2_342 D I γ el P409956 F409957 q409958 q409959 F533232 (0 : Int32) 375 F533287 := kt342_533292 375 F533287 (fun R c1 c2 => c1 F533287 g533286 p530375 bg533286 hT533288 hs533289 x533290 x533291 fq533298 r533305)
                    exact G_vretA dr_cX17_findDepth_375 rfl (Nat.le_of_ble_eq_true rfl) (Nat.le_of_ble_eq_true rfl) ⟨F533287, rfl, rfl, hT533288, hs533289, (Nat.le_of_ble_eq_true rfl), (Nat.le_of_ble_eq_true rfl), x533290, x533291, (fun R c1 => c1 F530360 ol530406 F533232 F533287 hx530400 ht530407 hx533251 hx533306)⟩
                  · have r533307 : g533286.toInt < p530375.toInt := gC_nle hc533304
                    have bg533286' : gB g533286 0 999999 := ⟨by omega, by omega⟩
                    have bp530375' : gB p530375 1 1000000 := ⟨by omega, by omega⟩
                    refine G_aload_n 2 dr_cX17_findDepth_351 rfl ?_
                    have fq533308 : fR (F533287 q409958) 4 = (γ 9 4) := by rw [he533296]; rfl
                    refine Gp_get 4 hm533297 he533296 dr_cX17_findDepth_352 (gk_X17 D I) (Nat.le_of_ble_eq_true rfl) wr_7_78 rfl ?_
                    refine G_iload 0 dr_cX17_findDepth_355 rfl ?_
                    refine G_aload_n 2 dr_cX17_findDepth_357 rfl ?_
                    refine Gp_get 4 hm533297 he533296 dr_cX17_findDepth_358 (gk_X17 D I) (Nat.le_of_ble_eq_true rfl) wr_7_78 rfl ?_
                    refine G_iload 0 dr_cX17_findDepth_361 rfl ?_
                    have hm533309 : (γ 9 4) ∈ P409956 := RS_m hT533288 ht409987 (by decide)
                    obtain ⟨f533311, he533310⟩ := show rk_16 I (F533287 (γ 9 4)) from RS_o hT533288 ht409987
                    refine Gp_iald 0 hm533309 he533310 dr_cX17_findDepth_363 rfl (gB_inr (by omega) (by omega)) (G_nam fun z533312 hz533312 => ?_)
                    have bz533312 : gB z533312 (-2147483648) 2147483647 := gB_any z533312
                    refine G_iconst 4 dr_cX17_findDepth_364 (by decide +kernel) ?_
                    refine G_mmin dr_cX17_findDepth_365 wr_11_20 wr_3_227 wr_1_6 wr_3_228 (Nat.le_of_ble_eq_true rfl) (Nat.le_of_ble_eq_true rfl) (show 0 ≤ 0 by first | omega | decide) (show 0 ≤ 0 by first | omega | decide) (G_nam fun z533313 hz533313 => ?_)
                    have ez533313 : z533312.toInt ≥ z533313.toInt ∧ 4 ≥ z533313.toInt ∧ (z533313.toInt = z533312.toInt ∨ z533313.toInt = 4) := by have := gI_min hz533313; rw [show Int32.toInt 4 = 4 from by decide] at this; omega
                    have bz533313 : gB z533313 (-2147483648) 4 := ⟨by omega, by omega⟩
                    refine Gp_iast 0 hm533309 he533310 dr_cX17_findDepth_368 rfl (gB_inr (by omega) (by omega)) (fun F533314 e533315 n533316 => ?_)
                    obtain ⟨f533317, hf533317⟩ : ∃ z, z = upd f533311 g533286.toNatClampNeg z533313 := ⟨_, rfl⟩
                    rw [← hf533317] at e533315
                    have he533318 : F533314 q409959 = .inr (18, [.ref q530372, .ref q530373, .int p530374, .int p530375]) := (n533316 q409959 (rn_oa he533294 he533310)).trans he533294
                    have he533319 : F533314 q409958 = .inr (22, [.ref (γ 9 0), .ref (γ 9 1), .ref (γ 9 2), .ref (γ 9 3), .ref (γ 9 4), .ref (γ 9 5), .ref (γ 9 6), .ref (γ 9 7), .ref (γ 9 8), .int p409966, .int p409967, .int p409968, .int p409969, .int p409970, .int p409971, .ref (γ 9 15), .ref (γ 9 16), .ref (γ 9 17), .ref (γ 9 18), .ref (γ 9 19), .ref (γ 9 20), .ref (γ 9 21), .ref (γ 9 22), .int p409972, .int p409973, .int p409974, .int p409975, .int p409976, .ref q409964, .ref (γ 9 29), .int p409977, .ref (γ 9 31), .int p409978, .int p409979, .int p409980, .ref q409965]) := (n533316 q409958 (rn_oa he533296 he533310)).trans he533296
                    have he533320 : F533314 (γ 9 4) = .inl (I .int, 40, .inl f533317) := e533315
                    have hs533321 : rStr γ [] F409957 F533314 := rStr_put hs533289 n533316 ht409987 (by decide)
                    have kp533322 : F533314 q409958 = F409957 q409958 := (n533316 q409958 (rn_ty htq409958 ht409987 (by decide))).trans x533290
                    have kp533323 : F533314 (γ 9 3) = F409957 (γ 9 3) := (n533316 (γ 9 3) (rn_ty ht409986 ht409987 (by decide))).trans x533291
                    obtain ⟨z533324, hz533324⟩ : ∃ z : Int32, z = g533286 + Int32.ofInt 1 := ⟨_, rfl⟩
                    have ez533324 : z533324.toInt = g533286.toInt + 1 := gI_inc hz533324 (by decide) bg533286' (by decide) (by decide)
                    have bz533324 : gB z533324 1 1000000 := ⟨by omega, by omega⟩
                    refine G_iinc (L' := [(4, .int z533324), (2, .long ol530406), (0, .ref q409958), (1, .ref q409959)]) z533324 0 dr_cX17_findDepth_369 rfl hz533324.symm (Nat.le_of_ble_eq_true rfl) rfl ?_
                    refine G_goto 342 dr_cX17_findDepth_372 (by decide +kernel) ?_
                    have hT533325 : RS D I P409956 F533314 γ el := RS_set hT533288 n533316 ht409987 (by decide) ⟨f533317, he533320⟩
                    exact ih342_533291 F533314 z533324 (gB_w bz533324 (by decide) (by decide)) hT533325 hs533321 kp533322 kp533323 (fun k e1 ht => kt342_533292 k e1 (fun R c1 c2 => c2 F533287 g533286 p530375 f533311 z533312 z533313 f533317 F533314 z533324 k e1 bg533286 hT533288 hs533289 x533290 x533291 fq533298 r533307 fq533308 he533310 hz533312 ez533313 hf533317 n533316 he533320 ez533324 (ht R c1 c2))) (mz_up ez533324 (Int.le_trans bg533286'.2 (by decide)) hm342_533291)
              exact hlp342_533291 (((1000001 : Int) - 0).toNat + 1) F533232 0 (gB_w (gBl (show Int32.toInt 0 = 0 by decide)) (by decide) (by decide)) hT533233 hs533234 x533235 x533236 (fun k e1 ht => ht) (Nat.lt_succ_self _)
            · have r533326 : g533231.toInt < p530375.toInt := gC_nle hc533249
              have bg533231' : gB g533231 0 999999 := ⟨by omega, by omega⟩
              have bp530375' : gB p530375 1 1000000 := ⟨by omega, by omega⟩
              refine G_lload_n 1 dr_cX17_findDepth_41 rfl ?_
              refine G_iload 0 dr_cX17_findDepth_42 rfl ?_
              refine G_lushr dr_cX17_findDepth_44 (G_namL fun u533327 hu533327 => ?_)
              refine G_lconst 1 dr_cX17_findDepth_45 rfl ?_
              refine G_land dr_cX17_findDepth_46 (G_namL fun u533328 hu533328 => ?_)
              refine G_lconst 0 dr_cX17_findDepth_47 rfl ?_
              refine G_lcmp dr_cX17_findDepth_48 (G_nam fun z533329 hz533329 => ?_)
              have bz533329 : gB z533329 (-1) 1 := gB_cmp hz533329
              refine G_if_ne 55 dr_cX17_findDepth_49 (by decide +kernel) (fun hc533330 => ?_) (fun hc533330 => ?_)
              · have r533331 : z533329.toInt ≠ 0 := gj_neq hc533330 (show Int32.toInt 0 = 0 by decide)
                have lhc533330 := gC_cmpN hz533329 hc533330
                refine G_lload_n 1 dr_cX17_findDepth_55 rfl ?_
                refine G_aload_n 3 dr_cX17_findDepth_56 rfl ?_
                refine G_iload 0 dr_cX17_findDepth_57 rfl ?_
                refine Gw_callS (As := [.ref q409959, .int g533231]) (gV_ok D I) (ct_12748_SpillForgeModel_reached l hl0 D I γ el P409956 F533232 q409959 g533231 hT533233 htq409959 (by omega)) dr_cX17_findDepth_59 ⟨wr_11_41, wr_1_14, wr_11_43, by decide, rfl, (Nat.le_of_ble_eq_true rfl), (Nat.le_of_ble_eq_true rfl)⟩ wr_11_42 (show 0 + 0 ≤ 0 by first | omega | decide) (show 0 + 0 ≤ 0 by first | omega | decide) (Nat.le_of_ble_eq_true rfl) (fun r533335 w533336 dc533332 ds533333 hp533334 => ?_) (fun _ _ _ _ _ z => z.elim)
                obtain ⟨ol533337, rfl, rfl, hdc, hds, ht533338⟩ := hp533334
                change G _ _ _ _ _ _ _ (.long ol533337 :: _) _ _ _
                refine G_widen (cs' := 0) (sl' := 0) (by omega) (by omega) ?_
                refine G_ldc2 (-1) dr_cX17_findDepth_62 wr_10_188 ?_
                refine G_lxor dr_cX17_findDepth_65 (G_namL fun u533339 hu533339 => ?_)
                refine G_land dr_cX17_findDepth_66 (G_namL fun u533340 hu533340 => ?_)
                refine G_lstore (L' := [(5, .long u533340), (4, .int g533231), (2, .long ol530406), (0, .ref q409958), (1, .ref q409959)]) dr_cX17_findDepth_67 (Nat.le_of_ble_eq_true rfl) rfl ?_
                refine G_lconst 0 dr_cX17_findDepth_69 rfl ?_
                refine G_lstore (L' := [(7, .long 0), (5, .long u533340), (4, .int g533231), (2, .long ol530406), (0, .ref q409958), (1, .ref q409959)]) dr_cX17_findDepth_70 (Nat.le_of_ble_eq_true rfl) rfl ?_
                refine G_iconst 0 dr_cX17_findDepth_72 (by decide +kernel) ?_
                refine G_istore (L' := [(9, .int 0), (7, .long 0), (5, .long u533340), (4, .int g533231), (2, .long ol530406), (0, .ref q409958), (1, .ref q409959)]) dr_cX17_findDepth_73 (Nat.le_of_ble_eq_true rfl) rfl ?_
                have hlp75_534701 : ∀ (n75_534701 : Nat) (g534700 : Int32) (gl534701 : Int64), gB g534700 0 1000000 → (∀ (k : Nat) (e1 : Int64), tl_RModel_findDepth2_75 D I γ el F533232 q409959 u533340 g533231 g534700 gl534701 k e1 → tl_RModel_findDepth2_75 D I γ el F533232 q409959 u533340 g533231 (0 : Int32) (0 : Int64) k e1) → ((1000001 : Int) - g534700.toInt).toNat < n75_534701 → G (gV D I) l (gRm 5 112 0 0) (gMA (gV D I) (pt_409961_SpillForgeModel_findDepth D I γ el P409956 F409957 q409958 q409959) gNA 0 0) ky_409961_SpillForgeModel_findDepth 75 [(9, .int g534700), (7, .long gl534701), (5, .long u533340), (4, .int g533231), (2, .long ol530406), (0, .ref q409958), (1, .ref q409959)] [] (va_pl P409956 F533232) 0 0 := by
                  intro n75_534701
                  induction n75_534701 with
                  | zero => intro g534700 gl534701 bg534700 kt75_534702 hm75_534701; exact absurd hm75_534701 (Nat.not_lt_zero _)
                  | succ n75_534701 ih75_534701 =>
                    intro g534700 gl534701 bg534700 kt75_534702 hm75_534701
                    refine G_iload 0 dr_cX17_findDepth_75 rfl ?_
                    refine G_aload_n 6 dr_cX17_findDepth_77 rfl ?_
                    have fq534703 : fI (F533232 q409959) 3 = p530375 := by rw [he533239]; rfl
                    refine Gw_callV (As := []) (gV_ok D I) (cp_12780_Code_size l hl0 D I P409956 F533232 q409959 q530372 q530373 p530374 p530375 hm530370 he533239) dr_cX17_findDepth_78 ⟨wr_10_160, wr_1_15, wr_9_131, by decide, rfl, (Nat.le_of_ble_eq_true rfl), (Nat.le_of_ble_eq_true rfl)⟩ wr_9_129 wr_9_130 hm530370 he533239 rfl (show 0 + 0 ≤ 0 by first | omega | decide) (show 0 + 0 ≤ 0 by first | omega | decide) (Nat.le_of_ble_eq_true rfl) (fun r534707 w534708 dc534704 ds534705 hp534706 => ?_) (fun _ _ _ _ _ z => z.elim)
                    obtain ⟨rfl, rfl, hdc, hds⟩ := hp534706
                    change G _ _ _ _ _ _ _ (.int p530375 :: _) _ _ _
                    refine G_widen (cs' := 0) (sl' := 0) (by omega) (by omega) ?_
                    refine G_icmp_ge 125 dr_cX17_findDepth_81 (by decide +kernel) (fun hc534709 => ?_) (fun hc534709 => ?_)
                    · have r534710 : p530375.toInt ≤ g534700.toInt := gC_le hc534709
                      have bg534700' : gB g534700 1 1000000 := ⟨by omega, by omega⟩
                      have hx534711 : tl_RModel_findDepth2_75 D I γ el F533232 q409959 u533340 g533231 (0 : Int32) (0 : Int64) 125 gl534701 := kt75_534702 125 gl534701 (fun R c1 c2 c3 c4 => c1 g534700 gl534701 p530375 bg534700 fq534703 r534710)
                      refine G_lload 1 dr_cX17_findDepth_125 rfl ?_
                      refine G_lconst 0 dr_cX17_findDepth_127 rfl ?_
                      refine G_lcmp dr_cX17_findDepth_128 (G_nam fun z534712 hz534712 => ?_)
                      have bz534712 : gB z534712 (-1) 1 := gB_cmp hz534712
                      refine G_if_ne 135 dr_cX17_findDepth_129 (by decide +kernel) (fun hc534713 => ?_) (fun hc534713 => ?_)
                      · have r534714 : z534712.toInt ≠ 0 := gj_neq hc534713 (show Int32.toInt 0 = 0 by decide)
                        have lhc534713 := gC_cmpN hz534712 hc534713
                        refine G_lload 1 dr_cX17_findDepth_135 rfl ?_
                        refine G_lconst 1 dr_cX17_findDepth_137 rfl ?_
                        refine G_iload 3 dr_cX17_findDepth_138 rfl ?_
                        refine G_lshl dr_cX17_findDepth_140 (G_namL fun u534715 hu534715 => ?_)
                        have qu534715 : lb_Q u534715 (g533231.toInt % 64 + 1) := lb_Qshl hu534715 (by omega)
                        refine G_lor dr_cX17_findDepth_141 (G_namL fun u534716 hu534716 => ?_)
                        have pmu534716 : rpop gl534701 ≤ rpop u534716 := rpop_or hu534716
                        refine G_lstore (L' := [(7, .long u534716), (9, .int g534700), (5, .long u533340), (4, .int g533231), (2, .long ol530406), (0, .ref q409958), (1, .ref q409959)]) dr_cX17_findDepth_142 (Nat.le_of_ble_eq_true rfl) rfl ?_
                        refine G_iconst 1 dr_cX17_findDepth_144 (by decide +kernel) ?_
                        refine G_istore (L' := [(9, .int 1), (7, .long u534716), (5, .long u533340), (4, .int g533231), (2, .long ol530406), (0, .ref q409958), (1, .ref q409959)]) dr_cX17_findDepth_145 (Nat.le_of_ble_eq_true rfl) rfl ?_
                        have hlp147_535354 : ∀ (n147_535354 : Nat) (g535352 : Int32) (gl535353 : Int64), gB g535352 0 1 → rpop gl535353 ≤ 64 → (∀ (k : Nat) (e1 : Int64), tl_RModel_findDepth2_147 D I γ el F533232 q409959 ol530406 g533231 g535352 gl535353 k e1 → tl_RModel_findDepth2_147 D I γ el F533232 q409959 ol530406 g533231 (1 : Int32) u534716 k e1) → (64 - rpop gl535353) + ((g535352.toInt : Int)).toNat < n147_535354 → G (gV D I) l (gRm 5 112 0 0) (gMA (gV D I) (pt_409961_SpillForgeModel_findDepth D I γ el P409956 F409957 q409958 q409959) gNA 0 0) ky_409961_SpillForgeModel_findDepth 147 [(9, .int g535352), (7, .long gl535353), (5, .long u533340), (4, .int g533231), (2, .long ol530406), (0, .ref q409958), (1, .ref q409959)] [] (va_pl P409956 F533232) 0 0 := by
                          intro n147_535354
                          induction n147_535354 with
                          | zero => intro g535352 gl535353 bg535352 x535354 kt147_535355 hm147_535354; exact absurd hm147_535354 (Nat.not_lt_zero _)
                          | succ n147_535354 ih147_535354 =>
                            intro g535352 gl535353 bg535352 x535354 kt147_535355 hm147_535354
                            refine G_iload 0 dr_cX17_findDepth_147 rfl ?_
                            refine G_if_eq 297 dr_cX17_findDepth_149 (by decide +kernel) (fun hc535356 => ?_) (fun hc535356 => ?_)
                            · have r535357 : g535352.toInt = 0 := gj_eq hc535356 (show Int32.toInt 0 = 0 by decide)
                              have bg535352' : gB g535352 0 0 := gB_t0 r535357
                              have hx535358 : tl_RModel_findDepth2_147 D I γ el F533232 q409959 ol530406 g533231 (1 : Int32) u534716 297 gl535353 := kt147_535355 297 gl535353 (fun R c1 c2 => c1 g535352 gl535353 bg535352 x535354 r535357)
                              refine G_iconst 0 dr_cX17_findDepth_297 (by decide +kernel) ?_
                              refine G_istore (L' := [(10, .int 0), (9, .int g535352), (7, .long gl535353), (5, .long u533340), (4, .int g533231), (2, .long ol530406), (0, .ref q409958), (1, .ref q409959)]) dr_cX17_findDepth_298 (Nat.le_of_ble_eq_true rfl) rfl ?_
                              have hlp300_535402 : ∀ (n300_535402 : Nat) (F535398 : Nat → va_E) (g535397 : Int32), gB g535397 0 1000000 → RS D I P409956 F535398 γ el → rStr γ [] F409957 F535398 → (F535398 q409958 = F409957 q409958) → (F535398 (γ 9 3) = F409957 (γ 9 3)) → (∀ (k : Nat) (e1 : Nat → va_E), tl_RModel_findDepth2_300 D I γ el P409956 F409957 q409958 q409959 gl535353 F535398 g535397 k e1 → tl_RModel_findDepth2_300 D I γ el P409956 F409957 q409958 q409959 gl535353 F533232 (0 : Int32) k e1) → ((1000001 : Int) - g535397.toInt).toNat < n300_535402 → G (gV D I) l (gRm 5 112 0 0) (gMA (gV D I) (pt_409961_SpillForgeModel_findDepth D I γ el P409956 F409957 q409958 q409959) gNA 0 0) ky_409961_SpillForgeModel_findDepth 300 [(10, .int g535397), (9, .int g535352), (7, .long gl535353), (5, .long u533340), (4, .int g533231), (2, .long ol530406), (0, .ref q409958), (1, .ref q409959)] [] (va_pl P409956 F535398) 0 0 := by
                                intro n300_535402
                                induction n300_535402 with
                                | zero => intro F535398 g535397 bg535397 hT535399 hs535400 x535401 x535402 kt300_535403 hm300_535402; exact absurd hm300_535402 (Nat.not_lt_zero _)
                                | succ n300_535402 ih300_535402 =>
                                  intro F535398 g535397 bg535397 hT535399 hs535400 x535401 x535402 kt300_535403 hm300_535402
                                  have hs535404 : rStr γ [] F533232 F535398 := fun b h0 hb hw => (hs535400 b h0 hb hw).trans (hs533234 b h0 hb hw).symm
                                  have he535405 : F535398 q409959 = .inr (18, [.ref q530372, .ref q530373, .int p530374, .int p530375]) := (hs535404 q409959 (rT0 htq409959 (by decide)) (rT1 htq409959 (by decide)) (rT2 htq409959 (by decide))).trans he533239
                                  have hs535406 : rStr γ [] F409957 F535398 := rStr_tr hs533234 hs535404
                                  have he535407 : F535398 q409958 = .inr (22, [.ref (γ 9 0), .ref (γ 9 1), .ref (γ 9 2), .ref (γ 9 3), .ref (γ 9 4), .ref (γ 9 5), .ref (γ 9 6), .ref (γ 9 7), .ref (γ 9 8), .int p409966, .int p409967, .int p409968, .int p409969, .int p409970, .int p409971, .ref (γ 9 15), .ref (γ 9 16), .ref (γ 9 17), .ref (γ 9 18), .ref (γ 9 19), .ref (γ 9 20), .ref (γ 9 21), .ref (γ 9 22), .int p409972, .int p409973, .int p409974, .int p409975, .int p409976, .ref q409964, .ref (γ 9 29), .int p409977, .ref (γ 9 31), .int p409978, .int p409979, .int p409980, .ref q409965]) := x535401.trans he409963
                                  have hm535408 : q409958 ∈ P409956 := RS_m hT535399 htq409958 (by decide)
                                  refine G_iload 0 dr_cX17_findDepth_300 rfl ?_
                                  refine G_aload_n 7 dr_cX17_findDepth_302 rfl ?_
                                  have fq535409 : fI (F535398 q409959) 3 = p530375 := by rw [he535405]; rfl
                                  refine Gw_callV (As := []) (gV_ok D I) (cp_12780_Code_size l hl0 D I P409956 F535398 q409959 q530372 q530373 p530374 p530375 hm530370 he535405) dr_cX17_findDepth_303 ⟨wr_10_160, wr_1_15, wr_9_131, by decide, rfl, (Nat.le_of_ble_eq_true rfl), (Nat.le_of_ble_eq_true rfl)⟩ wr_9_129 wr_9_130 hm530370 he535405 rfl (show 0 + 0 ≤ 0 by first | omega | decide) (show 0 + 0 ≤ 0 by first | omega | decide) (Nat.le_of_ble_eq_true rfl) (fun r535413 w535414 dc535410 ds535411 hp535412 => ?_) (fun _ _ _ _ _ z => z.elim)
                                  obtain ⟨rfl, rfl, hdc, hds⟩ := hp535412
                                  change G _ _ _ _ _ _ _ (.int p530375 :: _) _ _ _
                                  refine G_widen (cs' := 0) (sl' := 0) (by omega) (by omega) ?_
                                  refine G_icmp_ge 333 dr_cX17_findDepth_306 (by decide +kernel) (fun hc535415 => ?_) (fun hc535415 => ?_)
                                  · have r535416 : p530375.toInt ≤ g535397.toInt := gC_le hc535415
                                    have bg535397' : gB g535397 1 1000000 := ⟨by omega, by omega⟩
                                    have hx535417 : tl_RModel_findDepth2_300 D I γ el P409956 F409957 q409958 q409959 gl535353 F533232 (0 : Int32) 333 F535398 := kt300_535403 333 F535398 (fun R c1 c2 => c1 F535398 g535397 p530375 bg535397 hT535399 hs535400 x535401 x535402 fq535409 r535416)
                                    obtain ⟨z535418, hz535418⟩ : ∃ z : Int32, z = g533231 + Int32.ofInt 1 := ⟨_, rfl⟩
                                    have ez535418 : z535418.toInt = g533231.toInt + 1 := gI_inc hz535418 (by decide) bg533231' (by decide) (by decide)
                                    have bz535418 : gB z535418 1 1000000 := ⟨by omega, by omega⟩
                                    refine G_iinc (L' := [(4, .int z535418), (10, .int g535397), (9, .int g535352), (7, .long gl535353), (5, .long u533340), (2, .long ol530406), (0, .ref q409958), (1, .ref q409959)]) z535418 4 dr_cX17_findDepth_333 rfl hz535418.symm (Nat.le_of_ble_eq_true rfl) rfl ?_
                                    refine G_goto 32 dr_cX17_findDepth_336 (by decide +kernel) ?_
                                    refine G_lv (L' := [(4, .int z535418), (2, .long ol530406), (0, .ref q409958), (1, .ref q409959)]) [0, 5, 6, 7] rfl ?_
                                    exact ih32_533236 F535398 z535418 (gB_w bz535418 (by decide) (by decide)) hT535399 hs535400 x535401 x535402 (fun k e1 ht => kt32_533237 k e1 (fun R c1 c2 c3 c4 => c2 F533232 g533231 p530375 u533327 u533328 ol533337 u533339 u533340 gl534701 u534715 u534716 gl535353 F535398 z535418 k e1 bg533231 hT533233 hs533234 x533235 x533236 fq533243 r533326 hu533327 hu533328 lhc533330 ht533338 hu533339 hu533340 hx534711 lhc534713 hu534715 hu534716 hx535358 hx535417 ez535418 (ht R c1 c2 c3 c4))) (mz_up ez535418 (Int.le_trans bg533231'.2 (by decide)) hm32_533236)
                                  · have r535419 : g535397.toInt < p530375.toInt := gC_nle hc535415
                                    have bg535397' : gB g535397 0 999999 := ⟨by omega, by omega⟩
                                    refine G_aload_n 6 dr_cX17_findDepth_309 rfl ?_
                                    have fq535420 : fR (F535398 q409958) 4 = (γ 9 4) := by rw [he535407]; rfl
                                    refine Gp_get 4 hm535408 he535407 dr_cX17_findDepth_310 (gk_X17 D I) (Nat.le_of_ble_eq_true rfl) wr_7_78 rfl ?_
                                    refine G_iload 0 dr_cX17_findDepth_313 rfl ?_
                                    refine G_dup2_11 dr_cX17_findDepth_315 rfl rfl ?_
                                    have hm535421 : (γ 9 4) ∈ P409956 := RS_m hT535399 ht409987 (by decide)
                                    obtain ⟨f535423, he535422⟩ := show rk_16 I (F535398 (γ 9 4)) from RS_o hT535399 ht409987
                                    refine Gp_iald 0 hm535421 he535422 dr_cX17_findDepth_316 rfl (gB_inr (by omega) (by omega)) (G_nam fun z535424 hz535424 => ?_)
                                    have bz535424 : gB z535424 (-2147483648) 2147483647 := gB_any z535424
                                    refine G_lload 2 dr_cX17_findDepth_317 rfl ?_
                                    refine G_iload 0 dr_cX17_findDepth_319 rfl ?_
                                    refine G_lushr dr_cX17_findDepth_321 (G_namL fun u535425 hu535425 => ?_)
                                    refine G_lconst 1 dr_cX17_findDepth_322 rfl ?_
                                    refine G_land dr_cX17_findDepth_323 (G_namL fun u535426 hu535426 => ?_)
                                    refine G_l2i dr_cX17_findDepth_324 (G_nam fun z535427 hz535427 => ?_)
                                    have bz535427 : gB z535427 (-2147483648) 2147483647 := gB_any z535427
                                    refine G_iadd dr_cX17_findDepth_325 (G_nam fun z535428 hz535428 => ?_)
                                    have bz535428 : gB z535428 (-2147483648) 2147483647 := gB_any z535428
                                    refine Gp_iast 0 hm535421 he535422 dr_cX17_findDepth_326 rfl (gB_inr (by omega) (by omega)) (fun F535429 e535430 n535431 => ?_)
                                    obtain ⟨f535432, hf535432⟩ : ∃ z, z = upd f535423 g535397.toNatClampNeg z535428 := ⟨_, rfl⟩
                                    rw [← hf535432] at e535430
                                    have he535433 : F535429 q409959 = .inr (18, [.ref q530372, .ref q530373, .int p530374, .int p530375]) := (n535431 q409959 (rn_oa he535405 he535422)).trans he535405
                                    have he535434 : F535429 q409958 = .inr (22, [.ref (γ 9 0), .ref (γ 9 1), .ref (γ 9 2), .ref (γ 9 3), .ref (γ 9 4), .ref (γ 9 5), .ref (γ 9 6), .ref (γ 9 7), .ref (γ 9 8), .int p409966, .int p409967, .int p409968, .int p409969, .int p409970, .int p409971, .ref (γ 9 15), .ref (γ 9 16), .ref (γ 9 17), .ref (γ 9 18), .ref (γ 9 19), .ref (γ 9 20), .ref (γ 9 21), .ref (γ 9 22), .int p409972, .int p409973, .int p409974, .int p409975, .int p409976, .ref q409964, .ref (γ 9 29), .int p409977, .ref (γ 9 31), .int p409978, .int p409979, .int p409980, .ref q409965]) := (n535431 q409958 (rn_oa he535407 he535422)).trans he535407
                                    have he535435 : F535429 (γ 9 4) = .inl (I .int, 40, .inl f535432) := e535430
                                    have hs535436 : rStr γ [] F409957 F535429 := rStr_put hs535400 n535431 ht409987 (by decide)
                                    have kp535437 : F535429 q409958 = F409957 q409958 := (n535431 q409958 (rn_ty htq409958 ht409987 (by decide))).trans x535401
                                    have kp535438 : F535429 (γ 9 3) = F409957 (γ 9 3) := (n535431 (γ 9 3) (rn_ty ht409986 ht409987 (by decide))).trans x535402
                                    obtain ⟨z535439, hz535439⟩ : ∃ z : Int32, z = g535397 + Int32.ofInt 1 := ⟨_, rfl⟩
                                    have ez535439 : z535439.toInt = g535397.toInt + 1 := gI_inc hz535439 (by decide) bg535397' (by decide) (by decide)
                                    have bz535439 : gB z535439 1 1000000 := ⟨by omega, by omega⟩
                                    refine G_iinc (L' := [(10, .int z535439), (9, .int g535352), (7, .long gl535353), (5, .long u533340), (4, .int g533231), (2, .long ol530406), (0, .ref q409958), (1, .ref q409959)]) z535439 0 dr_cX17_findDepth_327 rfl hz535439.symm (Nat.le_of_ble_eq_true rfl) rfl ?_
                                    refine G_goto 300 dr_cX17_findDepth_330 (by decide +kernel) ?_
                                    have hT535440 : RS D I P409956 F535429 γ el := RS_set hT535399 n535431 ht409987 (by decide) ⟨f535432, he535435⟩
                                    exact ih300_535402 F535429 z535439 (gB_w bz535439 (by decide) (by decide)) hT535440 hs535436 kp535437 kp535438 (fun k e1 ht => kt300_535403 k e1 (fun R c1 c2 => c2 F535398 g535397 p530375 f535423 z535424 u535425 u535426 z535427 z535428 f535432 F535429 z535439 k e1 bg535397 hT535399 hs535400 x535401 x535402 fq535409 r535419 fq535420 he535422 hz535424 hu535425 hu535426 hz535427 hz535428 hf535432 n535431 he535435 ez535439 (ht R c1 c2))) (mz_up ez535439 (Int.le_trans bg535397'.2 (by decide)) hm300_535402)
                              exact hlp300_535402 (((1000001 : Int) - 0).toNat + 1) F533232 0 (gB_w (gBl (show Int32.toInt 0 = 0 by decide)) (by decide) (by decide)) hT533233 hs533234 x533235 x533236 (fun k e1 ht => ht) (Nat.lt_succ_self _)
                            · have r535441 : g535352.toInt ≠ 0 := gj_neq hc535356 (show Int32.toInt 0 = 0 by decide)
                              have bg535352' : gB g535352 1 1 := gB_t1 bg535352 r535441
                              refine G_iconst 0 dr_cX17_findDepth_152 (by decide +kernel) ?_
                              refine G_istore (L' := [(9, .int 0), (7, .long gl535353), (5, .long u533340), (4, .int g533231), (2, .long ol530406), (0, .ref q409958), (1, .ref q409959)]) dr_cX17_findDepth_153 (Nat.le_of_ble_eq_true rfl) rfl ?_
                              refine G_iconst 0 dr_cX17_findDepth_155 (by decide +kernel) ?_
                              refine G_istore (L' := [(10, .int 0), (9, .int 0), (7, .long gl535353), (5, .long u533340), (4, .int g533231), (2, .long ol530406), (0, .ref q409958), (1, .ref q409959)]) dr_cX17_findDepth_156 (Nat.le_of_ble_eq_true rfl) rfl ?_
                              have hlp158_535720 : ∀ (n158_535720 : Nat) (g535716 : Int32) (g535717 : Int32) (gl535718 : Int64), gB g535716 0 1000000 → gB g535717 0 1 → rpop gl535718 ≤ 64 → rpop gl535353 + ((g535717.toInt : Int)).toNat ≤ rpop gl535718 → (∀ (k : Nat) (e1 : Int32) (e2 : Int64), tl_RModel_findDepth2_158 D I γ el gl535353 F533232 q409959 ol530406 g533231 g535716 g535717 gl535718 k e1 e2 → tl_RModel_findDepth2_158 D I γ el gl535353 F533232 q409959 ol530406 g533231 (0 : Int32) (0 : Int32) gl535353 k e1 e2) → ((1000001 : Int) - g535716.toInt).toNat < n158_535720 → G (gV D I) l (gRm 5 112 0 0) (gMA (gV D I) (pt_409961_SpillForgeModel_findDepth D I γ el P409956 F409957 q409958 q409959) gNA 0 0) ky_409961_SpillForgeModel_findDepth 158 [(10, .int g535716), (9, .int g535717), (7, .long gl535718), (5, .long u533340), (4, .int g533231), (2, .long ol530406), (0, .ref q409958), (1, .ref q409959)] [] (va_pl P409956 F533232) 0 0 := by
                                intro n158_535720
                                induction n158_535720 with
                                | zero => intro g535716 g535717 gl535718 bg535716 bg535717 x535719 x535720 kt158_535721 hm158_535720; exact absurd hm158_535720 (Nat.not_lt_zero _)
                                | succ n158_535720 ih158_535720 =>
                                  intro g535716 g535717 gl535718 bg535716 bg535717 x535719 x535720 kt158_535721 hm158_535720
                                  refine G_iload 0 dr_cX17_findDepth_158 rfl ?_
                                  refine G_aload_n 7 dr_cX17_findDepth_160 rfl ?_
                                  have fq535722 : fI (F533232 q409959) 3 = p530375 := by rw [he533239]; rfl
                                  refine Gw_callV (As := []) (gV_ok D I) (cp_12780_Code_size l hl0 D I P409956 F533232 q409959 q530372 q530373 p530374 p530375 hm530370 he533239) dr_cX17_findDepth_161 ⟨wr_10_160, wr_1_15, wr_9_131, by decide, rfl, (Nat.le_of_ble_eq_true rfl), (Nat.le_of_ble_eq_true rfl)⟩ wr_9_129 wr_9_130 hm530370 he533239 rfl (show 0 + 0 ≤ 0 by first | omega | decide) (show 0 + 0 ≤ 0 by first | omega | decide) (Nat.le_of_ble_eq_true rfl) (fun r535726 w535727 dc535723 ds535724 hp535725 => ?_) (fun _ _ _ _ _ z => z.elim)
                                  obtain ⟨rfl, rfl, hdc, hds⟩ := hp535725
                                  change G _ _ _ _ _ _ _ (.int p530375 :: _) _ _ _
                                  refine G_widen (cs' := 0) (sl' := 0) (by omega) (by omega) ?_
                                  refine G_icmp_ge 294 dr_cX17_findDepth_164 (by decide +kernel) (fun hc535728 => ?_) (fun hc535728 => ?_)
                                  · have r535729 : p530375.toInt ≤ g535716.toInt := gC_le hc535728
                                    have bg535716' : gB g535716 1 1000000 := ⟨by omega, by omega⟩
                                    have hx535730 : tl_RModel_findDepth2_158 D I γ el gl535353 F533232 q409959 ol530406 g533231 (0 : Int32) (0 : Int32) gl535353 294 g535717 gl535718 := kt158_535721 294 g535717 gl535718 (fun R c1 c2 c3 c4 c5 => c1 g535716 g535717 gl535718 p530375 bg535716 bg535717 x535719 x535720 fq535722 r535729)
                                    refine G_goto 147 dr_cX17_findDepth_294 (by decide +kernel) ?_
                                    refine G_lv (L' := [(9, .int g535717), (7, .long gl535718), (5, .long u533340), (4, .int g533231), (2, .long ol530406), (0, .ref q409958), (1, .ref q409959)]) [1, 2, 3, 4, 5, 6, 7] rfl ?_
                                    exact ih147_535354 g535717 gl535718 bg535717 (rpop_le gl535718) (fun k e1 ht => kt147_535355 k e1 (fun R c1 c2 => c2 g535352 gl535353 g535717 gl535718 k e1 bg535352 x535354 r535441 hx535730 (ht R c1 c2))) (by omega)
                                  · have r535731 : g535716.toInt < p530375.toInt := gC_nle hc535728
                                    have bg535716' : gB g535716 0 999999 := ⟨by omega, by omega⟩
                                    refine G_lload 2 dr_cX17_findDepth_167 rfl ?_
                                    refine G_iload 0 dr_cX17_findDepth_169 rfl ?_
                                    refine G_lushr dr_cX17_findDepth_171 (G_namL fun u535732 hu535732 => ?_)
                                    refine G_lconst 1 dr_cX17_findDepth_172 rfl ?_
                                    refine G_land dr_cX17_findDepth_173 (G_namL fun u535733 hu535733 => ?_)
                                    refine G_lconst 0 dr_cX17_findDepth_174 rfl ?_
                                    refine G_lcmp dr_cX17_findDepth_175 (G_nam fun z535734 hz535734 => ?_)
                                    have bz535734 : gB z535734 (-1) 1 := gB_cmp hz535734
                                    refine G_if_ne 288 dr_cX17_findDepth_176 (by decide +kernel) (fun hc535735 => ?_) (fun hc535735 => ?_)
                                    · have r535736 : z535734.toInt ≠ 0 := gj_neq hc535735 (show Int32.toInt 0 = 0 by decide)
                                      have lhc535735 := gC_cmpN hz535734 hc535735
                                      obtain ⟨z535737, hz535737⟩ : ∃ z : Int32, z = g535716 + Int32.ofInt 1 := ⟨_, rfl⟩
                                      have ez535737 : z535737.toInt = g535716.toInt + 1 := gI_inc hz535737 (by decide) bg535716' (by decide) (by decide)
                                      have bz535737 : gB z535737 1 1000000 := ⟨by omega, by omega⟩
                                      refine G_iinc (L' := [(10, .int z535737), (9, .int g535717), (7, .long gl535718), (5, .long u533340), (4, .int g533231), (2, .long ol530406), (0, .ref q409958), (1, .ref q409959)]) z535737 0 dr_cX17_findDepth_288 rfl hz535737.symm (Nat.le_of_ble_eq_true rfl) rfl ?_
                                      refine G_goto 158 dr_cX17_findDepth_291 (by decide +kernel) ?_
                                      exact ih158_535720 z535737 g535717 gl535718 (gB_w bz535737 (by decide) (by decide)) bg535717 (rpop_le gl535718) (by omega) (fun k e1 e2 ht => kt158_535721 k e1 e2 (fun R c1 c2 c3 c4 c5 => c2 g535716 g535717 gl535718 p530375 u535732 u535733 z535737 k e1 e2 bg535716 bg535717 x535719 x535720 fq535722 r535731 hu535732 hu535733 lhc535735 ez535737 (ht R c1 c2 c3 c4 c5))) (mz_up ez535737 (Int.le_trans bg535716'.2 (by decide)) hm158_535720)
                                    · have r535738 : z535734.toInt = 0 := gj_eq hc535735 (show Int32.toInt 0 = 0 by decide)
                                      have bz535734' : gB z535734 0 0 := ⟨by omega, by omega⟩
                                      have lhc535735 := gC_cmpE hz535734 hc535735
                                      have zhc535735 := rbit_0 hu535732 hu535733 lhc535735 (by omega) (by omega)
                                      refine G_lload_n 5 dr_cX17_findDepth_179 rfl ?_
                                      refine G_iload 0 dr_cX17_findDepth_180 rfl ?_
                                      refine G_lushr dr_cX17_findDepth_182 (G_namL fun u535739 hu535739 => ?_)
                                      refine G_lconst 1 dr_cX17_findDepth_183 rfl ?_
                                      refine G_land dr_cX17_findDepth_184 (G_namL fun u535740 hu535740 => ?_)
                                      refine G_lconst 0 dr_cX17_findDepth_185 rfl ?_
                                      refine G_lcmp dr_cX17_findDepth_186 (G_nam fun z535741 hz535741 => ?_)
                                      have bz535741 : gB z535741 (-1) 1 := gB_cmp hz535741
                                      refine G_if_ne 193 dr_cX17_findDepth_187 (by decide +kernel) (fun hc535742 => ?_) (fun hc535742 => ?_)
                                      · have r535743 : z535741.toInt ≠ 0 := gj_neq hc535742 (show Int32.toInt 0 = 0 by decide)
                                        have lhc535742 := gC_cmpN hz535741 hc535742
                                        refine G_iconst 0 dr_cX17_findDepth_193 (by decide +kernel) ?_
                                        refine G_istore (L' := [(11, .int 0), (10, .int g535716), (9, .int g535717), (7, .long gl535718), (5, .long u533340), (4, .int g533231), (2, .long ol530406), (0, .ref q409958), (1, .ref q409959)]) dr_cX17_findDepth_194 (Nat.le_of_ble_eq_true rfl) rfl ?_
                                        refine G_iconst 0 dr_cX17_findDepth_196 (by decide +kernel) ?_
                                        refine G_istore (L' := [(12, .int 0), (11, .int 0), (10, .int g535716), (9, .int g535717), (7, .long gl535718), (5, .long u533340), (4, .int g533231), (2, .long ol530406), (0, .ref q409958), (1, .ref q409959)]) dr_cX17_findDepth_197 (Nat.le_of_ble_eq_true rfl) rfl ?_
                                        have hlp199_535869 : ∀ (n199_535869 : Nat) (g535868 : Int32) (g535869 : Int32), gB g535868 0 2 → gB g535869 0 1 → (∀ (k : Nat) (e1 : Int32), tl_RModel_findDepth2_199 D I γ el F533232 q409959 g535716 g533231 gl535718 g535868 g535869 k e1 → tl_RModel_findDepth2_199 D I γ el F533232 q409959 g535716 g533231 gl535718 (0 : Int32) (0 : Int32) k e1) → ((3 : Int) - g535868.toInt).toNat < n199_535869 → G (gV D I) l (gRm 5 112 0 0) (gMA (gV D I) (pt_409961_SpillForgeModel_findDepth D I γ el P409956 F409957 q409958 q409959) gNA 0 0) ky_409961_SpillForgeModel_findDepth 199 [(12, .int g535868), (11, .int g535869), (10, .int g535716), (9, .int g535717), (7, .long gl535718), (5, .long u533340), (4, .int g533231), (2, .long ol530406), (0, .ref q409958), (1, .ref q409959)] [] (va_pl P409956 F533232) 0 0 := by
                                          intro n199_535869
                                          induction n199_535869 with
                                          | zero => intro g535868 g535869 bg535868 bg535869 kt199_535870 hm199_535869; exact absurd hm199_535869 (Nat.not_lt_zero _)
                                          | succ n199_535869 ih199_535869 =>
                                            intro g535868 g535869 bg535868 bg535869 kt199_535870 hm199_535869
                                            refine G_iload 0 dr_cX17_findDepth_199 rfl ?_
                                            refine G_aload_n 9 dr_cX17_findDepth_201 rfl ?_
                                            refine G_iload 2 dr_cX17_findDepth_202 rfl ?_
                                            have hm535871 : q530372 ∈ P409956 := RS_m hT533233 ht530376 (by decide)
                                            obtain ⟨⟨p535873, p535874, q535875, he535872, r535876, r535877, r535878, r535880⟩, r535879⟩ := show rk_4 D I γ el F533232 q530372 from RS_o hT533233 ht530376
                                            have bp535873 := gB_any p535873
                                            have bp535874 : gB p535874 0 1000000 := ⟨by omega, by omega⟩
                                            obtain ⟨r535881, r535882, n535889, f535890, r535883, r535884, r535885, r535886, r535887, r535888⟩ := rLC_n r535878 (by omega)
                                            have hm535891 : q535875 ∈ P409956 := RS_m hT533233 r535881 (by decide)
                                            obtain ⟨q535892, hx535893⟩ : ∃ x, x = el q530372 g535716.toInt.toNat := ⟨_, rfl⟩
                                            have fq535897 : fR (F533232 q409959) 0 = q530372 := by rw [he533239]; rfl
                                            have hx535894 : f535890 g535716.toNatClampNeg = some q535892 := (r535887 _ (show g535716.toInt.toNat < γ 2 q530372 by omega)).trans (by rw [hx535893])
                                            have ht535898 : rKd γ q535892 2 := by rw [hx535893]; exact (r530387 _ (by omega)).resolve_right (fun z => absurd z.1 (by omega))
                                            have ht535899 : rFm γ q535892 q530372 := by rw [hx535893]; exact (r535879 _ (show g535716.toInt.toNat < γ 2 q530372 by omega)).2.1
                                            have hm535900 : q535892 ∈ P409956 := RS_m hT533233 ht535898 (by decide)
                                            obtain ⟨q535902, q535903, p535904, p535905, he535901, ht535912, ht535906, ht535907, ht535908, ht535909, ht535910, bp535904, bp535905, r535911, r535913, r535914⟩ := show rk_2 γ q535892 (F533232 q535892) from RS_o hT533233 ht535898
                                            have fq535915 : fI (F533232 q530372) 2 = p535874 := by rw [he535872]; rfl
                                            refine Gw_callV (As := [.int g535716]) (gV_ok D I) (cp_7901_Code_get l hl0 D I P409956 F533232 q409959 q530372 q535875 g535716 q530373 p530374 p530375 p535873 p535874 f535890 n535889 q535892 q535902 q535903 p535904 p535905 hm530370 hm535871 hm535891 hm535900 he533239 he535872 r535883 he535901 (gB_w bg535716' (by decide) (by decide)) (gB_w bp535874 (by decide) (by decide)) (by omega) (by omega) (by assumption) (by omega)) dr_cX17_findDepth_204 ⟨wr_10_161, wr_1_15, wr_10_141, by decide, rfl, (Nat.le_of_ble_eq_true rfl), (Nat.le_of_ble_eq_true rfl)⟩ wr_10_139 wr_10_140 hm530370 he533239 rfl (show 0 + 0 ≤ 0 by first | omega | decide) (show 0 + 0 ≤ 0 by first | omega | decide) (Nat.le_of_ble_eq_true rfl) (fun r535919 w535920 dc535916 ds535917 hp535918 => ?_) (fun _ _ _ _ _ z => z.elim)
                                            obtain ⟨rfl, rfl, hdc, hds, ht535921⟩ := hp535918
                                            change G _ _ _ _ _ _ _ (.ref q535892 :: _) _ _ _
                                            refine G_widen (cs' := 0) (sl' := 0) (by omega) (by omega) ?_
                                            have hm535922 : q535903 ∈ P409956 := RS_m hT533233 ht535908 (by decide)
                                            obtain ⟨p535924, p535925, p535926, p535927, p535928, p535929, p535930, he535923, bp535924, bp535925, bp535928, bp535929, bp535930, r535931, r535932, r535933, r535934, r535935⟩ := show rk_1 γ q535903 (F533232 q535903) from RS_o hT533233 ht535908
                                            have bp535926 := gB_any p535926
                                            have bp535927 := gB_any p535927
                                            have fq535936 : fI (F533232 q535892) 2 = p535904 := by rw [he535901]; rfl
                                            have fq535937 : fI (F533232 q535892) 3 = p535905 := by rw [he535901]; rfl
                                            have fq535938 : fR (F533232 q535892) 1 = q535903 := by rw [he535901]; rfl
                                            have fq535939 : fI (F533232 q535903) 0 = p535924 := by rw [he535923]; rfl
                                            refine Gw_callV (As := []) (gV_ok D I) (cp_1816_Block_ways l hl0 D I P409956 F533232 q535892 q535903 q535902 p535904 p535905 p535924 p535925 p535926 p535927 p535928 p535929 p535930 hm535900 hm535922 he535901 he535923 bp535904 bp535905 bp535924 bp535925 bp535928 bp535929 bp535930) dr_cX17_findDepth_207 ⟨wr_10_166, wr_1_38, wr_10_169, by decide, rfl, (Nat.le_of_ble_eq_true rfl), (Nat.le_of_ble_eq_true rfl)⟩ wr_10_167 wr_10_168 hm535900 he535901 rfl (show 0 + 0 ≤ 0 by first | omega | decide) (show 0 + 0 ≤ 0 by first | omega | decide) (Nat.le_of_ble_eq_true rfl) (fun r535943 w535944 dc535940 ds535941 hp535942 => ?_) (fun _ _ _ _ _ z => z.elim)
                                            obtain ⟨o535945, rfl, rfl, hdc, hds, bo535945, ht535946⟩ := hp535942
                                            change G _ _ _ _ _ _ _ (.int o535945 :: _) _ _ _
                                            refine G_widen (cs' := 0) (sl' := 0) (by omega) (by omega) ?_
                                            refine G_icmp_ge 268 dr_cX17_findDepth_210 (by decide +kernel) (fun hc535947 => ?_) (fun hc535947 => ?_)
                                            · have r535948 : o535945.toInt ≤ g535868.toInt := gC_le hc535947
                                              have hx535949 : tl_RModel_findDepth2_199 D I γ el F533232 q409959 g535716 g533231 gl535718 (0 : Int32) (0 : Int32) 268 g535869 := kt199_535870 268 g535869 (fun R c1 c2 c3 c4 c5 => c1 g535868 g535869 q530372 q535892 p535874 p535904 p535905 q535903 p535924 o535945 bg535868 bg535869 fq535897 hx535893 fq535915 ht535921 fq535936 fq535937 fq535938 fq535939 bo535945 ht535946 r535948)
                                              refine G_iload 1 dr_cX17_findDepth_268 rfl ?_
                                              refine G_if_ne 276 dr_cX17_findDepth_270 (by decide +kernel) (fun hc535950 => ?_) (fun hc535950 => ?_)
                                              · have r535951 : g535869.toInt ≠ 0 := gj_neq hc535950 (show Int32.toInt 0 = 0 by decide)
                                                have bg535869' : gB g535869 1 1 := gB_t1 bg535869 r535951
                                                refine G_lload 4 dr_cX17_findDepth_276 rfl ?_
                                                refine G_lconst 1 dr_cX17_findDepth_278 rfl ?_
                                                refine G_iload 2 dr_cX17_findDepth_279 rfl ?_
                                                refine G_lshl dr_cX17_findDepth_281 (G_namL fun u535952 hu535952 => ?_)
                                                have qu535952 : lb_Q u535952 (g535716.toInt % 64 + 1) := lb_Qshl hu535952 (by omega)
                                                refine G_lor dr_cX17_findDepth_282 (G_namL fun u535953 hu535953 => ?_)
                                                have pmu535953 : rpop gl535718 ≤ rpop u535953 := rpop_or hu535953
                                                have pnu535953 : rpop gl535718 + 1 ≤ rpop u535953 := rpop_new hu535953 hu535952 (by omega) (by omega) zhc535735
                                                refine G_lstore (L' := [(7, .long u535953), (12, .int g535868), (11, .int g535869), (10, .int g535716), (9, .int g535717), (5, .long u533340), (4, .int g533231), (2, .long ol530406), (0, .ref q409958), (1, .ref q409959)]) dr_cX17_findDepth_283 (Nat.le_of_ble_eq_true rfl) rfl ?_
                                                refine G_iconst 1 dr_cX17_findDepth_285 (by decide +kernel) ?_
                                                refine G_istore (L' := [(9, .int 1), (7, .long u535953), (12, .int g535868), (11, .int g535869), (10, .int g535716), (5, .long u533340), (4, .int g533231), (2, .long ol530406), (0, .ref q409958), (1, .ref q409959)]) dr_cX17_findDepth_286 (Nat.le_of_ble_eq_true rfl) rfl ?_
                                                obtain ⟨z535954, hz535954⟩ : ∃ z : Int32, z = g535716 + Int32.ofInt 1 := ⟨_, rfl⟩
                                                have ez535954 : z535954.toInt = g535716.toInt + 1 := gI_inc hz535954 (by decide) bg535716' (by decide) (by decide)
                                                have bz535954 : gB z535954 1 1000000 := ⟨by omega, by omega⟩
                                                refine G_iinc (L' := [(10, .int z535954), (9, .int 1), (7, .long u535953), (12, .int g535868), (11, .int g535869), (5, .long u533340), (4, .int g533231), (2, .long ol530406), (0, .ref q409958), (1, .ref q409959)]) z535954 4 dr_cX17_findDepth_288 rfl hz535954.symm (Nat.le_of_ble_eq_true rfl) rfl ?_
                                                refine G_goto 158 dr_cX17_findDepth_291 (by decide +kernel) ?_
                                                refine G_lv (L' := [(10, .int z535954), (9, .int 1), (7, .long u535953), (5, .long u533340), (4, .int g533231), (2, .long ol530406), (0, .ref q409958), (1, .ref q409959)]) [0, 1, 2, 5, 6, 7, 8, 9] rfl ?_
                                                exact ih158_535720 z535954 1 u535953 (gB_w bz535954 (by decide) (by decide)) (gB_w (gBl (show Int32.toInt 1 = 1 by decide)) (by decide) (by decide)) (rpop_le u535953) (by have qa0 : Int32.toInt 1 = 1 := (by decide); omega) (fun k e1 e2 ht => kt158_535721 k e1 e2 (fun R c1 c2 c3 c4 c5 => c3 g535716 g535717 gl535718 p530375 u535732 u535733 u535739 u535740 g535869 u535952 u535953 z535954 k e1 e2 bg535716 bg535717 x535719 x535720 fq535722 r535731 hu535732 hu535733 lhc535735 hu535739 hu535740 lhc535742 hx535949 r535951 hu535952 hu535953 ez535954 (ht R c1 c2 c3 c4 c5))) (mz_up ez535954 (Int.le_trans bg535716'.2 (by decide)) hm158_535720)
                                              · have r535955 : g535869.toInt = 0 := gj_eq hc535950 (show Int32.toInt 0 = 0 by decide)
                                                have bg535869' : gB g535869 0 0 := gB_t0 r535955
                                                refine G_goto 288 dr_cX17_findDepth_273 (by decide +kernel) ?_
                                                obtain ⟨z535956, hz535956⟩ : ∃ z : Int32, z = g535716 + Int32.ofInt 1 := ⟨_, rfl⟩
                                                have ez535956 : z535956.toInt = g535716.toInt + 1 := gI_inc hz535956 (by decide) bg535716' (by decide) (by decide)
                                                have bz535956 : gB z535956 1 1000000 := ⟨by omega, by omega⟩
                                                refine G_iinc (L' := [(10, .int z535956), (12, .int g535868), (11, .int g535869), (9, .int g535717), (7, .long gl535718), (5, .long u533340), (4, .int g533231), (2, .long ol530406), (0, .ref q409958), (1, .ref q409959)]) z535956 2 dr_cX17_findDepth_288 rfl hz535956.symm (Nat.le_of_ble_eq_true rfl) rfl ?_
                                                refine G_goto 158 dr_cX17_findDepth_291 (by decide +kernel) ?_
                                                refine G_lv (L' := [(10, .int z535956), (9, .int g535717), (7, .long gl535718), (5, .long u533340), (4, .int g533231), (2, .long ol530406), (0, .ref q409958), (1, .ref q409959)]) [0, 3, 4, 5, 6, 7, 8, 9] rfl ?_
                                                exact ih158_535720 z535956 g535717 gl535718 (gB_w bz535956 (by decide) (by decide)) bg535717 (rpop_le gl535718) (by omega) (fun k e1 e2 ht => kt158_535721 k e1 e2 (fun R c1 c2 c3 c4 c5 => c4 g535716 g535717 gl535718 p530375 u535732 u535733 u535739 u535740 g535869 z535956 k e1 e2 bg535716 bg535717 x535719 x535720 fq535722 r535731 hu535732 hu535733 lhc535735 hu535739 hu535740 lhc535742 hx535949 r535955 ez535956 (ht R c1 c2 c3 c4 c5))) (mz_up ez535956 (Int.le_trans bg535716'.2 (by decide)) hm158_535720)
                                            · have r535957 : g535868.toInt < o535945.toInt := gC_nle hc535947
                                              have bg535868' : gB g535868 0 1 := ⟨by omega, by omega⟩
                                              have bo535945' : gB o535945 1 2 := ⟨by omega, by omega⟩
                                              refine G_iload 1 dr_cX17_findDepth_213 rfl ?_
                                              refine G_if_ne 255 dr_cX17_findDepth_215 (by decide +kernel) (fun hc535958 => ?_) (fun hc535958 => ?_)
                                              · have r535959 : g535869.toInt ≠ 0 := gj_neq hc535958 (show Int32.toInt 0 = 0 by decide)
                                                have bg535869' : gB g535869 1 1 := gB_t1 bg535869 r535959
                                                refine G_iconst 1 dr_cX17_findDepth_255 (by decide +kernel) ?_
                                                refine G_goto 260 dr_cX17_findDepth_256 (by decide +kernel) ?_
                                                refine G_istore (L' := [(11, .int 1), (12, .int g535868), (10, .int g535716), (9, .int g535717), (7, .long gl535718), (5, .long u533340), (4, .int g533231), (2, .long ol530406), (0, .ref q409958), (1, .ref q409959)]) dr_cX17_findDepth_260 (Nat.le_of_ble_eq_true rfl) rfl ?_
                                                obtain ⟨z535960, hz535960⟩ : ∃ z : Int32, z = g535868 + Int32.ofInt 1 := ⟨_, rfl⟩
                                                have ez535960 : z535960.toInt = g535868.toInt + 1 := gI_inc hz535960 (by decide) bg535868' (by decide) (by decide)
                                                have bz535960 : gB z535960 1 2 := ⟨by omega, by omega⟩
                                                refine G_iinc (L' := [(12, .int z535960), (11, .int 1), (10, .int g535716), (9, .int g535717), (7, .long gl535718), (5, .long u533340), (4, .int g533231), (2, .long ol530406), (0, .ref q409958), (1, .ref q409959)]) z535960 1 dr_cX17_findDepth_262 rfl hz535960.symm (Nat.le_of_ble_eq_true rfl) rfl ?_
                                                refine G_goto 199 dr_cX17_findDepth_265 (by decide +kernel) ?_
                                                exact ih199_535869 z535960 1 (gB_w bz535960 (by decide) (by decide)) (gB_w (gBl (show Int32.toInt 1 = 1 by decide)) (by decide) (by decide)) (fun k e1 ht => kt199_535870 k e1 (fun R c1 c2 c3 c4 c5 => c2 g535868 g535869 q530372 q535892 p535874 p535904 p535905 q535903 p535924 o535945 z535960 k e1 bg535868 bg535869 fq535897 hx535893 fq535915 ht535921 fq535936 fq535937 fq535938 fq535939 bo535945 ht535946 r535957 r535959 ez535960 (ht R c1 c2 c3 c4 c5))) (mz_up ez535960 (Int.le_trans bg535868'.2 (by decide)) hm199_535869)
                                              · have r535961 : g535869.toInt = 0 := gj_eq hc535958 (show Int32.toInt 0 = 0 by decide)
                                                have bg535869' : gB g535869 0 0 := gB_t0 r535961
                                                refine G_aload_n 9 dr_cX17_findDepth_218 rfl ?_
                                                refine G_iload 2 dr_cX17_findDepth_219 rfl ?_
                                                refine Gw_callV (As := [.int g535716]) (gV_ok D I) (cp_7901_Code_get l hl0 D I P409956 F533232 q409959 q530372 q535875 g535716 q530373 p530374 p530375 p535873 p535874 f535890 n535889 q535892 q535902 q535903 p535904 p535905 hm530370 hm535871 hm535891 hm535900 he533239 he535872 r535883 he535901 (gB_w bg535716' (by decide) (by decide)) (gB_w bp535874 (by decide) (by decide)) (by omega) (by omega) (by assumption) (by omega)) dr_cX17_findDepth_221 ⟨wr_10_161, wr_1_15, wr_10_141, by decide, rfl, (Nat.le_of_ble_eq_true rfl), (Nat.le_of_ble_eq_true rfl)⟩ wr_10_139 wr_10_140 hm530370 he533239 rfl (show 0 + 0 ≤ 0 by first | omega | decide) (show 0 + 0 ≤ 0 by first | omega | decide) (Nat.le_of_ble_eq_true rfl) (fun r535965 w535966 dc535962 ds535963 hp535964 => ?_) (fun _ _ _ _ _ z => z.elim)
                                                obtain ⟨rfl, rfl, hdc, hds, ht535967⟩ := hp535964
                                                change G _ _ _ _ _ _ _ (.ref q535892 :: _) _ _ _
                                                refine G_widen (cs' := 0) (sl' := 0) (by omega) (by omega) ?_
                                                refine G_iload 0 dr_cX17_findDepth_224 rfl ?_
                                                refine Gw_callV (As := [.int g535868]) (gV_ok D I) (cp_5159_Block_way l hl0 D I P409956 F533232 q535892 q535903 g535868 q535902 p535904 p535905 p535924 p535925 p535926 p535927 p535928 p535929 p535930 hm535900 hm535922 he535901 he535923 bp535904 bp535905 bp535924 bp535925 bp535928 bp535929 bp535930) dr_cX17_findDepth_226 ⟨wr_10_170, wr_1_38, wr_10_173, by decide, rfl, (Nat.le_of_ble_eq_true rfl), (Nat.le_of_ble_eq_true rfl)⟩ wr_10_171 wr_10_172 hm535900 he535901 rfl (show 0 + 0 ≤ 0 by first | omega | decide) (show 0 + 0 ≤ 0 by first | omega | decide) (Nat.le_of_ble_eq_true rfl) (fun r535971 w535972 dc535968 ds535969 hp535970 => ?_) (fun _ _ _ _ _ z => z.elim)
                                                obtain ⟨o535973, rfl, rfl, hdc, hds, bo535973, ht535974⟩ := hp535970
                                                change G _ _ _ _ _ _ _ (.int o535973 :: _) _ _ _
                                                refine G_widen (cs' := 0) (sl' := 0) (by omega) (by omega) ?_
                                                refine G_iload 6 dr_cX17_findDepth_229 rfl ?_
                                                refine G_icmp_eq 259 dr_cX17_findDepth_231 (by decide +kernel) (fun hc535975 => ?_) (fun hc535975 => ?_)
                                                · have r535976 : o535973.toInt = g533231.toInt := gC_eq hc535975
                                                  have bg533231'' : gB g533231 0 39 := ⟨by omega, by omega⟩
                                                  refine G_iconst 0 dr_cX17_findDepth_259 (by decide +kernel) ?_
                                                  refine G_istore (L' := [(11, .int 0), (12, .int g535868), (10, .int g535716), (9, .int g535717), (7, .long gl535718), (5, .long u533340), (4, .int g533231), (2, .long ol530406), (0, .ref q409958), (1, .ref q409959)]) dr_cX17_findDepth_260 (Nat.le_of_ble_eq_true rfl) rfl ?_
                                                  obtain ⟨z535977, hz535977⟩ : ∃ z : Int32, z = g535868 + Int32.ofInt 1 := ⟨_, rfl⟩
                                                  have ez535977 : z535977.toInt = g535868.toInt + 1 := gI_inc hz535977 (by decide) bg535868' (by decide) (by decide)
                                                  have bz535977 : gB z535977 1 2 := ⟨by omega, by omega⟩
                                                  refine G_iinc (L' := [(12, .int z535977), (11, .int 0), (10, .int g535716), (9, .int g535717), (7, .long gl535718), (5, .long u533340), (4, .int g533231), (2, .long ol530406), (0, .ref q409958), (1, .ref q409959)]) z535977 1 dr_cX17_findDepth_262 rfl hz535977.symm (Nat.le_of_ble_eq_true rfl) rfl ?_
                                                  refine G_goto 199 dr_cX17_findDepth_265 (by decide +kernel) ?_
                                                  exact ih199_535869 z535977 0 (gB_w bz535977 (by decide) (by decide)) (gB_w (gBl (show Int32.toInt 0 = 0 by decide)) (by decide) (by decide)) (fun k e1 ht => kt199_535870 k e1 (fun R c1 c2 c3 c4 c5 => c3 g535868 g535869 q530372 q535892 p535874 p535904 p535905 q535903 p535924 o535945 o535973 z535977 k e1 bg535868 bg535869 fq535897 hx535893 fq535915 ht535921 fq535936 fq535937 fq535938 fq535939 bo535945 ht535946 r535957 r535961 ht535967 bo535973 ht535974 r535976 ez535977 (ht R c1 c2 c3 c4 c5))) (mz_up ez535977 (Int.le_trans bg535868'.2 (by decide)) hm199_535869)
                                                · have r535978 : o535973.toInt ≠ g533231.toInt := gC_ne hc535975
                                                  refine G_lload 4 dr_cX17_findDepth_234 rfl ?_
                                                  refine G_aload_n 9 dr_cX17_findDepth_236 rfl ?_
                                                  refine G_iload 2 dr_cX17_findDepth_237 rfl ?_
                                                  refine Gw_callV (As := [.int g535716]) (gV_ok D I) (cp_7901_Code_get l hl0 D I P409956 F533232 q409959 q530372 q535875 g535716 q530373 p530374 p530375 p535873 p535874 f535890 n535889 q535892 q535902 q535903 p535904 p535905 hm530370 hm535871 hm535891 hm535900 he533239 he535872 r535883 he535901 (gB_w bg535716' (by decide) (by decide)) (gB_w bp535874 (by decide) (by decide)) (by omega) (by omega) (by assumption) (by omega)) dr_cX17_findDepth_239 ⟨wr_10_161, wr_1_15, wr_10_141, by decide, rfl, (Nat.le_of_ble_eq_true rfl), (Nat.le_of_ble_eq_true rfl)⟩ wr_10_139 wr_10_140 hm530370 he533239 rfl (show 0 + 0 ≤ 0 by first | omega | decide) (show 0 + 0 ≤ 0 by first | omega | decide) (Nat.le_of_ble_eq_true rfl) (fun r535982 w535983 dc535979 ds535980 hp535981 => ?_) (fun _ _ _ _ _ z => z.elim)
                                                  obtain ⟨rfl, rfl, hdc, hds, ht535984⟩ := hp535981
                                                  change G _ _ _ _ _ _ _ (.ref q535892 :: _) _ _ _
                                                  refine G_widen (cs' := 0) (sl' := 0) (by omega) (by omega) ?_
                                                  refine G_iload 0 dr_cX17_findDepth_242 rfl ?_
                                                  refine Gw_callV (As := [.int g535868]) (gV_ok D I) (cp_5159_Block_way l hl0 D I P409956 F533232 q535892 q535903 g535868 q535902 p535904 p535905 p535924 p535925 p535926 p535927 p535928 p535929 p535930 hm535900 hm535922 he535901 he535923 bp535904 bp535905 bp535924 bp535925 bp535928 bp535929 bp535930) dr_cX17_findDepth_244 ⟨wr_10_170, wr_1_38, wr_10_173, by decide, rfl, (Nat.le_of_ble_eq_true rfl), (Nat.le_of_ble_eq_true rfl)⟩ wr_10_171 wr_10_172 hm535900 he535901 rfl (show 0 + 0 ≤ 0 by first | omega | decide) (show 0 + 0 ≤ 0 by first | omega | decide) (Nat.le_of_ble_eq_true rfl) (fun r535988 w535989 dc535985 ds535986 hp535987 => ?_) (fun _ _ _ _ _ z => z.elim)
                                                  obtain ⟨o535990, rfl, rfl, hdc, hds, bo535990, ht535991⟩ := hp535987
                                                  change G _ _ _ _ _ _ _ (.int o535990 :: _) _ _ _
                                                  refine G_widen (cs' := 0) (sl' := 0) (by omega) (by omega) ?_
                                                  refine G_lushr dr_cX17_findDepth_247 (G_namL fun u535992 hu535992 => ?_)
                                                  refine G_lconst 1 dr_cX17_findDepth_248 rfl ?_
                                                  refine G_land dr_cX17_findDepth_249 (G_namL fun u535993 hu535993 => ?_)
                                                  refine G_lconst 0 dr_cX17_findDepth_250 rfl ?_
                                                  refine G_lcmp dr_cX17_findDepth_251 (G_nam fun z535994 hz535994 => ?_)
                                                  have bz535994 : gB z535994 (-1) 1 := gB_cmp hz535994
                                                  refine G_if_eq 259 dr_cX17_findDepth_252 (by decide +kernel) (fun hc535995 => ?_) (fun hc535995 => ?_)
                                                  · have r535996 : z535994.toInt = 0 := gj_eq hc535995 (show Int32.toInt 0 = 0 by decide)
                                                    have bz535994' : gB z535994 0 0 := ⟨by omega, by omega⟩
                                                    have lhc535995 := gC_cmpE hz535994 hc535995
                                                    have zhc535995 := rbit_0 hu535992 hu535993 lhc535995 (by omega) (by omega)
                                                    refine G_iconst 0 dr_cX17_findDepth_259 (by decide +kernel) ?_
                                                    refine G_istore (L' := [(11, .int 0), (12, .int g535868), (10, .int g535716), (9, .int g535717), (7, .long gl535718), (5, .long u533340), (4, .int g533231), (2, .long ol530406), (0, .ref q409958), (1, .ref q409959)]) dr_cX17_findDepth_260 (Nat.le_of_ble_eq_true rfl) rfl ?_
                                                    obtain ⟨z535997, hz535997⟩ : ∃ z : Int32, z = g535868 + Int32.ofInt 1 := ⟨_, rfl⟩
                                                    have ez535997 : z535997.toInt = g535868.toInt + 1 := gI_inc hz535997 (by decide) bg535868' (by decide) (by decide)
                                                    have bz535997 : gB z535997 1 2 := ⟨by omega, by omega⟩
                                                    refine G_iinc (L' := [(12, .int z535997), (11, .int 0), (10, .int g535716), (9, .int g535717), (7, .long gl535718), (5, .long u533340), (4, .int g533231), (2, .long ol530406), (0, .ref q409958), (1, .ref q409959)]) z535997 1 dr_cX17_findDepth_262 rfl hz535997.symm (Nat.le_of_ble_eq_true rfl) rfl ?_
                                                    refine G_goto 199 dr_cX17_findDepth_265 (by decide +kernel) ?_
                                                    exact ih199_535869 z535997 0 (gB_w bz535997 (by decide) (by decide)) (gB_w (gBl (show Int32.toInt 0 = 0 by decide)) (by decide) (by decide)) (fun k e1 ht => kt199_535870 k e1 (fun R c1 c2 c3 c4 c5 => c4 g535868 g535869 q530372 q535892 p535874 p535904 p535905 q535903 p535924 o535945 o535973 o535990 u535992 u535993 z535997 k e1 bg535868 bg535869 fq535897 hx535893 fq535915 ht535921 fq535936 fq535937 fq535938 fq535939 bo535945 ht535946 r535957 r535961 ht535967 bo535973 ht535974 r535978 ht535984 bo535990 ht535991 hu535992 hu535993 lhc535995 ez535997 (ht R c1 c2 c3 c4 c5))) (mz_up ez535997 (Int.le_trans bg535868'.2 (by decide)) hm199_535869)
                                                  · have r535998 : z535994.toInt ≠ 0 := gj_neq hc535995 (show Int32.toInt 0 = 0 by decide)
                                                    have lhc535995 := gC_cmpN hz535994 hc535995
                                                    refine G_iconst 1 dr_cX17_findDepth_255 (by decide +kernel) ?_
                                                    refine G_goto 260 dr_cX17_findDepth_256 (by decide +kernel) ?_
                                                    refine G_istore (L' := [(11, .int 1), (12, .int g535868), (10, .int g535716), (9, .int g535717), (7, .long gl535718), (5, .long u533340), (4, .int g533231), (2, .long ol530406), (0, .ref q409958), (1, .ref q409959)]) dr_cX17_findDepth_260 (Nat.le_of_ble_eq_true rfl) rfl ?_
                                                    obtain ⟨z535999, hz535999⟩ : ∃ z : Int32, z = g535868 + Int32.ofInt 1 := ⟨_, rfl⟩
                                                    have ez535999 : z535999.toInt = g535868.toInt + 1 := gI_inc hz535999 (by decide) bg535868' (by decide) (by decide)
                                                    have bz535999 : gB z535999 1 2 := ⟨by omega, by omega⟩
                                                    refine G_iinc (L' := [(12, .int z535999), (11, .int 1), (10, .int g535716), (9, .int g535717), (7, .long gl535718), (5, .long u533340), (4, .int g533231), (2, .long ol530406), (0, .ref q409958), (1, .ref q409959)]) z535999 1 dr_cX17_findDepth_262 rfl hz535999.symm (Nat.le_of_ble_eq_true rfl) rfl ?_
                                                    refine G_goto 199 dr_cX17_findDepth_265 (by decide +kernel) ?_
                                                    exact ih199_535869 z535999 1 (gB_w bz535999 (by decide) (by decide)) (gB_w (gBl (show Int32.toInt 1 = 1 by decide)) (by decide) (by decide)) (fun k e1 ht => kt199_535870 k e1 (fun R c1 c2 c3 c4 c5 => c5 g535868 g535869 q530372 q535892 p535874 p535904 p535905 q535903 p535924 o535945 o535973 o535990 u535992 u535993 z535999 k e1 bg535868 bg535869 fq535897 hx535893 fq535915 ht535921 fq535936 fq535937 fq535938 fq535939 bo535945 ht535946 r535957 r535961 ht535967 bo535973 ht535974 r535978 ht535984 bo535990 ht535991 hu535992 hu535993 lhc535995 ez535999 (ht R c1 c2 c3 c4 c5))) (mz_up ez535999 (Int.le_trans bg535868'.2 (by decide)) hm199_535869)
                                        exact hlp199_535869 (((3 : Int) - 0).toNat + 1) 0 0 (gB_w (gBl (show Int32.toInt 0 = 0 by decide)) (by decide) (by decide)) (gB_w (gBl (show Int32.toInt 0 = 0 by decide)) (by decide) (by decide)) (fun k e1 ht => ht) (Nat.lt_succ_self _)
                                      · have r536000 : z535741.toInt = 0 := gj_eq hc535742 (show Int32.toInt 0 = 0 by decide)
                                        have bz535741' : gB z535741 0 0 := ⟨by omega, by omega⟩
                                        have lhc535742 := gC_cmpE hz535741 hc535742
                                        refine G_goto 288 dr_cX17_findDepth_190 (by decide +kernel) ?_
                                        obtain ⟨z536001, hz536001⟩ : ∃ z : Int32, z = g535716 + Int32.ofInt 1 := ⟨_, rfl⟩
                                        have ez536001 : z536001.toInt = g535716.toInt + 1 := gI_inc hz536001 (by decide) bg535716' (by decide) (by decide)
                                        have bz536001 : gB z536001 1 1000000 := ⟨by omega, by omega⟩
                                        refine G_iinc (L' := [(10, .int z536001), (9, .int g535717), (7, .long gl535718), (5, .long u533340), (4, .int g533231), (2, .long ol530406), (0, .ref q409958), (1, .ref q409959)]) z536001 0 dr_cX17_findDepth_288 rfl hz536001.symm (Nat.le_of_ble_eq_true rfl) rfl ?_
                                        refine G_goto 158 dr_cX17_findDepth_291 (by decide +kernel) ?_
                                        exact ih158_535720 z536001 g535717 gl535718 (gB_w bz536001 (by decide) (by decide)) bg535717 (rpop_le gl535718) (by omega) (fun k e1 e2 ht => kt158_535721 k e1 e2 (fun R c1 c2 c3 c4 c5 => c5 g535716 g535717 gl535718 p530375 u535732 u535733 u535739 u535740 z536001 k e1 e2 bg535716 bg535717 x535719 x535720 fq535722 r535731 hu535732 hu535733 lhc535735 hu535739 hu535740 lhc535742 ez536001 (ht R c1 c2 c3 c4 c5))) (mz_up ez536001 (Int.le_trans bg535716'.2 (by decide)) hm158_535720)
                              exact hlp158_535720 (((1000001 : Int) - 0).toNat + 1) 0 0 gl535353 (gB_w (gBl (show Int32.toInt 0 = 0 by decide)) (by decide) (by decide)) (gB_w (gBl (show Int32.toInt 0 = 0 by decide)) (by decide) (by decide)) (rpop_le gl535353) (by have qa0 : Int32.toInt 0 = 0 := (by decide); omega) (fun k e1 e2 ht => ht) (Nat.lt_succ_self _)
                        exact hlp147_535354 ((64 - rpop u534716) + ((1 : Int)).toNat + 1) 1 u534716 (gB_w (gBl (show Int32.toInt 1 = 1 by decide)) (by decide) (by decide)) (rpop_le u534716) (fun k e1 ht => ht) (Nat.lt_succ_self _)
                      · have r536002 : z534712.toInt = 0 := gj_eq hc534713 (show Int32.toInt 0 = 0 by decide)
                        have bz534712' : gB z534712 0 0 := ⟨by omega, by omega⟩
                        have lhc534713 := gC_cmpE hz534712 hc534713
                        refine G_goto 333 dr_cX17_findDepth_132 (by decide +kernel) ?_
                        obtain ⟨z536003, hz536003⟩ : ∃ z : Int32, z = g533231 + Int32.ofInt 1 := ⟨_, rfl⟩
                        have ez536003 : z536003.toInt = g533231.toInt + 1 := gI_inc hz536003 (by decide) bg533231' (by decide) (by decide)
                        have bz536003 : gB z536003 1 1000000 := ⟨by omega, by omega⟩
                        refine G_iinc (L' := [(4, .int z536003), (9, .int g534700), (7, .long gl534701), (5, .long u533340), (2, .long ol530406), (0, .ref q409958), (1, .ref q409959)]) z536003 3 dr_cX17_findDepth_333 rfl hz536003.symm (Nat.le_of_ble_eq_true rfl) rfl ?_
                        refine G_goto 32 dr_cX17_findDepth_336 (by decide +kernel) ?_
                        refine G_lv (L' := [(4, .int z536003), (2, .long ol530406), (0, .ref q409958), (1, .ref q409959)]) [0, 4, 5, 6] rfl ?_
                        exact ih32_533236 F533232 z536003 (gB_w bz536003 (by decide) (by decide)) hT533233 hs533234 x533235 x533236 (fun k e1 ht => kt32_533237 k e1 (fun R c1 c2 c3 c4 => c3 F533232 g533231 p530375 u533327 u533328 ol533337 u533339 u533340 gl534701 z536003 k e1 bg533231 hT533233 hs533234 x533235 x533236 fq533243 r533326 hu533327 hu533328 lhc533330 ht533338 hu533339 hu533340 hx534711 lhc534713 ez536003 (ht R c1 c2 c3 c4))) (mz_up ez536003 (Int.le_trans bg533231'.2 (by decide)) hm32_533236)
                    · have r536004 : g534700.toInt < p530375.toInt := gC_nle hc534709
                      have bg534700' : gB g534700 0 999999 := ⟨by omega, by omega⟩
                      refine G_lload 2 dr_cX17_findDepth_84 rfl ?_
                      refine G_iload 0 dr_cX17_findDepth_86 rfl ?_
                      refine G_lushr dr_cX17_findDepth_88 (G_namL fun u536005 hu536005 => ?_)
                      refine G_lconst 1 dr_cX17_findDepth_89 rfl ?_
                      refine G_land dr_cX17_findDepth_90 (G_namL fun u536006 hu536006 => ?_)
                      refine G_lconst 0 dr_cX17_findDepth_91 rfl ?_
                      refine G_lcmp dr_cX17_findDepth_92 (G_nam fun z536007 hz536007 => ?_)
                      have bz536007 : gB z536007 (-1) 1 := gB_cmp hz536007
                      refine G_if_eq 119 dr_cX17_findDepth_93 (by decide +kernel) (fun hc536008 => ?_) (fun hc536008 => ?_)
                      · have r536009 : z536007.toInt = 0 := gj_eq hc536008 (show Int32.toInt 0 = 0 by decide)
                        have bz536007' : gB z536007 0 0 := ⟨by omega, by omega⟩
                        have lhc536008 := gC_cmpE hz536007 hc536008
                        obtain ⟨z536010, hz536010⟩ : ∃ z : Int32, z = g534700 + Int32.ofInt 1 := ⟨_, rfl⟩
                        have ez536010 : z536010.toInt = g534700.toInt + 1 := gI_inc hz536010 (by decide) bg534700' (by decide) (by decide)
                        have bz536010 : gB z536010 1 1000000 := ⟨by omega, by omega⟩
                        refine G_iinc (L' := [(9, .int z536010), (7, .long gl534701), (5, .long u533340), (4, .int g533231), (2, .long ol530406), (0, .ref q409958), (1, .ref q409959)]) z536010 0 dr_cX17_findDepth_119 rfl hz536010.symm (Nat.le_of_ble_eq_true rfl) rfl ?_
                        refine G_goto 75 dr_cX17_findDepth_122 (by decide +kernel) ?_
                        exact ih75_534701 z536010 gl534701 (gB_w bz536010 (by decide) (by decide)) (fun k e1 ht => kt75_534702 k e1 (fun R c1 c2 c3 c4 => c2 g534700 gl534701 p530375 u536005 u536006 z536010 k e1 bg534700 fq534703 r536004 hu536005 hu536006 lhc536008 ez536010 (ht R c1 c2 c3 c4))) (mz_up ez536010 (Int.le_trans bg534700'.2 (by decide)) hm75_534701)
                      · have r536011 : z536007.toInt ≠ 0 := gj_neq hc536008 (show Int32.toInt 0 = 0 by decide)
                        have lhc536008 := gC_cmpN hz536007 hc536008
                        refine G_aload_n 6 dr_cX17_findDepth_96 rfl ?_
                        refine G_iload 0 dr_cX17_findDepth_97 rfl ?_
                        have hm536012 : q530372 ∈ P409956 := RS_m hT533233 ht530376 (by decide)
                        obtain ⟨⟨p536014, p536015, q536016, he536013, r536017, r536018, r536019, r536021⟩, r536020⟩ := show rk_4 D I γ el F533232 q530372 from RS_o hT533233 ht530376
                        have bp536014 := gB_any p536014
                        have bp536015 : gB p536015 0 1000000 := ⟨by omega, by omega⟩
                        obtain ⟨r536022, r536023, n536030, f536031, r536024, r536025, r536026, r536027, r536028, r536029⟩ := rLC_n r536019 (by omega)
                        have hm536032 : q536016 ∈ P409956 := RS_m hT533233 r536022 (by decide)
                        obtain ⟨q536033, hx536034⟩ : ∃ x, x = el q530372 g534700.toInt.toNat := ⟨_, rfl⟩
                        have fq536038 : fR (F533232 q409959) 0 = q530372 := by rw [he533239]; rfl
                        have hx536035 : f536031 g534700.toNatClampNeg = some q536033 := (r536028 _ (show g534700.toInt.toNat < γ 2 q530372 by omega)).trans (by rw [hx536034])
                        have ht536039 : rKd γ q536033 2 := by rw [hx536034]; exact (r530387 _ (by omega)).resolve_right (fun z => absurd z.1 (by omega))
                        have ht536040 : rFm γ q536033 q530372 := by rw [hx536034]; exact (r536020 _ (show g534700.toInt.toNat < γ 2 q530372 by omega)).2.1
                        have hm536041 : q536033 ∈ P409956 := RS_m hT533233 ht536039 (by decide)
                        obtain ⟨q536043, q536044, p536045, p536046, he536042, ht536053, ht536047, ht536048, ht536049, ht536050, ht536051, bp536045, bp536046, r536052, r536054, r536055⟩ := show rk_2 γ q536033 (F533232 q536033) from RS_o hT533233 ht536039
                        have fq536056 : fI (F533232 q530372) 2 = p536015 := by rw [he536013]; rfl
                        refine Gw_callV (As := [.int g534700]) (gV_ok D I) (cp_7901_Code_get l hl0 D I P409956 F533232 q409959 q530372 q536016 g534700 q530373 p530374 p530375 p536014 p536015 f536031 n536030 q536033 q536043 q536044 p536045 p536046 hm530370 hm536012 hm536032 hm536041 he533239 he536013 r536024 he536042 (gB_w bg534700' (by decide) (by decide)) (gB_w bp536015 (by decide) (by decide)) (by omega) (by omega) (by assumption) (by omega)) dr_cX17_findDepth_99 ⟨wr_10_161, wr_1_15, wr_10_141, by decide, rfl, (Nat.le_of_ble_eq_true rfl), (Nat.le_of_ble_eq_true rfl)⟩ wr_10_139 wr_10_140 hm530370 he533239 rfl (show 0 + 0 ≤ 0 by first | omega | decide) (show 0 + 0 ≤ 0 by first | omega | decide) (Nat.le_of_ble_eq_true rfl) (fun r536060 w536061 dc536057 ds536058 hp536059 => ?_) (fun _ _ _ _ _ z => z.elim)
                        obtain ⟨rfl, rfl, hdc, hds, ht536062⟩ := hp536059
                        change G _ _ _ _ _ _ _ (.ref q536033 :: _) _ _ _
                        refine G_widen (cs' := 0) (sl' := 0) (by omega) (by omega) ?_
                        refine G_iload 3 dr_cX17_findDepth_102 rfl ?_
                        refine Gw_callS (As := [.ref q536033, .int g533231]) (gV_ok D I) (ct_7594_SpillForgeModel_leads l hl0 D I γ el P409956 F533232 q536033 g533231 hT533233 ht536039) dr_cX17_findDepth_104 ⟨wr_11_44, wr_1_14, wr_11_46, by decide, rfl, (Nat.le_of_ble_eq_true rfl), (Nat.le_of_ble_eq_true rfl)⟩ wr_11_45 (show 0 + 0 ≤ 0 by first | omega | decide) (show 0 + 0 ≤ 0 by first | omega | decide) (Nat.le_of_ble_eq_true rfl) (fun r536066 w536067 dc536063 ds536064 hp536065 => ?_) (fun _ _ _ _ _ z => z.elim)
                        obtain ⟨o536068, rfl, rfl, hdc, hds, bo536068, ht536069⟩ := hp536065
                        change G _ _ _ _ _ _ _ (.int o536068 :: _) _ _ _
                        refine G_widen (cs' := 0) (sl' := 0) (by omega) (by omega) ?_
                        refine G_if_eq 119 dr_cX17_findDepth_107 (by decide +kernel) (fun hc536070 => ?_) (fun hc536070 => ?_)
                        · have r536071 : o536068.toInt = 0 := gj_eq hc536070 (show Int32.toInt 0 = 0 by decide)
                          have bo536068' : gB o536068 0 0 := gB_t0 r536071
                          obtain ⟨z536072, hz536072⟩ : ∃ z : Int32, z = g534700 + Int32.ofInt 1 := ⟨_, rfl⟩
                          have ez536072 : z536072.toInt = g534700.toInt + 1 := gI_inc hz536072 (by decide) bg534700' (by decide) (by decide)
                          have bz536072 : gB z536072 1 1000000 := ⟨by omega, by omega⟩
                          refine G_iinc (L' := [(9, .int z536072), (7, .long gl534701), (5, .long u533340), (4, .int g533231), (2, .long ol530406), (0, .ref q409958), (1, .ref q409959)]) z536072 0 dr_cX17_findDepth_119 rfl hz536072.symm (Nat.le_of_ble_eq_true rfl) rfl ?_
                          refine G_goto 75 dr_cX17_findDepth_122 (by decide +kernel) ?_
                          exact ih75_534701 z536072 gl534701 (gB_w bz536072 (by decide) (by decide)) (fun k e1 ht => kt75_534702 k e1 (fun R c1 c2 c3 c4 => c3 g534700 gl534701 p530375 u536005 u536006 q530372 q536033 p536015 o536068 z536072 k e1 bg534700 fq534703 r536004 hu536005 hu536006 lhc536008 fq536038 hx536034 fq536056 ht536062 bo536068 ht536069 r536071 ez536072 (ht R c1 c2 c3 c4))) (mz_up ez536072 (Int.le_trans bg534700'.2 (by decide)) hm75_534701)
                        · have r536073 : o536068.toInt ≠ 0 := gj_neq hc536070 (show Int32.toInt 0 = 0 by decide)
                          have bo536068' : gB o536068 1 1 := gB_t1 bo536068 r536073
                          refine G_lload 1 dr_cX17_findDepth_110 rfl ?_
                          refine G_lconst 1 dr_cX17_findDepth_112 rfl ?_
                          refine G_iload 0 dr_cX17_findDepth_113 rfl ?_
                          refine G_lshl dr_cX17_findDepth_115 (G_namL fun u536074 hu536074 => ?_)
                          have qu536074 : lb_Q u536074 (g534700.toInt % 64 + 1) := lb_Qshl hu536074 (by omega)
                          refine G_lor dr_cX17_findDepth_116 (G_namL fun u536075 hu536075 => ?_)
                          have pmu536075 : rpop gl534701 ≤ rpop u536075 := rpop_or hu536075
                          refine G_lstore (L' := [(7, .long u536075), (9, .int g534700), (5, .long u533340), (4, .int g533231), (2, .long ol530406), (0, .ref q409958), (1, .ref q409959)]) dr_cX17_findDepth_117 (Nat.le_of_ble_eq_true rfl) rfl ?_
                          obtain ⟨z536076, hz536076⟩ : ∃ z : Int32, z = g534700 + Int32.ofInt 1 := ⟨_, rfl⟩
                          have ez536076 : z536076.toInt = g534700.toInt + 1 := gI_inc hz536076 (by decide) bg534700' (by decide) (by decide)
                          have bz536076 : gB z536076 1 1000000 := ⟨by omega, by omega⟩
                          refine G_iinc (L' := [(9, .int z536076), (7, .long u536075), (5, .long u533340), (4, .int g533231), (2, .long ol530406), (0, .ref q409958), (1, .ref q409959)]) z536076 1 dr_cX17_findDepth_119 rfl hz536076.symm (Nat.le_of_ble_eq_true rfl) rfl ?_
                          refine G_goto 75 dr_cX17_findDepth_122 (by decide +kernel) ?_
                          exact ih75_534701 z536076 u536075 (gB_w bz536076 (by decide) (by decide)) (fun k e1 ht => kt75_534702 k e1 (fun R c1 c2 c3 c4 => c4 g534700 gl534701 p530375 u536005 u536006 q530372 q536033 p536015 o536068 u536074 u536075 z536076 k e1 bg534700 fq534703 r536004 hu536005 hu536006 lhc536008 fq536038 hx536034 fq536056 ht536062 bo536068 ht536069 r536073 hu536074 hu536075 ez536076 (ht R c1 c2 c3 c4))) (mz_up ez536076 (Int.le_trans bg534700'.2 (by decide)) hm75_534701)
                exact hlp75_534701 (((1000001 : Int) - 0).toNat + 1) 0 0 (gB_w (gBl (show Int32.toInt 0 = 0 by decide)) (by decide) (by decide)) (fun k e1 ht => ht) (Nat.lt_succ_self _)
              · have r536077 : z533329.toInt = 0 := gj_eq hc533330 (show Int32.toInt 0 = 0 by decide)
                have bz533329' : gB z533329 0 0 := ⟨by omega, by omega⟩
                have lhc533330 := gC_cmpE hz533329 hc533330
                refine G_goto 333 dr_cX17_findDepth_52 (by decide +kernel) ?_
                obtain ⟨z536078, hz536078⟩ : ∃ z : Int32, z = g533231 + Int32.ofInt 1 := ⟨_, rfl⟩
                have ez536078 : z536078.toInt = g533231.toInt + 1 := gI_inc hz536078 (by decide) bg533231' (by decide) (by decide)
                have bz536078 : gB z536078 1 1000000 := ⟨by omega, by omega⟩
                refine G_iinc (L' := [(4, .int z536078), (2, .long ol530406), (0, .ref q409958), (1, .ref q409959)]) z536078 0 dr_cX17_findDepth_333 rfl hz536078.symm (Nat.le_of_ble_eq_true rfl) rfl ?_
                refine G_goto 32 dr_cX17_findDepth_336 (by decide +kernel) ?_
                exact ih32_533236 F533232 z536078 (gB_w bz536078 (by decide) (by decide)) hT533233 hs533234 x533235 x533236 (fun k e1 ht => kt32_533237 k e1 (fun R c1 c2 c3 c4 => c4 F533232 g533231 p530375 u533327 u533328 z536078 k e1 bg533231 hT533233 hs533234 x533235 x533236 fq533243 r533326 hu533327 hu533328 lhc533330 ez536078 (ht R c1 c2 c3 c4))) (mz_up ez536078 (Int.le_trans bg533231'.2 (by decide)) hm32_533236)
        exact hlp32_533236 (((1000001 : Int) - 0).toNat + 1) F530360 0 (gB_w (gBl (show Int32.toInt 0 = 0 by decide)) (by decide) (by decide)) hT530361 hs530362 x530363 x530364 (fun k e1 ht => ht) (Nat.lt_succ_self _)
      · have r536079 : g530359.toInt < p530375.toInt := gC_nle hc530398
        have bg530359' : gB g530359 0 999999 := ⟨by omega, by omega⟩
        have bp530375' : gB p530375 1 1000000 := ⟨by omega, by omega⟩
        refine G_aload_n 1 dr_cX17_findDepth_10 rfl ?_
        have fq536080 : fR (F530360 q409958) 4 = (γ 9 4) := by rw [he530368]; rfl
        refine Gp_get 4 hm530369 he530368 dr_cX17_findDepth_11 (gk_X17 D I) (Nat.le_of_ble_eq_true rfl) wr_7_78 rfl ?_
        refine G_iload_n 0 dr_cX17_findDepth_14 rfl ?_
        refine G_iconst 0 dr_cX17_findDepth_15 (by decide +kernel) ?_
        have hm536081 : (γ 9 4) ∈ P409956 := RS_m hT530361 ht409987 (by decide)
        obtain ⟨f536083, he536082⟩ := show rk_16 I (F530360 (γ 9 4)) from RS_o hT530361 ht409987
        refine Gp_iast 0 hm536081 he536082 dr_cX17_findDepth_16 rfl (gB_inr (by omega) (by omega)) (fun F536084 e536085 n536086 => ?_)
        obtain ⟨f536087, hf536087⟩ : ∃ z, z = upd f536083 g530359.toNatClampNeg 0 := ⟨_, rfl⟩
        rw [← hf536087] at e536085
        have he536088 : F536084 q409958 = .inr (22, [.ref (γ 9 0), .ref (γ 9 1), .ref (γ 9 2), .ref (γ 9 3), .ref (γ 9 4), .ref (γ 9 5), .ref (γ 9 6), .ref (γ 9 7), .ref (γ 9 8), .int p409966, .int p409967, .int p409968, .int p409969, .int p409970, .int p409971, .ref (γ 9 15), .ref (γ 9 16), .ref (γ 9 17), .ref (γ 9 18), .ref (γ 9 19), .ref (γ 9 20), .ref (γ 9 21), .ref (γ 9 22), .int p409972, .int p409973, .int p409974, .int p409975, .int p409976, .ref q409964, .ref (γ 9 29), .int p409977, .ref (γ 9 31), .int p409978, .int p409979, .int p409980, .ref q409965]) := (n536086 q409958 (rn_oa he530368 he536082)).trans he530368
        have he536089 : F536084 q409959 = .inr (18, [.ref q530372, .ref q530373, .int p530374, .int p530375]) := (n536086 q409959 (rn_oa he530371 he536082)).trans he530371
        have he536090 : F536084 (γ 9 4) = .inl (I .int, 40, .inl f536087) := e536085
        have hs536091 : rStr γ [] F409957 F536084 := rStr_put hs530362 n536086 ht409987 (by decide)
        have kp536092 : F536084 q409958 = F409957 q409958 := (n536086 q409958 (rn_ty htq409958 ht409987 (by decide))).trans x530363
        have kp536093 : F536084 (γ 9 3) = F409957 (γ 9 3) := (n536086 (γ 9 3) (rn_ty ht409986 ht409987 (by decide))).trans x530364
        obtain ⟨z536094, hz536094⟩ : ∃ z : Int32, z = g530359 + Int32.ofInt 1 := ⟨_, rfl⟩
        have ez536094 : z536094.toInt = g530359.toInt + 1 := gI_inc hz536094 (by decide) bg530359' (by decide) (by decide)
        have bz536094 : gB z536094 1 1000000 := ⟨by omega, by omega⟩
        refine G_iinc (L' := [(2, .int z536094), (0, .ref q409958), (1, .ref q409959)]) z536094 0 dr_cX17_findDepth_17 rfl hz536094.symm (Nat.le_of_ble_eq_true rfl) rfl ?_
        refine G_goto 2 dr_cX17_findDepth_20 (by decide +kernel) ?_
        have hT536095 : RS D I P409956 F536084 γ el := RS_set hT530361 n536086 ht409987 (by decide) ⟨f536087, he536090⟩
        exact ih2_530364 F536084 z536094 (gB_w bz536094 (by decide) (by decide)) hT536095 hs536091 kp536092 kp536093 (fun k e1 ht => kt2_530365 k e1 (fun R c1 c2 => c2 F530360 g530359 p530375 f536083 f536087 F536084 z536094 k e1 bg530359 hT530361 hs530362 x530363 x530364 fq530392 r536079 fq536080 he536082 hf536087 n536086 he536090 ez536094 (ht R c1 c2))) (mz_up ez536094 (Int.le_trans bg530359'.2 (by decide)) hm2_530364)
  exact hlp2_530364 (((1000001 : Int) - 0).toNat + 1) F409957 0 (gB_w (gBl (show Int32.toInt 0 = 0 by decide)) (by decide) (by decide)) hT (rStr_rf (γ := γ) (W := []) (F := F409957)) rfl rfl (fun k e1 ht => ht) (Nat.lt_succ_self _)
/- tl_RModel_weigh_74: F, l5; out: F -/
def tl_RModel_weigh_74 (D : va_G) (I : FieldType → ClassId) (γ el : Nat → Nat → Nat) (P : List Nat) (F : Nat → va_E) (q0 : Nat) (c1 : Nat) (l3_2 : Int32) (s1 : Nat → va_E) (s2 : Int32) (k : Nat) (e1 : Nat → va_E) : Prop := ∀ R : (Nat → va_E) → (Int32) → Nat → (Nat → va_E) → Prop,
  (∀ (F_2 : Nat → va_E) (l5_2 : Int32) (x1 : Nat) (x2 : Int32), gB l5_2 0 1000001 → RS D I P F_2 γ el → rStr γ [] F F_2 → (F_2 q0 = F q0) → (F_2 (γ 9 3) = F (γ 9 3)) → fR (F_2 c1) 0 = x1 → x2.toInt = (γ 2 x1 : Int) → fI (F_2 x1) 2 = x2 → x2.toInt < l5_2.toInt → R F_2 l5_2 195 F_2) →
  (∀ (F_2 : Nat → va_E) (l5_2 : Int32) (x1 : Nat) (x2 : Int32) (x3 : Nat) (x4 : Int32) (x5 : Int32) (x6 : Int32) (x7 : Int32) (x8 : Int32) (x9 : Int32) (x10 : Int32) (k : Nat) (e1 : Nat → va_E), gB l5_2 0 1000001 → RS D I P F_2 γ el → rStr γ [] F F_2 → (F_2 q0 = F q0) → (F_2 (γ 9 3) = F (γ 9 3)) → fR (F_2 c1) 0 = x1 → x2.toInt = (γ 2 x1 : Int) → fI (F_2 x1) 2 = x2 → l5_2.toInt ≤ x2.toInt → x2.toInt = (γ 2 x1 : Int) → x2.toInt ≤ l5_2.toInt → fR (F_2 c1) 1 = x3 → fI (F_2 x3) 0 = x4 → gB x5 0 1 → tr_RRow_sets x4 x5 → x5.toInt = 0 → fI (F_2 x3) 5 = x6 → gB x7 0 1 → tr_RRow_usesA x4 x6 x7 → x7.toInt = 0 → fI (F_2 x3) 6 = x8 → gB x9 0 1 → tr_RRow_usesB x4 x8 x9 → x9.toInt = 0 → x10.toInt = l5_2.toInt + 1 → R F_2 x10 k e1 → R F_2 l5_2 k e1) →
  (∀ (F_2 : Nat → va_E) (l5_2 : Int32) (x1 : Nat) (x2 : Int32) (x3 : Nat) (x4 : Int32) (x5 : Int32) (x6 : Int32) (x7 : Int32) (x8 : Int32) (x9 : Int32) (x10 : Int32) (x11 : Nat → Int32) (x12 : Int32) (x13 : Int32) (x14 : Nat → Int32) (x15 : Nat → va_E) (x16 : Int32) (k : Nat) (e1 : Nat → va_E), gB l5_2 0 1000001 → RS D I P F_2 γ el → rStr γ [] F F_2 → (F_2 q0 = F q0) → (F_2 (γ 9 3) = F (γ 9 3)) → fR (F_2 c1) 0 = x1 → x2.toInt = (γ 2 x1 : Int) → fI (F_2 x1) 2 = x2 → l5_2.toInt ≤ x2.toInt → x2.toInt = (γ 2 x1 : Int) → x2.toInt ≤ l5_2.toInt → fR (F_2 c1) 1 = x3 → fI (F_2 x3) 0 = x4 → gB x5 0 1 → tr_RRow_sets x4 x5 → x5.toInt = 0 → fI (F_2 x3) 5 = x6 → gB x7 0 1 → tr_RRow_usesA x4 x6 x7 → x7.toInt = 0 → fI (F_2 x3) 6 = x8 → gB x9 0 1 → tr_RRow_usesB x4 x8 x9 → x9.toInt ≠ 0 → fR (F_2 q0) 5 = (γ 9 5) → fI (F_2 x3) 3 = x10 → F_2 (γ 9 5) = .inl (I .int, 2000, .inl x11) → x12 = x11 x10.toNatClampNeg → x13 = x12 + l3_2 → x14 = upd x11 x10.toNatClampNeg x13 → (∀ b, b ≠ (γ 9 5) → x15 b = F_2 b) → x15 (γ 9 5) = .inl (I .int, 2000, .inl x14) → x16.toInt = l5_2.toInt + 1 → R x15 x16 k e1 → R F_2 l5_2 k e1) →
  (∀ (F_2 : Nat → va_E) (l5_2 : Int32) (x1 : Nat) (x2 : Int32) (x3 : Nat) (x4 : Int32) (x5 : Int32) (x6 : Int32) (x7 : Int32) (x8 : Int32) (x9 : Nat → Int32) (x10 : Int32) (x11 : Int32) (x12 : Nat → Int32) (x13 : Nat → va_E) (x14 : Int32) (x15 : Int32) (x16 : Int32) (k : Nat) (e1 : Nat → va_E), gB l5_2 0 1000001 → RS D I P F_2 γ el → rStr γ [] F F_2 → (F_2 q0 = F q0) → (F_2 (γ 9 3) = F (γ 9 3)) → fR (F_2 c1) 0 = x1 → x2.toInt = (γ 2 x1 : Int) → fI (F_2 x1) 2 = x2 → l5_2.toInt ≤ x2.toInt → x2.toInt = (γ 2 x1 : Int) → x2.toInt ≤ l5_2.toInt → fR (F_2 c1) 1 = x3 → fI (F_2 x3) 0 = x4 → gB x5 0 1 → tr_RRow_sets x4 x5 → x5.toInt = 0 → fI (F_2 x3) 5 = x6 → gB x7 0 1 → tr_RRow_usesA x4 x6 x7 → x7.toInt ≠ 0 → fR (F_2 q0) 5 = (γ 9 5) → fI (F_2 x3) 2 = x8 → F_2 (γ 9 5) = .inl (I .int, 2000, .inl x9) → x10 = x9 x8.toNatClampNeg → x11 = x10 + l3_2 → x12 = upd x9 x8.toNatClampNeg x11 → (∀ b, b ≠ (γ 9 5) → x13 b = F_2 b) → x13 (γ 9 5) = .inl (I .int, 2000, .inl x12) → fI (x13 x3) 0 = x4 → fI (x13 x3) 6 = x14 → gB x15 0 1 → tr_RRow_usesB x4 x14 x15 → x15.toInt = 0 → x16.toInt = l5_2.toInt + 1 → R x13 x16 k e1 → R F_2 l5_2 k e1) →
  (∀ (F_2 : Nat → va_E) (l5_2 : Int32) (x1 : Nat) (x2 : Int32) (x3 : Nat) (x4 : Int32) (x5 : Int32) (x6 : Int32) (x7 : Int32) (x8 : Int32) (x9 : Nat → Int32) (x10 : Int32) (x11 : Int32) (x12 : Nat → Int32) (x13 : Nat → va_E) (x14 : Int32) (x15 : Int32) (x16 : Int32) (x17 : Int32) (x18 : Int32) (x19 : Nat → Int32) (x20 : Nat → va_E) (x21 : Int32) (k : Nat) (e1 : Nat → va_E), gB l5_2 0 1000001 → RS D I P F_2 γ el → rStr γ [] F F_2 → (F_2 q0 = F q0) → (F_2 (γ 9 3) = F (γ 9 3)) → fR (F_2 c1) 0 = x1 → x2.toInt = (γ 2 x1 : Int) → fI (F_2 x1) 2 = x2 → l5_2.toInt ≤ x2.toInt → x2.toInt = (γ 2 x1 : Int) → x2.toInt ≤ l5_2.toInt → fR (F_2 c1) 1 = x3 → fI (F_2 x3) 0 = x4 → gB x5 0 1 → tr_RRow_sets x4 x5 → x5.toInt = 0 → fI (F_2 x3) 5 = x6 → gB x7 0 1 → tr_RRow_usesA x4 x6 x7 → x7.toInt ≠ 0 → fR (F_2 q0) 5 = (γ 9 5) → fI (F_2 x3) 2 = x8 → F_2 (γ 9 5) = .inl (I .int, 2000, .inl x9) → x10 = x9 x8.toNatClampNeg → x11 = x10 + l3_2 → x12 = upd x9 x8.toNatClampNeg x11 → (∀ b, b ≠ (γ 9 5) → x13 b = F_2 b) → x13 (γ 9 5) = .inl (I .int, 2000, .inl x12) → fI (x13 x3) 0 = x4 → fI (x13 x3) 6 = x14 → gB x15 0 1 → tr_RRow_usesB x4 x14 x15 → x15.toInt ≠ 0 → fR (x13 q0) 5 = (γ 9 5) → fI (x13 x3) 3 = x16 → x13 (γ 9 5) = .inl (I .int, 2000, .inl x12) → x17 = x12 x16.toNatClampNeg → x18 = x17 + l3_2 → x19 = upd x12 x16.toNatClampNeg x18 → (∀ b, b ≠ (γ 9 5) → x20 b = x13 b) → x20 (γ 9 5) = .inl (I .int, 2000, .inl x19) → x21.toInt = l5_2.toInt + 1 → R x20 x21 k e1 → R F_2 l5_2 k e1) →
  (∀ (F_2 : Nat → va_E) (l5_2 : Int32) (x1 : Nat) (x2 : Int32) (x3 : Nat) (x4 : Int32) (x5 : Int32) (x6 : Int32) (x7 : Nat → Int32) (x8 : Int32) (x9 : Int32) (x10 : Nat → Int32) (x11 : Nat → va_E) (x12 : Int32) (x13 : Int32) (x14 : Int32) (x15 : Int32) (x16 : Int32) (k : Nat) (e1 : Nat → va_E), gB l5_2 0 1000001 → RS D I P F_2 γ el → rStr γ [] F F_2 → (F_2 q0 = F q0) → (F_2 (γ 9 3) = F (γ 9 3)) → fR (F_2 c1) 0 = x1 → x2.toInt = (γ 2 x1 : Int) → fI (F_2 x1) 2 = x2 → l5_2.toInt ≤ x2.toInt → x2.toInt = (γ 2 x1 : Int) → x2.toInt ≤ l5_2.toInt → fR (F_2 c1) 1 = x3 → fI (F_2 x3) 0 = x4 → gB x5 0 1 → tr_RRow_sets x4 x5 → x5.toInt ≠ 0 → fR (F_2 q0) 5 = (γ 9 5) → fI (F_2 x3) 1 = x6 → F_2 (γ 9 5) = .inl (I .int, 2000, .inl x7) → x8 = x7 x6.toNatClampNeg → x9 = x8 + l3_2 → x10 = upd x7 x6.toNatClampNeg x9 → (∀ b, b ≠ (γ 9 5) → x11 b = F_2 b) → x11 (γ 9 5) = .inl (I .int, 2000, .inl x10) → fI (x11 x3) 0 = x4 → fI (x11 x3) 5 = x12 → gB x13 0 1 → tr_RRow_usesA x4 x12 x13 → x13.toInt = 0 → fI (x11 x3) 6 = x14 → gB x15 0 1 → tr_RRow_usesB x4 x14 x15 → x15.toInt = 0 → x16.toInt = l5_2.toInt + 1 → R x11 x16 k e1 → R F_2 l5_2 k e1) →
  (∀ (F_2 : Nat → va_E) (l5_2 : Int32) (x1 : Nat) (x2 : Int32) (x3 : Nat) (x4 : Int32) (x5 : Int32) (x6 : Int32) (x7 : Nat → Int32) (x8 : Int32) (x9 : Int32) (x10 : Nat → Int32) (x11 : Nat → va_E) (x12 : Int32) (x13 : Int32) (x14 : Int32) (x15 : Int32) (x16 : Int32) (x17 : Int32) (x18 : Int32) (x19 : Nat → Int32) (x20 : Nat → va_E) (x21 : Int32) (k : Nat) (e1 : Nat → va_E), gB l5_2 0 1000001 → RS D I P F_2 γ el → rStr γ [] F F_2 → (F_2 q0 = F q0) → (F_2 (γ 9 3) = F (γ 9 3)) → fR (F_2 c1) 0 = x1 → x2.toInt = (γ 2 x1 : Int) → fI (F_2 x1) 2 = x2 → l5_2.toInt ≤ x2.toInt → x2.toInt = (γ 2 x1 : Int) → x2.toInt ≤ l5_2.toInt → fR (F_2 c1) 1 = x3 → fI (F_2 x3) 0 = x4 → gB x5 0 1 → tr_RRow_sets x4 x5 → x5.toInt ≠ 0 → fR (F_2 q0) 5 = (γ 9 5) → fI (F_2 x3) 1 = x6 → F_2 (γ 9 5) = .inl (I .int, 2000, .inl x7) → x8 = x7 x6.toNatClampNeg → x9 = x8 + l3_2 → x10 = upd x7 x6.toNatClampNeg x9 → (∀ b, b ≠ (γ 9 5) → x11 b = F_2 b) → x11 (γ 9 5) = .inl (I .int, 2000, .inl x10) → fI (x11 x3) 0 = x4 → fI (x11 x3) 5 = x12 → gB x13 0 1 → tr_RRow_usesA x4 x12 x13 → x13.toInt = 0 → fI (x11 x3) 6 = x14 → gB x15 0 1 → tr_RRow_usesB x4 x14 x15 → x15.toInt ≠ 0 → fR (x11 q0) 5 = (γ 9 5) → fI (x11 x3) 3 = x16 → x11 (γ 9 5) = .inl (I .int, 2000, .inl x10) → x17 = x10 x16.toNatClampNeg → x18 = x17 + l3_2 → x19 = upd x10 x16.toNatClampNeg x18 → (∀ b, b ≠ (γ 9 5) → x20 b = x11 b) → x20 (γ 9 5) = .inl (I .int, 2000, .inl x19) → x21.toInt = l5_2.toInt + 1 → R x20 x21 k e1 → R F_2 l5_2 k e1) →
  (∀ (F_2 : Nat → va_E) (l5_2 : Int32) (x1 : Nat) (x2 : Int32) (x3 : Nat) (x4 : Int32) (x5 : Int32) (x6 : Int32) (x7 : Nat → Int32) (x8 : Int32) (x9 : Int32) (x10 : Nat → Int32) (x11 : Nat → va_E) (x12 : Int32) (x13 : Int32) (x14 : Int32) (x15 : Int32) (x16 : Int32) (x17 : Nat → Int32) (x18 : Nat → va_E) (x19 : Int32) (x20 : Int32) (x21 : Int32) (k : Nat) (e1 : Nat → va_E), gB l5_2 0 1000001 → RS D I P F_2 γ el → rStr γ [] F F_2 → (F_2 q0 = F q0) → (F_2 (γ 9 3) = F (γ 9 3)) → fR (F_2 c1) 0 = x1 → x2.toInt = (γ 2 x1 : Int) → fI (F_2 x1) 2 = x2 → l5_2.toInt ≤ x2.toInt → x2.toInt = (γ 2 x1 : Int) → x2.toInt ≤ l5_2.toInt → fR (F_2 c1) 1 = x3 → fI (F_2 x3) 0 = x4 → gB x5 0 1 → tr_RRow_sets x4 x5 → x5.toInt ≠ 0 → fR (F_2 q0) 5 = (γ 9 5) → fI (F_2 x3) 1 = x6 → F_2 (γ 9 5) = .inl (I .int, 2000, .inl x7) → x8 = x7 x6.toNatClampNeg → x9 = x8 + l3_2 → x10 = upd x7 x6.toNatClampNeg x9 → (∀ b, b ≠ (γ 9 5) → x11 b = F_2 b) → x11 (γ 9 5) = .inl (I .int, 2000, .inl x10) → fI (x11 x3) 0 = x4 → fI (x11 x3) 5 = x12 → gB x13 0 1 → tr_RRow_usesA x4 x12 x13 → x13.toInt ≠ 0 → fR (x11 q0) 5 = (γ 9 5) → fI (x11 x3) 2 = x14 → x11 (γ 9 5) = .inl (I .int, 2000, .inl x10) → x15 = x10 x14.toNatClampNeg → x16 = x15 + l3_2 → x17 = upd x10 x14.toNatClampNeg x16 → (∀ b, b ≠ (γ 9 5) → x18 b = x11 b) → x18 (γ 9 5) = .inl (I .int, 2000, .inl x17) → fI (x18 x3) 0 = x4 → fI (x18 x3) 6 = x19 → gB x20 0 1 → tr_RRow_usesB x4 x19 x20 → x20.toInt = 0 → x21.toInt = l5_2.toInt + 1 → R x18 x21 k e1 → R F_2 l5_2 k e1) →
  (∀ (F_2 : Nat → va_E) (l5_2 : Int32) (x1 : Nat) (x2 : Int32) (x3 : Nat) (x4 : Int32) (x5 : Int32) (x6 : Int32) (x7 : Nat → Int32) (x8 : Int32) (x9 : Int32) (x10 : Nat → Int32) (x11 : Nat → va_E) (x12 : Int32) (x13 : Int32) (x14 : Int32) (x15 : Int32) (x16 : Int32) (x17 : Nat → Int32) (x18 : Nat → va_E) (x19 : Int32) (x20 : Int32) (x21 : Int32) (x22 : Int32) (x23 : Int32) (x24 : Nat → Int32) (x25 : Nat → va_E) (x26 : Int32) (k : Nat) (e1 : Nat → va_E), gB l5_2 0 1000001 → RS D I P F_2 γ el → rStr γ [] F F_2 → (F_2 q0 = F q0) → (F_2 (γ 9 3) = F (γ 9 3)) → fR (F_2 c1) 0 = x1 → x2.toInt = (γ 2 x1 : Int) → fI (F_2 x1) 2 = x2 → l5_2.toInt ≤ x2.toInt → x2.toInt = (γ 2 x1 : Int) → x2.toInt ≤ l5_2.toInt → fR (F_2 c1) 1 = x3 → fI (F_2 x3) 0 = x4 → gB x5 0 1 → tr_RRow_sets x4 x5 → x5.toInt ≠ 0 → fR (F_2 q0) 5 = (γ 9 5) → fI (F_2 x3) 1 = x6 → F_2 (γ 9 5) = .inl (I .int, 2000, .inl x7) → x8 = x7 x6.toNatClampNeg → x9 = x8 + l3_2 → x10 = upd x7 x6.toNatClampNeg x9 → (∀ b, b ≠ (γ 9 5) → x11 b = F_2 b) → x11 (γ 9 5) = .inl (I .int, 2000, .inl x10) → fI (x11 x3) 0 = x4 → fI (x11 x3) 5 = x12 → gB x13 0 1 → tr_RRow_usesA x4 x12 x13 → x13.toInt ≠ 0 → fR (x11 q0) 5 = (γ 9 5) → fI (x11 x3) 2 = x14 → x11 (γ 9 5) = .inl (I .int, 2000, .inl x10) → x15 = x10 x14.toNatClampNeg → x16 = x15 + l3_2 → x17 = upd x10 x14.toNatClampNeg x16 → (∀ b, b ≠ (γ 9 5) → x18 b = x11 b) → x18 (γ 9 5) = .inl (I .int, 2000, .inl x17) → fI (x18 x3) 0 = x4 → fI (x18 x3) 6 = x19 → gB x20 0 1 → tr_RRow_usesB x4 x19 x20 → x20.toInt ≠ 0 → fR (x18 q0) 5 = (γ 9 5) → fI (x18 x3) 3 = x21 → x18 (γ 9 5) = .inl (I .int, 2000, .inl x17) → x22 = x17 x21.toNatClampNeg → x23 = x22 + l3_2 → x24 = upd x17 x21.toNatClampNeg x23 → (∀ b, b ≠ (γ 9 5) → x25 b = x18 b) → x25 (γ 9 5) = .inl (I .int, 2000, .inl x24) → x26.toInt = l5_2.toInt + 1 → R x25 x26 k e1 → R F_2 l5_2 k e1) →
  (∀ (F_2 : Nat → va_E) (l5_2 : Int32) (x1 : Nat) (x2 : Int32) (x3 : Nat) (x4 : Int32) (x5 : Int32) (x6 : Int32) (x7 : Int32) (x8 : Int32) (x9 : Int32) (x10 : Int32) (k : Nat) (e1 : Nat → va_E), gB l5_2 0 1000001 → RS D I P F_2 γ el → rStr γ [] F F_2 → (F_2 q0 = F q0) → (F_2 (γ 9 3) = F (γ 9 3)) → fR (F_2 c1) 0 = x1 → x2.toInt = (γ 2 x1 : Int) → fI (F_2 x1) 2 = x2 → l5_2.toInt ≤ x2.toInt → x2.toInt = (γ 2 x1 : Int) → l5_2.toInt < x2.toInt → x3 = el x1 l5_2.toInt.toNat → tr_RArrayList_get l5_2 x2 → fI (F_2 x3) 0 = x4 → gB x5 0 1 → tr_RRow_sets x4 x5 → x5.toInt = 0 → fI (F_2 x3) 5 = x6 → gB x7 0 1 → tr_RRow_usesA x4 x6 x7 → x7.toInt = 0 → fI (F_2 x3) 6 = x8 → gB x9 0 1 → tr_RRow_usesB x4 x8 x9 → x9.toInt = 0 → x10.toInt = l5_2.toInt + 1 → R F_2 x10 k e1 → R F_2 l5_2 k e1) →
  (∀ (F_2 : Nat → va_E) (l5_2 : Int32) (x1 : Nat) (x2 : Int32) (x3 : Nat) (x4 : Int32) (x5 : Int32) (x6 : Int32) (x7 : Int32) (x8 : Int32) (x9 : Int32) (x10 : Int32) (x11 : Nat → Int32) (x12 : Int32) (x13 : Int32) (x14 : Nat → Int32) (x15 : Nat → va_E) (x16 : Int32) (k : Nat) (e1 : Nat → va_E), gB l5_2 0 1000001 → RS D I P F_2 γ el → rStr γ [] F F_2 → (F_2 q0 = F q0) → (F_2 (γ 9 3) = F (γ 9 3)) → fR (F_2 c1) 0 = x1 → x2.toInt = (γ 2 x1 : Int) → fI (F_2 x1) 2 = x2 → l5_2.toInt ≤ x2.toInt → x2.toInt = (γ 2 x1 : Int) → l5_2.toInt < x2.toInt → x3 = el x1 l5_2.toInt.toNat → tr_RArrayList_get l5_2 x2 → fI (F_2 x3) 0 = x4 → gB x5 0 1 → tr_RRow_sets x4 x5 → x5.toInt = 0 → fI (F_2 x3) 5 = x6 → gB x7 0 1 → tr_RRow_usesA x4 x6 x7 → x7.toInt = 0 → fI (F_2 x3) 6 = x8 → gB x9 0 1 → tr_RRow_usesB x4 x8 x9 → x9.toInt ≠ 0 → fR (F_2 q0) 5 = (γ 9 5) → fI (F_2 x3) 3 = x10 → F_2 (γ 9 5) = .inl (I .int, 2000, .inl x11) → x12 = x11 x10.toNatClampNeg → x13 = x12 + l3_2 → x14 = upd x11 x10.toNatClampNeg x13 → (∀ b, b ≠ (γ 9 5) → x15 b = F_2 b) → x15 (γ 9 5) = .inl (I .int, 2000, .inl x14) → x16.toInt = l5_2.toInt + 1 → R x15 x16 k e1 → R F_2 l5_2 k e1) →
  (∀ (F_2 : Nat → va_E) (l5_2 : Int32) (x1 : Nat) (x2 : Int32) (x3 : Nat) (x4 : Int32) (x5 : Int32) (x6 : Int32) (x7 : Int32) (x8 : Int32) (x9 : Nat → Int32) (x10 : Int32) (x11 : Int32) (x12 : Nat → Int32) (x13 : Nat → va_E) (x14 : Int32) (x15 : Int32) (x16 : Int32) (k : Nat) (e1 : Nat → va_E), gB l5_2 0 1000001 → RS D I P F_2 γ el → rStr γ [] F F_2 → (F_2 q0 = F q0) → (F_2 (γ 9 3) = F (γ 9 3)) → fR (F_2 c1) 0 = x1 → x2.toInt = (γ 2 x1 : Int) → fI (F_2 x1) 2 = x2 → l5_2.toInt ≤ x2.toInt → x2.toInt = (γ 2 x1 : Int) → l5_2.toInt < x2.toInt → x3 = el x1 l5_2.toInt.toNat → tr_RArrayList_get l5_2 x2 → fI (F_2 x3) 0 = x4 → gB x5 0 1 → tr_RRow_sets x4 x5 → x5.toInt = 0 → fI (F_2 x3) 5 = x6 → gB x7 0 1 → tr_RRow_usesA x4 x6 x7 → x7.toInt ≠ 0 → fR (F_2 q0) 5 = (γ 9 5) → fI (F_2 x3) 2 = x8 → F_2 (γ 9 5) = .inl (I .int, 2000, .inl x9) → x10 = x9 x8.toNatClampNeg → x11 = x10 + l3_2 → x12 = upd x9 x8.toNatClampNeg x11 → (∀ b, b ≠ (γ 9 5) → x13 b = F_2 b) → x13 (γ 9 5) = .inl (I .int, 2000, .inl x12) → fI (x13 x3) 0 = x4 → fI (x13 x3) 6 = x14 → gB x15 0 1 → tr_RRow_usesB x4 x14 x15 → x15.toInt = 0 → x16.toInt = l5_2.toInt + 1 → R x13 x16 k e1 → R F_2 l5_2 k e1) →
  (∀ (F_2 : Nat → va_E) (l5_2 : Int32) (x1 : Nat) (x2 : Int32) (x3 : Nat) (x4 : Int32) (x5 : Int32) (x6 : Int32) (x7 : Int32) (x8 : Int32) (x9 : Nat → Int32) (x10 : Int32) (x11 : Int32) (x12 : Nat → Int32) (x13 : Nat → va_E) (x14 : Int32) (x15 : Int32) (x16 : Int32) (x17 : Int32) (x18 : Int32) (x19 : Nat → Int32) (x20 : Nat → va_E) (x21 : Int32) (k : Nat) (e1 : Nat → va_E), gB l5_2 0 1000001 → RS D I P F_2 γ el → rStr γ [] F F_2 → (F_2 q0 = F q0) → (F_2 (γ 9 3) = F (γ 9 3)) → fR (F_2 c1) 0 = x1 → x2.toInt = (γ 2 x1 : Int) → fI (F_2 x1) 2 = x2 → l5_2.toInt ≤ x2.toInt → x2.toInt = (γ 2 x1 : Int) → l5_2.toInt < x2.toInt → x3 = el x1 l5_2.toInt.toNat → tr_RArrayList_get l5_2 x2 → fI (F_2 x3) 0 = x4 → gB x5 0 1 → tr_RRow_sets x4 x5 → x5.toInt = 0 → fI (F_2 x3) 5 = x6 → gB x7 0 1 → tr_RRow_usesA x4 x6 x7 → x7.toInt ≠ 0 → fR (F_2 q0) 5 = (γ 9 5) → fI (F_2 x3) 2 = x8 → F_2 (γ 9 5) = .inl (I .int, 2000, .inl x9) → x10 = x9 x8.toNatClampNeg → x11 = x10 + l3_2 → x12 = upd x9 x8.toNatClampNeg x11 → (∀ b, b ≠ (γ 9 5) → x13 b = F_2 b) → x13 (γ 9 5) = .inl (I .int, 2000, .inl x12) → fI (x13 x3) 0 = x4 → fI (x13 x3) 6 = x14 → gB x15 0 1 → tr_RRow_usesB x4 x14 x15 → x15.toInt ≠ 0 → fR (x13 q0) 5 = (γ 9 5) → fI (x13 x3) 3 = x16 → x13 (γ 9 5) = .inl (I .int, 2000, .inl x12) → x17 = x12 x16.toNatClampNeg → x18 = x17 + l3_2 → x19 = upd x12 x16.toNatClampNeg x18 → (∀ b, b ≠ (γ 9 5) → x20 b = x13 b) → x20 (γ 9 5) = .inl (I .int, 2000, .inl x19) → x21.toInt = l5_2.toInt + 1 → R x20 x21 k e1 → R F_2 l5_2 k e1) →
  (∀ (F_2 : Nat → va_E) (l5_2 : Int32) (x1 : Nat) (x2 : Int32) (x3 : Nat) (x4 : Int32) (x5 : Int32) (x6 : Int32) (x7 : Nat → Int32) (x8 : Int32) (x9 : Int32) (x10 : Nat → Int32) (x11 : Nat → va_E) (x12 : Int32) (x13 : Int32) (x14 : Int32) (x15 : Int32) (x16 : Int32) (k : Nat) (e1 : Nat → va_E), gB l5_2 0 1000001 → RS D I P F_2 γ el → rStr γ [] F F_2 → (F_2 q0 = F q0) → (F_2 (γ 9 3) = F (γ 9 3)) → fR (F_2 c1) 0 = x1 → x2.toInt = (γ 2 x1 : Int) → fI (F_2 x1) 2 = x2 → l5_2.toInt ≤ x2.toInt → x2.toInt = (γ 2 x1 : Int) → l5_2.toInt < x2.toInt → x3 = el x1 l5_2.toInt.toNat → tr_RArrayList_get l5_2 x2 → fI (F_2 x3) 0 = x4 → gB x5 0 1 → tr_RRow_sets x4 x5 → x5.toInt ≠ 0 → fR (F_2 q0) 5 = (γ 9 5) → fI (F_2 x3) 1 = x6 → F_2 (γ 9 5) = .inl (I .int, 2000, .inl x7) → x8 = x7 x6.toNatClampNeg → x9 = x8 + l3_2 → x10 = upd x7 x6.toNatClampNeg x9 → (∀ b, b ≠ (γ 9 5) → x11 b = F_2 b) → x11 (γ 9 5) = .inl (I .int, 2000, .inl x10) → fI (x11 x3) 0 = x4 → fI (x11 x3) 5 = x12 → gB x13 0 1 → tr_RRow_usesA x4 x12 x13 → x13.toInt = 0 → fI (x11 x3) 6 = x14 → gB x15 0 1 → tr_RRow_usesB x4 x14 x15 → x15.toInt = 0 → x16.toInt = l5_2.toInt + 1 → R x11 x16 k e1 → R F_2 l5_2 k e1) →
  (∀ (F_2 : Nat → va_E) (l5_2 : Int32) (x1 : Nat) (x2 : Int32) (x3 : Nat) (x4 : Int32) (x5 : Int32) (x6 : Int32) (x7 : Nat → Int32) (x8 : Int32) (x9 : Int32) (x10 : Nat → Int32) (x11 : Nat → va_E) (x12 : Int32) (x13 : Int32) (x14 : Int32) (x15 : Int32) (x16 : Int32) (x17 : Int32) (x18 : Int32) (x19 : Nat → Int32) (x20 : Nat → va_E) (x21 : Int32) (k : Nat) (e1 : Nat → va_E), gB l5_2 0 1000001 → RS D I P F_2 γ el → rStr γ [] F F_2 → (F_2 q0 = F q0) → (F_2 (γ 9 3) = F (γ 9 3)) → fR (F_2 c1) 0 = x1 → x2.toInt = (γ 2 x1 : Int) → fI (F_2 x1) 2 = x2 → l5_2.toInt ≤ x2.toInt → x2.toInt = (γ 2 x1 : Int) → l5_2.toInt < x2.toInt → x3 = el x1 l5_2.toInt.toNat → tr_RArrayList_get l5_2 x2 → fI (F_2 x3) 0 = x4 → gB x5 0 1 → tr_RRow_sets x4 x5 → x5.toInt ≠ 0 → fR (F_2 q0) 5 = (γ 9 5) → fI (F_2 x3) 1 = x6 → F_2 (γ 9 5) = .inl (I .int, 2000, .inl x7) → x8 = x7 x6.toNatClampNeg → x9 = x8 + l3_2 → x10 = upd x7 x6.toNatClampNeg x9 → (∀ b, b ≠ (γ 9 5) → x11 b = F_2 b) → x11 (γ 9 5) = .inl (I .int, 2000, .inl x10) → fI (x11 x3) 0 = x4 → fI (x11 x3) 5 = x12 → gB x13 0 1 → tr_RRow_usesA x4 x12 x13 → x13.toInt = 0 → fI (x11 x3) 6 = x14 → gB x15 0 1 → tr_RRow_usesB x4 x14 x15 → x15.toInt ≠ 0 → fR (x11 q0) 5 = (γ 9 5) → fI (x11 x3) 3 = x16 → x11 (γ 9 5) = .inl (I .int, 2000, .inl x10) → x17 = x10 x16.toNatClampNeg → x18 = x17 + l3_2 → x19 = upd x10 x16.toNatClampNeg x18 → (∀ b, b ≠ (γ 9 5) → x20 b = x11 b) → x20 (γ 9 5) = .inl (I .int, 2000, .inl x19) → x21.toInt = l5_2.toInt + 1 → R x20 x21 k e1 → R F_2 l5_2 k e1) →
  (∀ (F_2 : Nat → va_E) (l5_2 : Int32) (x1 : Nat) (x2 : Int32) (x3 : Nat) (x4 : Int32) (x5 : Int32) (x6 : Int32) (x7 : Nat → Int32) (x8 : Int32) (x9 : Int32) (x10 : Nat → Int32) (x11 : Nat → va_E) (x12 : Int32) (x13 : Int32) (x14 : Int32) (x15 : Int32) (x16 : Int32) (x17 : Nat → Int32) (x18 : Nat → va_E) (x19 : Int32) (x20 : Int32) (x21 : Int32) (k : Nat) (e1 : Nat → va_E), gB l5_2 0 1000001 → RS D I P F_2 γ el → rStr γ [] F F_2 → (F_2 q0 = F q0) → (F_2 (γ 9 3) = F (γ 9 3)) → fR (F_2 c1) 0 = x1 → x2.toInt = (γ 2 x1 : Int) → fI (F_2 x1) 2 = x2 → l5_2.toInt ≤ x2.toInt → x2.toInt = (γ 2 x1 : Int) → l5_2.toInt < x2.toInt → x3 = el x1 l5_2.toInt.toNat → tr_RArrayList_get l5_2 x2 → fI (F_2 x3) 0 = x4 → gB x5 0 1 → tr_RRow_sets x4 x5 → x5.toInt ≠ 0 → fR (F_2 q0) 5 = (γ 9 5) → fI (F_2 x3) 1 = x6 → F_2 (γ 9 5) = .inl (I .int, 2000, .inl x7) → x8 = x7 x6.toNatClampNeg → x9 = x8 + l3_2 → x10 = upd x7 x6.toNatClampNeg x9 → (∀ b, b ≠ (γ 9 5) → x11 b = F_2 b) → x11 (γ 9 5) = .inl (I .int, 2000, .inl x10) → fI (x11 x3) 0 = x4 → fI (x11 x3) 5 = x12 → gB x13 0 1 → tr_RRow_usesA x4 x12 x13 → x13.toInt ≠ 0 → fR (x11 q0) 5 = (γ 9 5) → fI (x11 x3) 2 = x14 → x11 (γ 9 5) = .inl (I .int, 2000, .inl x10) → x15 = x10 x14.toNatClampNeg → x16 = x15 + l3_2 → x17 = upd x10 x14.toNatClampNeg x16 → (∀ b, b ≠ (γ 9 5) → x18 b = x11 b) → x18 (γ 9 5) = .inl (I .int, 2000, .inl x17) → fI (x18 x3) 0 = x4 → fI (x18 x3) 6 = x19 → gB x20 0 1 → tr_RRow_usesB x4 x19 x20 → x20.toInt = 0 → x21.toInt = l5_2.toInt + 1 → R x18 x21 k e1 → R F_2 l5_2 k e1) →
  (∀ (F_2 : Nat → va_E) (l5_2 : Int32) (x1 : Nat) (x2 : Int32) (x3 : Nat) (x4 : Int32) (x5 : Int32) (x6 : Int32) (x7 : Nat → Int32) (x8 : Int32) (x9 : Int32) (x10 : Nat → Int32) (x11 : Nat → va_E) (x12 : Int32) (x13 : Int32) (x14 : Int32) (x15 : Int32) (x16 : Int32) (x17 : Nat → Int32) (x18 : Nat → va_E) (x19 : Int32) (x20 : Int32) (x21 : Int32) (x22 : Int32) (x23 : Int32) (x24 : Nat → Int32) (x25 : Nat → va_E) (x26 : Int32) (k : Nat) (e1 : Nat → va_E), gB l5_2 0 1000001 → RS D I P F_2 γ el → rStr γ [] F F_2 → (F_2 q0 = F q0) → (F_2 (γ 9 3) = F (γ 9 3)) → fR (F_2 c1) 0 = x1 → x2.toInt = (γ 2 x1 : Int) → fI (F_2 x1) 2 = x2 → l5_2.toInt ≤ x2.toInt → x2.toInt = (γ 2 x1 : Int) → l5_2.toInt < x2.toInt → x3 = el x1 l5_2.toInt.toNat → tr_RArrayList_get l5_2 x2 → fI (F_2 x3) 0 = x4 → gB x5 0 1 → tr_RRow_sets x4 x5 → x5.toInt ≠ 0 → fR (F_2 q0) 5 = (γ 9 5) → fI (F_2 x3) 1 = x6 → F_2 (γ 9 5) = .inl (I .int, 2000, .inl x7) → x8 = x7 x6.toNatClampNeg → x9 = x8 + l3_2 → x10 = upd x7 x6.toNatClampNeg x9 → (∀ b, b ≠ (γ 9 5) → x11 b = F_2 b) → x11 (γ 9 5) = .inl (I .int, 2000, .inl x10) → fI (x11 x3) 0 = x4 → fI (x11 x3) 5 = x12 → gB x13 0 1 → tr_RRow_usesA x4 x12 x13 → x13.toInt ≠ 0 → fR (x11 q0) 5 = (γ 9 5) → fI (x11 x3) 2 = x14 → x11 (γ 9 5) = .inl (I .int, 2000, .inl x10) → x15 = x10 x14.toNatClampNeg → x16 = x15 + l3_2 → x17 = upd x10 x14.toNatClampNeg x16 → (∀ b, b ≠ (γ 9 5) → x18 b = x11 b) → x18 (γ 9 5) = .inl (I .int, 2000, .inl x17) → fI (x18 x3) 0 = x4 → fI (x18 x3) 6 = x19 → gB x20 0 1 → tr_RRow_usesB x4 x19 x20 → x20.toInt ≠ 0 → fR (x18 q0) 5 = (γ 9 5) → fI (x18 x3) 3 = x21 → x18 (γ 9 5) = .inl (I .int, 2000, .inl x17) → x22 = x17 x21.toNatClampNeg → x23 = x22 + l3_2 → x24 = upd x17 x21.toNatClampNeg x23 → (∀ b, b ≠ (γ 9 5) → x25 b = x18 b) → x25 (γ 9 5) = .inl (I .int, 2000, .inl x24) → x26.toInt = l5_2.toInt + 1 → R x25 x26 k e1 → R F_2 l5_2 k e1) →
  R s1 s2 k e1
/- tl_RModel_weigh_42: l4, l3; out: l3 -/
def tl_RModel_weigh_42 (D : va_G) (I : FieldType → ClassId) (γ el : Nat → Nat → Nat) (F_1 : Nat → va_E) (q0 : Nat) (l2_1 : Int32) (s1 : Int32) (s2 : Int32) (k : Nat) (e1 : Int32) : Prop := ∀ R : (Int32) → (Int32) → Nat → (Int32) → Prop,
  (∀ (l4_2 : Int32) (l3_2 : Int32) (x1 : Nat → Int32) (x2 : Int32), gB l4_2 0 2147483647 → fR (F_1 q0) 4 = (γ 9 4) → F_1 (γ 9 4) = .inl (I .int, 40, .inl x1) → x2 = x1 l2_1.toNatClampNeg → x2.toInt ≤ l4_2.toInt → R l4_2 l3_2 64 l3_2) →
  (∀ (l4_2 : Int32) (l3_2 : Int32) (x1 : Nat → Int32) (x2 : Int32) (x3 : Int32) (x4 : Int32) (k : Nat) (e1 : Int32), gB l4_2 0 2147483647 → fR (F_1 q0) 4 = (γ 9 4) → F_1 (γ 9 4) = .inl (I .int, 40, .inl x1) → x2 = x1 l2_1.toNatClampNeg → l4_2.toInt < x2.toInt → x3 = l3_2 * (10 : Int32) → x4.toInt = l4_2.toInt + 1 → R x4 x3 k e1 → R l4_2 l3_2 k e1) →
  R s1 s2 k e1
/- tl_RModel_weigh_29: F, l2; out: F -/
def tl_RModel_weigh_29 (D : va_G) (I : FieldType → ClassId) (γ el : Nat → Nat → Nat) (P : List Nat) (F : Nat → va_E) (q0 : Nat) (q1 : Nat) (s1 : Nat → va_E) (s2 : Int32) (k : Nat) (e1 : Nat → va_E) : Prop := ∀ R : (Nat → va_E) → (Int32) → Nat → (Nat → va_E) → Prop,
  (∀ (F_1 : Nat → va_E) (l2_1 : Int32) (x1 : Int32), gB l2_1 0 1000000 → RS D I P F_1 γ el → rStr γ [] F F_1 → (F_1 q0 = F q0) → (F_1 (γ 9 3) = F (γ 9 3)) → fI (F_1 q1) 3 = x1 → x1.toInt ≤ l2_1.toInt → R F_1 l2_1 201 F_1) →
  (∀ (F_1 : Nat → va_E) (l2_1 : Int32) (x1 : Int32) (x2 : Int32) (x3 : Nat) (x4 : Nat) (x5 : Int32) (x6 : Nat → va_E) (x7 : Int32) (k : Nat) (e1 : Nat → va_E), gB l2_1 0 1000000 → RS D I P F_1 γ el → rStr γ [] F F_1 → (F_1 q0 = F q0) → (F_1 (γ 9 3) = F (γ 9 3)) → fI (F_1 q1) 3 = x1 → l2_1.toInt < x1.toInt → tl_RModel_weigh_42 D I γ el F_1 q0 l2_1 (0 : Int32) (1 : Int32) 64 x2 → fR (F_1 q1) 0 = x3 → x4 = el x3 l2_1.toInt.toNat → fI (F_1 x3) 2 = x5 → tr_RCode_get l2_1 x5 → tl_RModel_weigh_74 D I γ el P F q0 x4 x2 F_1 (0 : Int32) 195 x6 → x7.toInt = l2_1.toInt + 1 → R x6 x7 k e1 → R F_1 l2_1 k e1) →
  R s1 s2 k e1
/- tl_RModel_weigh_7: F, l2; out: F -/
def tl_RModel_weigh_7 (D : va_G) (I : FieldType → ClassId) (γ el : Nat → Nat → Nat) (P : List Nat) (F : Nat → va_E) (q0 : Nat) (s1 : Nat → va_E) (s2 : Int32) (k : Nat) (e1 : Nat → va_E) : Prop := ∀ R : (Nat → va_E) → (Int32) → Nat → (Nat → va_E) → Prop,
  (∀ (F_1 : Nat → va_E) (l2_1 : Int32), gB l2_1 0 2000 → RS D I P F_1 γ el → rStr γ [] F F_1 → (F_1 q0 = F q0) → (F_1 (γ 9 3) = F (γ 9 3)) → 2000 ≤ l2_1.toInt → R F_1 l2_1 27 F_1) →
  (∀ (F_1 : Nat → va_E) (l2_1 : Int32) (x1 : Nat → Int32) (x2 : Nat → Int32) (x3 : Nat → va_E) (x4 : Int32) (k : Nat) (e1 : Nat → va_E), gB l2_1 0 2000 → RS D I P F_1 γ el → rStr γ [] F F_1 → (F_1 q0 = F q0) → (F_1 (γ 9 3) = F (γ 9 3)) → l2_1.toInt < 2000 → fR (F_1 q0) 5 = (γ 9 5) → F_1 (γ 9 5) = .inl (I .int, 2000, .inl x1) → x2 = upd x1 l2_1.toNatClampNeg 0 → (∀ b, b ≠ (γ 9 5) → x3 b = F_1 b) → x3 (γ 9 5) = .inl (I .int, 2000, .inl x2) → x4.toInt = l2_1.toInt + 1 → R x3 x4 k e1 → R F_1 l2_1 k e1) →
  R s1 s2 k e1
/- tr_RModel_weigh: F -/
def tr_RModel_weigh (D : va_G) (I : FieldType → ClassId) (γ el : Nat → Nat → Nat) (P : List Nat) (F : Nat → va_E) (q0 : Nat) (q1 : Nat) (o1 : Nat → va_E) : Prop := ∀ R : (Nat → va_E) → Prop,
  (∀ (x1 : Nat → va_E) (x2 : Nat → va_E) (x3 : Nat → va_E), RS D I P x1 γ el → rStr γ [] F x1 → (x1 q0 = F q0) → (x1 (γ 9 3) = F (γ 9 3)) → tr_RModel_findDepth2 D I γ el P F q0 q1 x1 → tl_RModel_weigh_7 D I γ el P F q0 x1 (0 : Int32) 27 x2 → tl_RModel_weigh_29 D I γ el P F q0 q1 x2 (0 : Int32) 201 x3 → R x3) →
  R o1
