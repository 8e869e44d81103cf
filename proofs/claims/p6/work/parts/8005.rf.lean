abbrev ky_410281_SpillForgeModel_findDepth : gKey := (cX17_findDepth, 13, "SpillForgeModel", none, [], "findDepth", fun _ _ => True)
def pt_410281_SpillForgeModel_findDepth (D : va_G) (I : FieldType → ClassId) (γ el : Nat → Nat → Nat) (P410276 : List Nat) (F410277 : Nat → va_E) (q410278 : Nat) (q410279 : Nat) : Option Value → va_W → Nat → Nat → Prop := fun r w dc ds => ∃ (F536416 : Nat → va_E), r = none ∧ w = va_pl P410276 F536416 ∧ RS D I P410276 F536416 γ el ∧ rStr γ [] F410277 F536416 ∧ dc ≤ 0 ∧ ds ≤ 0 ∧ (F536416 q410278 = F410277 q410278) ∧ (F536416 (γ 9 3) = F410277 (γ 9 3)) ∧ tr_RModel_findDepth2 D I γ el P410276 F410277 q410278 q410279 F536416
set_option maxRecDepth 100000 in
set_option maxHeartbeats 4000000 in
theorem ct_410281_SpillForgeModel_findDepth (l : Launch) (hl0 : l.stackTraces = false) (D : va_G) (I : FieldType → ClassId) (γ el : Nat → Nat → Nat) (P410276 : List Nat) (F410277 : Nat → va_E) (q410278 : Nat) (q410279 : Nat) (hT : RS D I P410276 F410277 γ el) (htq410278 : rKd γ q410278 10) (htq410279 : rKd γ q410279 9) (x410280 : 0 < γ 6 (γ 1 q410279)) : CtA (gV D I) l yX17_findDepth cX17_findDepth 13 none 5 112 0 0 [.ref q410278, .ref q410279] (va_pl P410276 F410277) (pt_410281_SpillForgeModel_findDepth D I γ el P410276 F410277 q410278 q410279) gNA := by
  refine CtA_of hl0 (by decide) (Nat.le_of_ble_eq_true rfl) ?_
  have hm410282 : q410278 ∈ P410276 := RS_m hT htq410278 (by decide)
  refine rk10_e (show rk_10 γ (F410277 q410278) from RS_o hT htq410278) (fun q410284 q410285 p410286 p410287 p410288 p410289 p410290 p410291 p410292 p410293 p410294 p410295 p410296 p410297 p410298 p410299 p410300 he410283 hB410327 ht410301 ht410302 ht410303 ht410304 ht410305 ht410306 ht410307 ht410308 ht410309 ht410310 ht410311 ht410312 ht410313 ht410314 ht410315 ht410316 ht410317 ht410318 ht410319 ht410320 ht410321 ht410322 ht410323 ht410324 hB410328 => ?_)
  refine G_iconst 0 dr_cX17_findDepth_0 (by decide +kernel) ?_
  refine G_istore_n (L' := [(2, .int 0), (0, .ref q410278), (1, .ref q410279)]) dr_cX17_findDepth_1 (Nat.le_of_ble_eq_true rfl) rfl ?_
  have hlp2_530684 : ∀ (n2_530684 : Nat) (F530680 : Nat → va_E) (g530679 : Int32), gB g530679 0 1000000 → RS D I P410276 F530680 γ el → rStr γ [] F410277 F530680 → (F530680 q410278 = F410277 q410278) → (F530680 (γ 9 3) = F410277 (γ 9 3)) → (∀ (k : Nat) (e1 : Nat → va_E), tl_RModel_findDepth2_2 D I γ el P410276 F410277 q410278 q410279 F530680 g530679 k e1 → tl_RModel_findDepth2_2 D I γ el P410276 F410277 q410278 q410279 F410277 (0 : Int32) k e1) → ((1000001 : Int) - g530679.toInt).toNat < n2_530684 → G (gV D I) l (gRm 5 112 0 0) (gMA (gV D I) (pt_410281_SpillForgeModel_findDepth D I γ el P410276 F410277 q410278 q410279) gNA 0 0) ky_410281_SpillForgeModel_findDepth 2 [(2, .int g530679), (0, .ref q410278), (1, .ref q410279)] [] (va_pl P410276 F530680) 0 0 := by
    intro n2_530684
    induction n2_530684 with
    | zero => intro F530680 g530679 bg530679 hT530681 hs530682 x530683 x530684 kt2_530685 hm2_530684; exact absurd hm2_530684 (Nat.not_lt_zero _)
    | succ n2_530684 ih2_530684 =>
      intro F530680 g530679 bg530679 hT530681 hs530682 x530683 x530684 kt2_530685 hm2_530684
      have hs530686 : rStr γ [] F410277 F530680 := fun b h0 hb hw => (hs530682 b h0 hb hw).trans ((rStr_rf (γ := γ) (W := []) (F := F410277)) b h0 hb hw).symm
      have hs530687 : rStr γ [] F410277 F530680 := rStr_tr (rStr_rf (γ := γ) (W := []) (F := F410277)) hs530686
      have he530688 : F530680 q410278 = .inr (22, [.ref (γ 9 0), .ref (γ 9 1), .ref (γ 9 2), .ref (γ 9 3), .ref (γ 9 4), .ref (γ 9 5), .ref (γ 9 6), .ref (γ 9 7), .ref (γ 9 8), .int p410286, .int p410287, .int p410288, .int p410289, .int p410290, .int p410291, .ref (γ 9 15), .ref (γ 9 16), .ref (γ 9 17), .ref (γ 9 18), .ref (γ 9 19), .ref (γ 9 20), .ref (γ 9 21), .ref (γ 9 22), .int p410292, .int p410293, .int p410294, .int p410295, .int p410296, .ref q410284, .ref (γ 9 29), .int p410297, .ref (γ 9 31), .int p410298, .int p410299, .int p410300, .ref q410285]) := x530683.trans he410283
      have hm530689 : q410278 ∈ P410276 := RS_m hT530681 htq410278 (by decide)
      refine G_iload_n 0 dr_cX17_findDepth_2 rfl ?_
      refine G_aload_n 2 dr_cX17_findDepth_3 rfl ?_
      have hm530690 : q410279 ∈ P410276 := RS_m hT530681 htq410279 (by decide)
      obtain ⟨q530692, q530693, p530694, p530695, he530691, ht530711, ht530696, ht530697, ht530698, ht530699, r530700, r530701, r530702, r530703, r530704, r530705, r530706, r530707, r530708, r530709, r530710⟩ := show rk_9 γ el q410279 (F530680 q410279) from RS_o hT530681 htq410279
      have bp530694 : gB p530694 0 1000000 := ⟨by omega, by omega⟩
      have bp530695 : gB p530695 0 1000000 := ⟨by omega, by omega⟩
      have fq530712 : fI (F530680 q410279) 3 = p530695 := by rw [he530691]; rfl
      refine Gw_callV (As := []) (gV_ok D I) (cp_12780_Code_size l hl0 D I P410276 F530680 q410279 q530692 q530693 p530694 p530695 hm530690 he530691) dr_cX17_findDepth_4 ⟨wr_10_160, wr_1_15, wr_9_131, by decide, rfl, (Nat.le_of_ble_eq_true rfl), (Nat.le_of_ble_eq_true rfl)⟩ wr_9_129 wr_9_130 hm530690 he530691 rfl (show 0 + 0 ≤ 0 by first | omega | decide) (show 0 + 0 ≤ 0 by first | omega | decide) (Nat.le_of_ble_eq_true rfl) (fun r530716 w530717 dc530713 ds530714 hp530715 => ?_) (fun _ _ _ _ _ z => z.elim)
      obtain ⟨rfl, rfl, hdc, hds⟩ := hp530715
      change G _ _ _ _ _ _ _ (.int p530695 :: _) _ _ _
      refine G_widen (cs' := 0) (sl' := 0) (by omega) (by omega) ?_
      refine G_icmp_ge 23 dr_cX17_findDepth_7 (by decide +kernel) (fun hc530718 => ?_) (fun hc530718 => ?_)
      · have r530719 : p530695.toInt ≤ g530679.toInt := gC_le hc530718
        have hx530720 : tl_RModel_findDepth2_2 D I γ el P410276 F410277 q410278 q410279 F410277 (0 : Int32) 23 F530680 := kt2_530685 23 F530680 (fun R c1 c2 => c1 F530680 g530679 p530695 bg530679 hT530681 hs530682 x530683 x530684 fq530712 r530719)
        refine G_aload_n 2 dr_cX17_findDepth_23 rfl ?_
        refine G_iconst (-1) dr_cX17_findDepth_24 (by decide +kernel) ?_
        refine Gw_callS (As := [.ref q410279, .int (-1)]) (gV_ok D I) (ct_12748_SpillForgeModel_reached l hl0 D I γ el P410276 F530680 q410279 (-1) hT530681 htq410279 (by omega)) dr_cX17_findDepth_25 ⟨wr_11_41, wr_1_14, wr_11_43, by decide, rfl, (Nat.le_of_ble_eq_true rfl), (Nat.le_of_ble_eq_true rfl)⟩ wr_11_42 (show 0 + 0 ≤ 0 by first | omega | decide) (show 0 + 0 ≤ 0 by first | omega | decide) (Nat.le_of_ble_eq_true rfl) (fun r530724 w530725 dc530721 ds530722 hp530723 => ?_) (fun _ _ _ _ _ z => z.elim)
        obtain ⟨ol530726, rfl, rfl, hdc, hds, ht530727⟩ := hp530723
        change G _ _ _ _ _ _ _ (.long ol530726 :: _) _ _ _
        refine G_widen (cs' := 0) (sl' := 0) (by omega) (by omega) ?_
        refine G_lstore_n (L' := [(2, .long ol530726), (0, .ref q410278), (1, .ref q410279)]) dr_cX17_findDepth_28 (Nat.le_of_ble_eq_true rfl) rfl ?_
        refine G_iconst 0 dr_cX17_findDepth_29 (by decide +kernel) ?_
        refine G_istore (L' := [(4, .int 0), (2, .long ol530726), (0, .ref q410278), (1, .ref q410279)]) dr_cX17_findDepth_30 (Nat.le_of_ble_eq_true rfl) rfl ?_
        have hlp32_533556 : ∀ (n32_533556 : Nat) (F533552 : Nat → va_E) (g533551 : Int32), gB g533551 0 1000000 → RS D I P410276 F533552 γ el → rStr γ [] F410277 F533552 → (F533552 q410278 = F410277 q410278) → (F533552 (γ 9 3) = F410277 (γ 9 3)) → (∀ (k : Nat) (e1 : Nat → va_E), tl_RModel_findDepth2_32 D I γ el P410276 F410277 q410278 q410279 ol530726 F533552 g533551 k e1 → tl_RModel_findDepth2_32 D I γ el P410276 F410277 q410278 q410279 ol530726 F530680 (0 : Int32) k e1) → ((1000001 : Int) - g533551.toInt).toNat < n32_533556 → G (gV D I) l (gRm 5 112 0 0) (gMA (gV D I) (pt_410281_SpillForgeModel_findDepth D I γ el P410276 F410277 q410278 q410279) gNA 0 0) ky_410281_SpillForgeModel_findDepth 32 [(4, .int g533551), (2, .long ol530726), (0, .ref q410278), (1, .ref q410279)] [] (va_pl P410276 F533552) 0 0 := by
          intro n32_533556
          induction n32_533556 with
          | zero => intro F533552 g533551 bg533551 hT533553 hs533554 x533555 x533556 kt32_533557 hm32_533556; exact absurd hm32_533556 (Nat.not_lt_zero _)
          | succ n32_533556 ih32_533556 =>
            intro F533552 g533551 bg533551 hT533553 hs533554 x533555 x533556 kt32_533557 hm32_533556
            have hs533558 : rStr γ [] F530680 F533552 := fun b h0 hb hw => (hs533554 b h0 hb hw).trans (hs530682 b h0 hb hw).symm
            have he533559 : F533552 q410279 = .inr (18, [.ref q530692, .ref q530693, .int p530694, .int p530695]) := (hs533558 q410279 (rT0 htq410279 (by decide)) (rT1 htq410279 (by decide)) (rT2 htq410279 (by decide))).trans he530691
            have hs533560 : rStr γ [] F410277 F533552 := rStr_tr hs530682 hs533558
            have he533561 : F533552 q410278 = .inr (22, [.ref (γ 9 0), .ref (γ 9 1), .ref (γ 9 2), .ref (γ 9 3), .ref (γ 9 4), .ref (γ 9 5), .ref (γ 9 6), .ref (γ 9 7), .ref (γ 9 8), .int p410286, .int p410287, .int p410288, .int p410289, .int p410290, .int p410291, .ref (γ 9 15), .ref (γ 9 16), .ref (γ 9 17), .ref (γ 9 18), .ref (γ 9 19), .ref (γ 9 20), .ref (γ 9 21), .ref (γ 9 22), .int p410292, .int p410293, .int p410294, .int p410295, .int p410296, .ref q410284, .ref (γ 9 29), .int p410297, .ref (γ 9 31), .int p410298, .int p410299, .int p410300, .ref q410285]) := x533555.trans he410283
            have hm533562 : q410278 ∈ P410276 := RS_m hT533553 htq410278 (by decide)
            refine G_iload 0 dr_cX17_findDepth_32 rfl ?_
            refine G_aload_n 3 dr_cX17_findDepth_34 rfl ?_
            have fq533563 : fI (F533552 q410279) 3 = p530695 := by rw [he533559]; rfl
            refine Gw_callV (As := []) (gV_ok D I) (cp_12780_Code_size l hl0 D I P410276 F533552 q410279 q530692 q530693 p530694 p530695 hm530690 he533559) dr_cX17_findDepth_35 ⟨wr_10_160, wr_1_15, wr_9_131, by decide, rfl, (Nat.le_of_ble_eq_true rfl), (Nat.le_of_ble_eq_true rfl)⟩ wr_9_129 wr_9_130 hm530690 he533559 rfl (show 0 + 0 ≤ 0 by first | omega | decide) (show 0 + 0 ≤ 0 by first | omega | decide) (Nat.le_of_ble_eq_true rfl) (fun r533567 w533568 dc533564 ds533565 hp533566 => ?_) (fun _ _ _ _ _ z => z.elim)
            obtain ⟨rfl, rfl, hdc, hds⟩ := hp533566
            change G _ _ _ _ _ _ _ (.int p530695 :: _) _ _ _
            refine G_widen (cs' := 0) (sl' := 0) (by omega) (by omega) ?_
            refine G_icmp_ge 339 dr_cX17_findDepth_38 (by decide +kernel) (fun hc533569 => ?_) (fun hc533569 => ?_)
            · have r533570 : p530695.toInt ≤ g533551.toInt := gC_le hc533569
              have hx533571 : tl_RModel_findDepth2_32 D I γ el P410276 F410277 q410278 q410279 ol530726 F530680 (0 : Int32) 339 F533552 := kt32_533557 339 F533552 (fun R c1 c2 c3 c4 => c1 F533552 g533551 p530695 bg533551 hT533553 hs533554 x533555 x533556 fq533563 r533570)
              refine G_iconst 0 dr_cX17_findDepth_339 (by decide +kernel) ?_
              refine G_istore (L' := [(4, .int 0), (2, .long ol530726), (0, .ref q410278), (1, .ref q410279)]) dr_cX17_findDepth_340 (Nat.le_of_ble_eq_true rfl) rfl ?_
              have hlp342_533611 : ∀ (n342_533611 : Nat) (F533607 : Nat → va_E) (g533606 : Int32), gB g533606 0 1000000 → RS D I P410276 F533607 γ el → rStr γ [] F410277 F533607 → (F533607 q410278 = F410277 q410278) → (F533607 (γ 9 3) = F410277 (γ 9 3)) → (∀ (k : Nat) (e1 : Nat → va_E), tl_RModel_findDepth2_342 D I γ el P410276 F410277 q410278 q410279 F533607 g533606 k e1 → tl_RModel_findDepth2_342 D I γ el P410276 F410277 q410278 q410279 F533552 (0 : Int32) k e1) → ((1000001 : Int) - g533606.toInt).toNat < n342_533611 → G (gV D I) l (gRm 5 112 0 0) (gMA (gV D I) (pt_410281_SpillForgeModel_findDepth D I γ el P410276 F410277 q410278 q410279) gNA 0 0) ky_410281_SpillForgeModel_findDepth 342 [(4, .int g533606), (2, .long ol530726), (0, .ref q410278), (1, .ref q410279)] [] (va_pl P410276 F533607) 0 0 := by
                intro n342_533611
                induction n342_533611 with
                | zero => intro F533607 g533606 bg533606 hT533608 hs533609 x533610 x533611 kt342_533612 hm342_533611; exact absurd hm342_533611 (Nat.not_lt_zero _)
                | succ n342_533611 ih342_533611 =>
                  intro F533607 g533606 bg533606 hT533608 hs533609 x533610 x533611 kt342_533612 hm342_533611
                  have hs533613 : rStr γ [] F533552 F533607 := fun b h0 hb hw => (hs533609 b h0 hb hw).trans (hs533554 b h0 hb hw).symm
                  have he533614 : F533607 q410279 = .inr (18, [.ref q530692, .ref q530693, .int p530694, .int p530695]) := (hs533613 q410279 (rT0 htq410279 (by decide)) (rT1 htq410279 (by decide)) (rT2 htq410279 (by decide))).trans he533559
                  have hs533615 : rStr γ [] F410277 F533607 := rStr_tr hs533554 hs533613
                  have he533616 : F533607 q410278 = .inr (22, [.ref (γ 9 0), .ref (γ 9 1), .ref (γ 9 2), .ref (γ 9 3), .ref (γ 9 4), .ref (γ 9 5), .ref (γ 9 6), .ref (γ 9 7), .ref (γ 9 8), .int p410286, .int p410287, .int p410288, .int p410289, .int p410290, .int p410291, .ref (γ 9 15), .ref (γ 9 16), .ref (γ 9 17), .ref (γ 9 18), .ref (γ 9 19), .ref (γ 9 20), .ref (γ 9 21), .ref (γ 9 22), .int p410292, .int p410293, .int p410294, .int p410295, .int p410296, .ref q410284, .ref (γ 9 29), .int p410297, .ref (γ 9 31), .int p410298, .int p410299, .int p410300, .ref q410285]) := x533610.trans he410283
                  have hm533617 : q410278 ∈ P410276 := RS_m hT533608 htq410278 (by decide)
                  refine G_iload 0 dr_cX17_findDepth_342 rfl ?_
                  refine G_aload_n 3 dr_cX17_findDepth_344 rfl ?_
                  have fq533618 : fI (F533607 q410279) 3 = p530695 := by rw [he533614]; rfl
                  refine Gw_callV (As := []) (gV_ok D I) (cp_12780_Code_size l hl0 D I P410276 F533607 q410279 q530692 q530693 p530694 p530695 hm530690 he533614) dr_cX17_findDepth_345 ⟨wr_10_160, wr_1_15, wr_9_131, by decide, rfl, (Nat.le_of_ble_eq_true rfl), (Nat.le_of_ble_eq_true rfl)⟩ wr_9_129 wr_9_130 hm530690 he533614 rfl (show 0 + 0 ≤ 0 by first | omega | decide) (show 0 + 0 ≤ 0 by first | omega | decide) (Nat.le_of_ble_eq_true rfl) (fun r533622 w533623 dc533619 ds533620 hp533621 => ?_) (fun _ _ _ _ _ z => z.elim)
                  obtain ⟨rfl, rfl, hdc, hds⟩ := hp533621
                  change G _ _ _ _ _ _ _ (.int p530695 :: _) _ _ _
                  refine G_widen (cs' := 0) (sl' := 0) (by omega) (by omega) ?_
                  refine G_icmp_ge 375 dr_cX17_findDepth_348 (by decide +kernel) (fun hc533624 => ?_) (fun hc533624 => ?_)
                  · have r533625 : p530695.toInt ≤ g533606.toInt := gC_le hc533624
                    have hx533626 : tl_RModel_findDepth2_342 D I γ el P410276 F410277 q410278 q410279 F533552 (0 : Int32) 375 F533607 := kt342_533612 375 F533607 (fun R c1 c2 => c1 F533607 g533606 p530695 bg533606 hT533608 hs533609 x533610 x533611 fq533618 r533625)
                    exact G_vretA dr_cX17_findDepth_375 rfl (Nat.le_of_ble_eq_true rfl) (Nat.le_of_ble_eq_true rfl) ⟨F533607, rfl, rfl, hT533608, hs533609, (Nat.le_of_ble_eq_true rfl), (Nat.le_of_ble_eq_true rfl), x533610, x533611, (fun R c1 => c1 F530680 ol530726 F533552 F533607 hx530720 ht530727 hx533571 hx533626)⟩
                  · have r533627 : g533606.toInt < p530695.toInt := gC_nle hc533624
                    have bg533606' : gB g533606 0 999999 := ⟨by omega, by omega⟩
                    have bp530695' : gB p530695 1 1000000 := ⟨by omega, by omega⟩
                    refine G_aload_n 2 dr_cX17_findDepth_351 rfl ?_
                    have fq533628 : fR (F533607 q410278) 4 = (γ 9 4) := by rw [he533616]; rfl
                    refine Gp_get 4 hm533617 he533616 dr_cX17_findDepth_352 (gk_X17 D I) (Nat.le_of_ble_eq_true rfl) wr_7_78 rfl ?_
                    refine G_iload 0 dr_cX17_findDepth_355 rfl ?_
                    refine G_aload_n 2 dr_cX17_findDepth_357 rfl ?_
                    refine Gp_get 4 hm533617 he533616 dr_cX17_findDepth_358 (gk_X17 D I) (Nat.le_of_ble_eq_true rfl) wr_7_78 rfl ?_
                    refine G_iload 0 dr_cX17_findDepth_361 rfl ?_
                    have hm533629 : (γ 9 4) ∈ P410276 := RS_m hT533608 ht410307 (by decide)
                    obtain ⟨f533631, he533630⟩ := show rk_16 I (F533607 (γ 9 4)) from RS_o hT533608 ht410307
                    refine Gp_iald 0 hm533629 he533630 dr_cX17_findDepth_363 rfl (gB_inr (by omega) (by omega)) (G_nam fun z533632 hz533632 => ?_)
                    have bz533632 : gB z533632 (-2147483648) 2147483647 := gB_any z533632
                    refine G_iconst 4 dr_cX17_findDepth_364 (by decide +kernel) ?_
                    refine G_mmin dr_cX17_findDepth_365 wr_11_20 wr_3_227 wr_1_6 wr_3_228 (Nat.le_of_ble_eq_true rfl) (Nat.le_of_ble_eq_true rfl) (show 0 ≤ 0 by first | omega | decide) (show 0 ≤ 0 by first | omega | decide) (G_nam fun z533633 hz533633 => ?_)
                    have ez533633 : z533632.toInt ≥ z533633.toInt ∧ 4 ≥ z533633.toInt ∧ (z533633.toInt = z533632.toInt ∨ z533633.toInt = 4) := by have := gI_min hz533633; rw [show Int32.toInt 4 = 4 from by decide] at this; omega
                    have bz533633 : gB z533633 (-2147483648) 4 := ⟨by omega, by omega⟩
                    refine Gp_iast 0 hm533629 he533630 dr_cX17_findDepth_368 rfl (gB_inr (by omega) (by omega)) (fun F533634 e533635 n533636 => ?_)
                    obtain ⟨f533637, hf533637⟩ : ∃ z, z = upd f533631 g533606.toNatClampNeg z533633 := ⟨_, rfl⟩
                    rw [← hf533637] at e533635
                    have he533638 : F533634 q410279 = .inr (18, [.ref q530692, .ref q530693, .int p530694, .int p530695]) := (n533636 q410279 (rn_oa he533614 he533630)).trans he533614
                    have he533639 : F533634 q410278 = .inr (22, [.ref (γ 9 0), .ref (γ 9 1), .ref (γ 9 2), .ref (γ 9 3), .ref (γ 9 4), .ref (γ 9 5), .ref (γ 9 6), .ref (γ 9 7), .ref (γ 9 8), .int p410286, .int p410287, .int p410288, .int p410289, .int p410290, .int p410291, .ref (γ 9 15), .ref (γ 9 16), .ref (γ 9 17), .ref (γ 9 18), .ref (γ 9 19), .ref (γ 9 20), .ref (γ 9 21), .ref (γ 9 22), .int p410292, .int p410293, .int p410294, .int p410295, .int p410296, .ref q410284, .ref (γ 9 29), .int p410297, .ref (γ 9 31), .int p410298, .int p410299, .int p410300, .ref q410285]) := (n533636 q410278 (rn_oa he533616 he533630)).trans he533616
                    have he533640 : F533634 (γ 9 4) = .inl (I .int, 40, .inl f533637) := e533635
                    have hs533641 : rStr γ [] F410277 F533634 := rStr_put hs533609 n533636 ht410307 (by decide)
                    have kp533642 : F533634 q410278 = F410277 q410278 := (n533636 q410278 (rn_ty htq410278 ht410307 (by decide))).trans x533610
                    have kp533643 : F533634 (γ 9 3) = F410277 (γ 9 3) := (n533636 (γ 9 3) (rn_ty ht410306 ht410307 (by decide))).trans x533611
                    obtain ⟨z533644, hz533644⟩ : ∃ z : Int32, z = g533606 + Int32.ofInt 1 := ⟨_, rfl⟩
                    have ez533644 : z533644.toInt = g533606.toInt + 1 := gI_inc hz533644 (by decide) bg533606' (by decide) (by decide)
                    have bz533644 : gB z533644 1 1000000 := ⟨by omega, by omega⟩
                    refine G_iinc (L' := [(4, .int z533644), (2, .long ol530726), (0, .ref q410278), (1, .ref q410279)]) z533644 0 dr_cX17_findDepth_369 rfl hz533644.symm (Nat.le_of_ble_eq_true rfl) rfl ?_
                    refine G_goto 342 dr_cX17_findDepth_372 (by decide +kernel) ?_
                    have hT533645 : RS D I P410276 F533634 γ el := RS_set hT533608 n533636 ht410307 (by decide) ⟨f533637, he533640⟩
                    exact ih342_533611 F533634 z533644 (gB_w bz533644 (by decide) (by decide)) hT533645 hs533641 kp533642 kp533643 (fun k e1 ht => kt342_533612 k e1 (fun R c1 c2 => c2 F533607 g533606 p530695 f533631 z533632 z533633 f533637 F533634 z533644 k e1 bg533606 hT533608 hs533609 x533610 x533611 fq533618 r533627 fq533628 he533630 hz533632 ez533633 hf533637 n533636 he533640 ez533644 (ht R c1 c2))) (mz_up ez533644 (Int.le_trans bg533606'.2 (by decide)) hm342_533611)
              exact hlp342_533611 (((1000001 : Int) - 0).toNat + 1) F533552 0 (gB_w (gBl (show Int32.toInt 0 = 0 by decide)) (by decide) (by decide)) hT533553 hs533554 x533555 x533556 (fun k e1 ht => ht) (Nat.lt_succ_self _)
            · have r533646 : g533551.toInt < p530695.toInt := gC_nle hc533569
              have bg533551' : gB g533551 0 999999 := ⟨by omega, by omega⟩
              have bp530695' : gB p530695 1 1000000 := ⟨by omega, by omega⟩
              refine G_lload_n 1 dr_cX17_findDepth_41 rfl ?_
              refine G_iload 0 dr_cX17_findDepth_42 rfl ?_
              refine G_lushr dr_cX17_findDepth_44 (G_namL fun u533647 hu533647 => ?_)
              refine G_lconst 1 dr_cX17_findDepth_45 rfl ?_
              refine G_land dr_cX17_findDepth_46 (G_namL fun u533648 hu533648 => ?_)
              refine G_lconst 0 dr_cX17_findDepth_47 rfl ?_
              refine G_lcmp dr_cX17_findDepth_48 (G_nam fun z533649 hz533649 => ?_)
              have bz533649 : gB z533649 (-1) 1 := gB_cmp hz533649
              refine G_if_ne 55 dr_cX17_findDepth_49 (by decide +kernel) (fun hc533650 => ?_) (fun hc533650 => ?_)
              · have r533651 : z533649.toInt ≠ 0 := gj_neq hc533650 (show Int32.toInt 0 = 0 by decide)
                have lhc533650 := gC_cmpN hz533649 hc533650
                refine G_lload_n 1 dr_cX17_findDepth_55 rfl ?_
                refine G_aload_n 3 dr_cX17_findDepth_56 rfl ?_
                refine G_iload 0 dr_cX17_findDepth_57 rfl ?_
                refine Gw_callS (As := [.ref q410279, .int g533551]) (gV_ok D I) (ct_12748_SpillForgeModel_reached l hl0 D I γ el P410276 F533552 q410279 g533551 hT533553 htq410279 (by omega)) dr_cX17_findDepth_59 ⟨wr_11_41, wr_1_14, wr_11_43, by decide, rfl, (Nat.le_of_ble_eq_true rfl), (Nat.le_of_ble_eq_true rfl)⟩ wr_11_42 (show 0 + 0 ≤ 0 by first | omega | decide) (show 0 + 0 ≤ 0 by first | omega | decide) (Nat.le_of_ble_eq_true rfl) (fun r533655 w533656 dc533652 ds533653 hp533654 => ?_) (fun _ _ _ _ _ z => z.elim)
                obtain ⟨ol533657, rfl, rfl, hdc, hds, ht533658⟩ := hp533654
                change G _ _ _ _ _ _ _ (.long ol533657 :: _) _ _ _
                refine G_widen (cs' := 0) (sl' := 0) (by omega) (by omega) ?_
                refine G_ldc2 (-1) dr_cX17_findDepth_62 wr_10_188 ?_
                refine G_lxor dr_cX17_findDepth_65 (G_namL fun u533659 hu533659 => ?_)
                refine G_land dr_cX17_findDepth_66 (G_namL fun u533660 hu533660 => ?_)
                refine G_lstore (L' := [(5, .long u533660), (4, .int g533551), (2, .long ol530726), (0, .ref q410278), (1, .ref q410279)]) dr_cX17_findDepth_67 (Nat.le_of_ble_eq_true rfl) rfl ?_
                refine G_lconst 0 dr_cX17_findDepth_69 rfl ?_
                refine G_lstore (L' := [(7, .long 0), (5, .long u533660), (4, .int g533551), (2, .long ol530726), (0, .ref q410278), (1, .ref q410279)]) dr_cX17_findDepth_70 (Nat.le_of_ble_eq_true rfl) rfl ?_
                refine G_iconst 0 dr_cX17_findDepth_72 (by decide +kernel) ?_
                refine G_istore (L' := [(9, .int 0), (7, .long 0), (5, .long u533660), (4, .int g533551), (2, .long ol530726), (0, .ref q410278), (1, .ref q410279)]) dr_cX17_findDepth_73 (Nat.le_of_ble_eq_true rfl) rfl ?_
                have hlp75_535021 : ∀ (n75_535021 : Nat) (g535020 : Int32) (gl535021 : Int64), gB g535020 0 1000000 → (∀ (k : Nat) (e1 : Int64), tl_RModel_findDepth2_75 D I γ el F533552 q410279 u533660 g533551 g535020 gl535021 k e1 → tl_RModel_findDepth2_75 D I γ el F533552 q410279 u533660 g533551 (0 : Int32) (0 : Int64) k e1) → ((1000001 : Int) - g535020.toInt).toNat < n75_535021 → G (gV D I) l (gRm 5 112 0 0) (gMA (gV D I) (pt_410281_SpillForgeModel_findDepth D I γ el P410276 F410277 q410278 q410279) gNA 0 0) ky_410281_SpillForgeModel_findDepth 75 [(9, .int g535020), (7, .long gl535021), (5, .long u533660), (4, .int g533551), (2, .long ol530726), (0, .ref q410278), (1, .ref q410279)] [] (va_pl P410276 F533552) 0 0 := by
                  intro n75_535021
                  induction n75_535021 with
                  | zero => intro g535020 gl535021 bg535020 kt75_535022 hm75_535021; exact absurd hm75_535021 (Nat.not_lt_zero _)
                  | succ n75_535021 ih75_535021 =>
                    intro g535020 gl535021 bg535020 kt75_535022 hm75_535021
                    refine G_iload 0 dr_cX17_findDepth_75 rfl ?_
                    refine G_aload_n 6 dr_cX17_findDepth_77 rfl ?_
                    have fq535023 : fI (F533552 q410279) 3 = p530695 := by rw [he533559]; rfl
                    refine Gw_callV (As := []) (gV_ok D I) (cp_12780_Code_size l hl0 D I P410276 F533552 q410279 q530692 q530693 p530694 p530695 hm530690 he533559) dr_cX17_findDepth_78 ⟨wr_10_160, wr_1_15, wr_9_131, by decide, rfl, (Nat.le_of_ble_eq_true rfl), (Nat.le_of_ble_eq_true rfl)⟩ wr_9_129 wr_9_130 hm530690 he533559 rfl (show 0 + 0 ≤ 0 by first | omega | decide) (show 0 + 0 ≤ 0 by first | omega | decide) (Nat.le_of_ble_eq_true rfl) (fun r535027 w535028 dc535024 ds535025 hp535026 => ?_) (fun _ _ _ _ _ z => z.elim)
                    obtain ⟨rfl, rfl, hdc, hds⟩ := hp535026
                    change G _ _ _ _ _ _ _ (.int p530695 :: _) _ _ _
                    refine G_widen (cs' := 0) (sl' := 0) (by omega) (by omega) ?_
                    refine G_icmp_ge 125 dr_cX17_findDepth_81 (by decide +kernel) (fun hc535029 => ?_) (fun hc535029 => ?_)
                    · have r535030 : p530695.toInt ≤ g535020.toInt := gC_le hc535029
                      have bg535020' : gB g535020 1 1000000 := ⟨by omega, by omega⟩
                      have hx535031 : tl_RModel_findDepth2_75 D I γ el F533552 q410279 u533660 g533551 (0 : Int32) (0 : Int64) 125 gl535021 := kt75_535022 125 gl535021 (fun R c1 c2 c3 c4 => c1 g535020 gl535021 p530695 bg535020 fq535023 r535030)
                      refine G_lload 1 dr_cX17_findDepth_125 rfl ?_
                      refine G_lconst 0 dr_cX17_findDepth_127 rfl ?_
                      refine G_lcmp dr_cX17_findDepth_128 (G_nam fun z535032 hz535032 => ?_)
                      have bz535032 : gB z535032 (-1) 1 := gB_cmp hz535032
                      refine G_if_ne 135 dr_cX17_findDepth_129 (by decide +kernel) (fun hc535033 => ?_) (fun hc535033 => ?_)
                      · have r535034 : z535032.toInt ≠ 0 := gj_neq hc535033 (show Int32.toInt 0 = 0 by decide)
                        have lhc535033 := gC_cmpN hz535032 hc535033
                        refine G_lload 1 dr_cX17_findDepth_135 rfl ?_
                        refine G_lconst 1 dr_cX17_findDepth_137 rfl ?_
                        refine G_iload 3 dr_cX17_findDepth_138 rfl ?_
                        refine G_lshl dr_cX17_findDepth_140 (G_namL fun u535035 hu535035 => ?_)
                        have qu535035 : lb_Q u535035 (g533551.toInt % 64 + 1) := lb_Qshl hu535035 (by omega)
                        refine G_lor dr_cX17_findDepth_141 (G_namL fun u535036 hu535036 => ?_)
                        have pmu535036 : rpop gl535021 ≤ rpop u535036 := rpop_or hu535036
                        refine G_lstore (L' := [(7, .long u535036), (9, .int g535020), (5, .long u533660), (4, .int g533551), (2, .long ol530726), (0, .ref q410278), (1, .ref q410279)]) dr_cX17_findDepth_142 (Nat.le_of_ble_eq_true rfl) rfl ?_
                        refine G_iconst 1 dr_cX17_findDepth_144 (by decide +kernel) ?_
                        refine G_istore (L' := [(9, .int 1), (7, .long u535036), (5, .long u533660), (4, .int g533551), (2, .long ol530726), (0, .ref q410278), (1, .ref q410279)]) dr_cX17_findDepth_145 (Nat.le_of_ble_eq_true rfl) rfl ?_
                        have hlp147_535674 : ∀ (n147_535674 : Nat) (g535672 : Int32) (gl535673 : Int64), gB g535672 0 1 → rpop gl535673 ≤ 64 → (∀ (k : Nat) (e1 : Int64), tl_RModel_findDepth2_147 D I γ el F533552 q410279 ol530726 g533551 g535672 gl535673 k e1 → tl_RModel_findDepth2_147 D I γ el F533552 q410279 ol530726 g533551 (1 : Int32) u535036 k e1) → (64 - rpop gl535673) + ((g535672.toInt : Int)).toNat < n147_535674 → G (gV D I) l (gRm 5 112 0 0) (gMA (gV D I) (pt_410281_SpillForgeModel_findDepth D I γ el P410276 F410277 q410278 q410279) gNA 0 0) ky_410281_SpillForgeModel_findDepth 147 [(9, .int g535672), (7, .long gl535673), (5, .long u533660), (4, .int g533551), (2, .long ol530726), (0, .ref q410278), (1, .ref q410279)] [] (va_pl P410276 F533552) 0 0 := by
                          intro n147_535674
                          induction n147_535674 with
                          | zero => intro g535672 gl535673 bg535672 x535674 kt147_535675 hm147_535674; exact absurd hm147_535674 (Nat.not_lt_zero _)
                          | succ n147_535674 ih147_535674 =>
                            intro g535672 gl535673 bg535672 x535674 kt147_535675 hm147_535674
                            refine G_iload 0 dr_cX17_findDepth_147 rfl ?_
                            refine G_if_eq 297 dr_cX17_findDepth_149 (by decide +kernel) (fun hc535676 => ?_) (fun hc535676 => ?_)
                            · have r535677 : g535672.toInt = 0 := gj_eq hc535676 (show Int32.toInt 0 = 0 by decide)
                              have bg535672' : gB g535672 0 0 := gB_t0 r535677
                              have hx535678 : tl_RModel_findDepth2_147 D I γ el F533552 q410279 ol530726 g533551 (1 : Int32) u535036 297 gl535673 := kt147_535675 297 gl535673 (fun R c1 c2 => c1 g535672 gl535673 bg535672 x535674 r535677)
                              refine G_iconst 0 dr_cX17_findDepth_297 (by decide +kernel) ?_
                              refine G_istore (L' := [(10, .int 0), (9, .int g535672), (7, .long gl535673), (5, .long u533660), (4, .int g533551), (2, .long ol530726), (0, .ref q410278), (1, .ref q410279)]) dr_cX17_findDepth_298 (Nat.le_of_ble_eq_true rfl) rfl ?_
                              have hlp300_535722 : ∀ (n300_535722 : Nat) (F535718 : Nat → va_E) (g535717 : Int32), gB g535717 0 1000000 → RS D I P410276 F535718 γ el → rStr γ [] F410277 F535718 → (F535718 q410278 = F410277 q410278) → (F535718 (γ 9 3) = F410277 (γ 9 3)) → (∀ (k : Nat) (e1 : Nat → va_E), tl_RModel_findDepth2_300 D I γ el P410276 F410277 q410278 q410279 gl535673 F535718 g535717 k e1 → tl_RModel_findDepth2_300 D I γ el P410276 F410277 q410278 q410279 gl535673 F533552 (0 : Int32) k e1) → ((1000001 : Int) - g535717.toInt).toNat < n300_535722 → G (gV D I) l (gRm 5 112 0 0) (gMA (gV D I) (pt_410281_SpillForgeModel_findDepth D I γ el P410276 F410277 q410278 q410279) gNA 0 0) ky_410281_SpillForgeModel_findDepth 300 [(10, .int g535717), (9, .int g535672), (7, .long gl535673), (5, .long u533660), (4, .int g533551), (2, .long ol530726), (0, .ref q410278), (1, .ref q410279)] [] (va_pl P410276 F535718) 0 0 := by
                                intro n300_535722
                                induction n300_535722 with
                                | zero => intro F535718 g535717 bg535717 hT535719 hs535720 x535721 x535722 kt300_535723 hm300_535722; exact absurd hm300_535722 (Nat.not_lt_zero _)
                                | succ n300_535722 ih300_535722 =>
                                  intro F535718 g535717 bg535717 hT535719 hs535720 x535721 x535722 kt300_535723 hm300_535722
                                  have hs535724 : rStr γ [] F533552 F535718 := fun b h0 hb hw => (hs535720 b h0 hb hw).trans (hs533554 b h0 hb hw).symm
                                  have he535725 : F535718 q410279 = .inr (18, [.ref q530692, .ref q530693, .int p530694, .int p530695]) := (hs535724 q410279 (rT0 htq410279 (by decide)) (rT1 htq410279 (by decide)) (rT2 htq410279 (by decide))).trans he533559
                                  have hs535726 : rStr γ [] F410277 F535718 := rStr_tr hs533554 hs535724
                                  have he535727 : F535718 q410278 = .inr (22, [.ref (γ 9 0), .ref (γ 9 1), .ref (γ 9 2), .ref (γ 9 3), .ref (γ 9 4), .ref (γ 9 5), .ref (γ 9 6), .ref (γ 9 7), .ref (γ 9 8), .int p410286, .int p410287, .int p410288, .int p410289, .int p410290, .int p410291, .ref (γ 9 15), .ref (γ 9 16), .ref (γ 9 17), .ref (γ 9 18), .ref (γ 9 19), .ref (γ 9 20), .ref (γ 9 21), .ref (γ 9 22), .int p410292, .int p410293, .int p410294, .int p410295, .int p410296, .ref q410284, .ref (γ 9 29), .int p410297, .ref (γ 9 31), .int p410298, .int p410299, .int p410300, .ref q410285]) := x535721.trans he410283
                                  have hm535728 : q410278 ∈ P410276 := RS_m hT535719 htq410278 (by decide)
                                  refine G_iload 0 dr_cX17_findDepth_300 rfl ?_
                                  refine G_aload_n 7 dr_cX17_findDepth_302 rfl ?_
                                  have fq535729 : fI (F535718 q410279) 3 = p530695 := by rw [he535725]; rfl
                                  refine Gw_callV (As := []) (gV_ok D I) (cp_12780_Code_size l hl0 D I P410276 F535718 q410279 q530692 q530693 p530694 p530695 hm530690 he535725) dr_cX17_findDepth_303 ⟨wr_10_160, wr_1_15, wr_9_131, by decide, rfl, (Nat.le_of_ble_eq_true rfl), (Nat.le_of_ble_eq_true rfl)⟩ wr_9_129 wr_9_130 hm530690 he535725 rfl (show 0 + 0 ≤ 0 by first | omega | decide) (show 0 + 0 ≤ 0 by first | omega | decide) (Nat.le_of_ble_eq_true rfl) (fun r535733 w535734 dc535730 ds535731 hp535732 => ?_) (fun _ _ _ _ _ z => z.elim)
                                  obtain ⟨rfl, rfl, hdc, hds⟩ := hp535732
                                  change G _ _ _ _ _ _ _ (.int p530695 :: _) _ _ _
                                  refine G_widen (cs' := 0) (sl' := 0) (by omega) (by omega) ?_
                                  refine G_icmp_ge 333 dr_cX17_findDepth_306 (by decide +kernel) (fun hc535735 => ?_) (fun hc535735 => ?_)
                                  · have r535736 : p530695.toInt ≤ g535717.toInt := gC_le hc535735
                                    have bg535717' : gB g535717 1 1000000 := ⟨by omega, by omega⟩
                                    have hx535737 : tl_RModel_findDepth2_300 D I γ el P410276 F410277 q410278 q410279 gl535673 F533552 (0 : Int32) 333 F535718 := kt300_535723 333 F535718 (fun R c1 c2 => c1 F535718 g535717 p530695 bg535717 hT535719 hs535720 x535721 x535722 fq535729 r535736)
                                    obtain ⟨z535738, hz535738⟩ : ∃ z : Int32, z = g533551 + Int32.ofInt 1 := ⟨_, rfl⟩
                                    have ez535738 : z535738.toInt = g533551.toInt + 1 := gI_inc hz535738 (by decide) bg533551' (by decide) (by decide)
                                    have bz535738 : gB z535738 1 1000000 := ⟨by omega, by omega⟩
                                    refine G_iinc (L' := [(4, .int z535738), (10, .int g535717), (9, .int g535672), (7, .long gl535673), (5, .long u533660), (2, .long ol530726), (0, .ref q410278), (1, .ref q410279)]) z535738 4 dr_cX17_findDepth_333 rfl hz535738.symm (Nat.le_of_ble_eq_true rfl) rfl ?_
                                    refine G_goto 32 dr_cX17_findDepth_336 (by decide +kernel) ?_
                                    refine G_lv (L' := [(4, .int z535738), (2, .long ol530726), (0, .ref q410278), (1, .ref q410279)]) [0, 5, 6, 7] rfl ?_
                                    exact ih32_533556 F535718 z535738 (gB_w bz535738 (by decide) (by decide)) hT535719 hs535720 x535721 x535722 (fun k e1 ht => kt32_533557 k e1 (fun R c1 c2 c3 c4 => c2 F533552 g533551 p530695 u533647 u533648 ol533657 u533659 u533660 gl535021 u535035 u535036 gl535673 F535718 z535738 k e1 bg533551 hT533553 hs533554 x533555 x533556 fq533563 r533646 hu533647 hu533648 lhc533650 ht533658 hu533659 hu533660 hx535031 lhc535033 hu535035 hu535036 hx535678 hx535737 ez535738 (ht R c1 c2 c3 c4))) (mz_up ez535738 (Int.le_trans bg533551'.2 (by decide)) hm32_533556)
                                  · have r535739 : g535717.toInt < p530695.toInt := gC_nle hc535735
                                    have bg535717' : gB g535717 0 999999 := ⟨by omega, by omega⟩
                                    refine G_aload_n 6 dr_cX17_findDepth_309 rfl ?_
                                    have fq535740 : fR (F535718 q410278) 4 = (γ 9 4) := by rw [he535727]; rfl
                                    refine Gp_get 4 hm535728 he535727 dr_cX17_findDepth_310 (gk_X17 D I) (Nat.le_of_ble_eq_true rfl) wr_7_78 rfl ?_
                                    refine G_iload 0 dr_cX17_findDepth_313 rfl ?_
                                    refine G_dup2_11 dr_cX17_findDepth_315 rfl rfl ?_
                                    have hm535741 : (γ 9 4) ∈ P410276 := RS_m hT535719 ht410307 (by decide)
                                    obtain ⟨f535743, he535742⟩ := show rk_16 I (F535718 (γ 9 4)) from RS_o hT535719 ht410307
                                    refine Gp_iald 0 hm535741 he535742 dr_cX17_findDepth_316 rfl (gB_inr (by omega) (by omega)) (G_nam fun z535744 hz535744 => ?_)
                                    have bz535744 : gB z535744 (-2147483648) 2147483647 := gB_any z535744
                                    refine G_lload 2 dr_cX17_findDepth_317 rfl ?_
                                    refine G_iload 0 dr_cX17_findDepth_319 rfl ?_
                                    refine G_lushr dr_cX17_findDepth_321 (G_namL fun u535745 hu535745 => ?_)
                                    refine G_lconst 1 dr_cX17_findDepth_322 rfl ?_
                                    refine G_land dr_cX17_findDepth_323 (G_namL fun u535746 hu535746 => ?_)
                                    refine G_l2i dr_cX17_findDepth_324 (G_nam fun z535747 hz535747 => ?_)
                                    have bz535747 : gB z535747 (-2147483648) 2147483647 := gB_any z535747
                                    refine G_iadd dr_cX17_findDepth_325 (G_nam fun z535748 hz535748 => ?_)
                                    have bz535748 : gB z535748 (-2147483648) 2147483647 := gB_any z535748
                                    refine Gp_iast 0 hm535741 he535742 dr_cX17_findDepth_326 rfl (gB_inr (by omega) (by omega)) (fun F535749 e535750 n535751 => ?_)
                                    obtain ⟨f535752, hf535752⟩ : ∃ z, z = upd f535743 g535717.toNatClampNeg z535748 := ⟨_, rfl⟩
                                    rw [← hf535752] at e535750
                                    have he535753 : F535749 q410279 = .inr (18, [.ref q530692, .ref q530693, .int p530694, .int p530695]) := (n535751 q410279 (rn_oa he535725 he535742)).trans he535725
                                    have he535754 : F535749 q410278 = .inr (22, [.ref (γ 9 0), .ref (γ 9 1), .ref (γ 9 2), .ref (γ 9 3), .ref (γ 9 4), .ref (γ 9 5), .ref (γ 9 6), .ref (γ 9 7), .ref (γ 9 8), .int p410286, .int p410287, .int p410288, .int p410289, .int p410290, .int p410291, .ref (γ 9 15), .ref (γ 9 16), .ref (γ 9 17), .ref (γ 9 18), .ref (γ 9 19), .ref (γ 9 20), .ref (γ 9 21), .ref (γ 9 22), .int p410292, .int p410293, .int p410294, .int p410295, .int p410296, .ref q410284, .ref (γ 9 29), .int p410297, .ref (γ 9 31), .int p410298, .int p410299, .int p410300, .ref q410285]) := (n535751 q410278 (rn_oa he535727 he535742)).trans he535727
                                    have he535755 : F535749 (γ 9 4) = .inl (I .int, 40, .inl f535752) := e535750
                                    have hs535756 : rStr γ [] F410277 F535749 := rStr_put hs535720 n535751 ht410307 (by decide)
                                    have kp535757 : F535749 q410278 = F410277 q410278 := (n535751 q410278 (rn_ty htq410278 ht410307 (by decide))).trans x535721
                                    have kp535758 : F535749 (γ 9 3) = F410277 (γ 9 3) := (n535751 (γ 9 3) (rn_ty ht410306 ht410307 (by decide))).trans x535722
                                    obtain ⟨z535759, hz535759⟩ : ∃ z : Int32, z = g535717 + Int32.ofInt 1 := ⟨_, rfl⟩
                                    have ez535759 : z535759.toInt = g535717.toInt + 1 := gI_inc hz535759 (by decide) bg535717' (by decide) (by decide)
                                    have bz535759 : gB z535759 1 1000000 := ⟨by omega, by omega⟩
                                    refine G_iinc (L' := [(10, .int z535759), (9, .int g535672), (7, .long gl535673), (5, .long u533660), (4, .int g533551), (2, .long ol530726), (0, .ref q410278), (1, .ref q410279)]) z535759 0 dr_cX17_findDepth_327 rfl hz535759.symm (Nat.le_of_ble_eq_true rfl) rfl ?_
                                    refine G_goto 300 dr_cX17_findDepth_330 (by decide +kernel) ?_
                                    have hT535760 : RS D I P410276 F535749 γ el := RS_set hT535719 n535751 ht410307 (by decide) ⟨f535752, he535755⟩
                                    exact ih300_535722 F535749 z535759 (gB_w bz535759 (by decide) (by decide)) hT535760 hs535756 kp535757 kp535758 (fun k e1 ht => kt300_535723 k e1 (fun R c1 c2 => c2 F535718 g535717 p530695 f535743 z535744 u535745 u535746 z535747 z535748 f535752 F535749 z535759 k e1 bg535717 hT535719 hs535720 x535721 x535722 fq535729 r535739 fq535740 he535742 hz535744 hu535745 hu535746 hz535747 hz535748 hf535752 n535751 he535755 ez535759 (ht R c1 c2))) (mz_up ez535759 (Int.le_trans bg535717'.2 (by decide)) hm300_535722)
                              exact hlp300_535722 (((1000001 : Int) - 0).toNat + 1) F533552 0 (gB_w (gBl (show Int32.toInt 0 = 0 by decide)) (by decide) (by decide)) hT533553 hs533554 x533555 x533556 (fun k e1 ht => ht) (Nat.lt_succ_self _)
                            · have r535761 : g535672.toInt ≠ 0 := gj_neq hc535676 (show Int32.toInt 0 = 0 by decide)
                              have bg535672' : gB g535672 1 1 := gB_t1 bg535672 r535761
                              refine G_iconst 0 dr_cX17_findDepth_152 (by decide +kernel) ?_
                              refine G_istore (L' := [(9, .int 0), (7, .long gl535673), (5, .long u533660), (4, .int g533551), (2, .long ol530726), (0, .ref q410278), (1, .ref q410279)]) dr_cX17_findDepth_153 (Nat.le_of_ble_eq_true rfl) rfl ?_
                              refine G_iconst 0 dr_cX17_findDepth_155 (by decide +kernel) ?_
                              refine G_istore (L' := [(10, .int 0), (9, .int 0), (7, .long gl535673), (5, .long u533660), (4, .int g533551), (2, .long ol530726), (0, .ref q410278), (1, .ref q410279)]) dr_cX17_findDepth_156 (Nat.le_of_ble_eq_true rfl) rfl ?_
                              have hlp158_536040 : ∀ (n158_536040 : Nat) (g536036 : Int32) (g536037 : Int32) (gl536038 : Int64), gB g536036 0 1000000 → gB g536037 0 1 → rpop gl536038 ≤ 64 → rpop gl535673 + ((g536037.toInt : Int)).toNat ≤ rpop gl536038 → (∀ (k : Nat) (e1 : Int32) (e2 : Int64), tl_RModel_findDepth2_158 D I γ el gl535673 F533552 q410279 ol530726 g533551 g536036 g536037 gl536038 k e1 e2 → tl_RModel_findDepth2_158 D I γ el gl535673 F533552 q410279 ol530726 g533551 (0 : Int32) (0 : Int32) gl535673 k e1 e2) → ((1000001 : Int) - g536036.toInt).toNat < n158_536040 → G (gV D I) l (gRm 5 112 0 0) (gMA (gV D I) (pt_410281_SpillForgeModel_findDepth D I γ el P410276 F410277 q410278 q410279) gNA 0 0) ky_410281_SpillForgeModel_findDepth 158 [(10, .int g536036), (9, .int g536037), (7, .long gl536038), (5, .long u533660), (4, .int g533551), (2, .long ol530726), (0, .ref q410278), (1, .ref q410279)] [] (va_pl P410276 F533552) 0 0 := by
                                intro n158_536040
                                induction n158_536040 with
                                | zero => intro g536036 g536037 gl536038 bg536036 bg536037 x536039 x536040 kt158_536041 hm158_536040; exact absurd hm158_536040 (Nat.not_lt_zero _)
                                | succ n158_536040 ih158_536040 =>
                                  intro g536036 g536037 gl536038 bg536036 bg536037 x536039 x536040 kt158_536041 hm158_536040
                                  refine G_iload 0 dr_cX17_findDepth_158 rfl ?_
                                  refine G_aload_n 7 dr_cX17_findDepth_160 rfl ?_
                                  have fq536042 : fI (F533552 q410279) 3 = p530695 := by rw [he533559]; rfl
                                  refine Gw_callV (As := []) (gV_ok D I) (cp_12780_Code_size l hl0 D I P410276 F533552 q410279 q530692 q530693 p530694 p530695 hm530690 he533559) dr_cX17_findDepth_161 ⟨wr_10_160, wr_1_15, wr_9_131, by decide, rfl, (Nat.le_of_ble_eq_true rfl), (Nat.le_of_ble_eq_true rfl)⟩ wr_9_129 wr_9_130 hm530690 he533559 rfl (show 0 + 0 ≤ 0 by first | omega | decide) (show 0 + 0 ≤ 0 by first | omega | decide) (Nat.le_of_ble_eq_true rfl) (fun r536046 w536047 dc536043 ds536044 hp536045 => ?_) (fun _ _ _ _ _ z => z.elim)
                                  obtain ⟨rfl, rfl, hdc, hds⟩ := hp536045
                                  change G _ _ _ _ _ _ _ (.int p530695 :: _) _ _ _
                                  refine G_widen (cs' := 0) (sl' := 0) (by omega) (by omega) ?_
                                  refine G_icmp_ge 294 dr_cX17_findDepth_164 (by decide +kernel) (fun hc536048 => ?_) (fun hc536048 => ?_)
                                  · have r536049 : p530695.toInt ≤ g536036.toInt := gC_le hc536048
                                    have bg536036' : gB g536036 1 1000000 := ⟨by omega, by omega⟩
                                    have hx536050 : tl_RModel_findDepth2_158 D I γ el gl535673 F533552 q410279 ol530726 g533551 (0 : Int32) (0 : Int32) gl535673 294 g536037 gl536038 := kt158_536041 294 g536037 gl536038 (fun R c1 c2 c3 c4 c5 => c1 g536036 g536037 gl536038 p530695 bg536036 bg536037 x536039 x536040 fq536042 r536049)
                                    refine G_goto 147 dr_cX17_findDepth_294 (by decide +kernel) ?_
                                    refine G_lv (L' := [(9, .int g536037), (7, .long gl536038), (5, .long u533660), (4, .int g533551), (2, .long ol530726), (0, .ref q410278), (1, .ref q410279)]) [1, 2, 3, 4, 5, 6, 7] rfl ?_
                                    exact ih147_535674 g536037 gl536038 bg536037 (rpop_le gl536038) (fun k e1 ht => kt147_535675 k e1 (fun R c1 c2 => c2 g535672 gl535673 g536037 gl536038 k e1 bg535672 x535674 r535761 hx536050 (ht R c1 c2))) (by omega)
                                  · have r536051 : g536036.toInt < p530695.toInt := gC_nle hc536048
                                    have bg536036' : gB g536036 0 999999 := ⟨by omega, by omega⟩
                                    refine G_lload 2 dr_cX17_findDepth_167 rfl ?_
                                    refine G_iload 0 dr_cX17_findDepth_169 rfl ?_
                                    refine G_lushr dr_cX17_findDepth_171 (G_namL fun u536052 hu536052 => ?_)
                                    refine G_lconst 1 dr_cX17_findDepth_172 rfl ?_
                                    refine G_land dr_cX17_findDepth_173 (G_namL fun u536053 hu536053 => ?_)
                                    refine G_lconst 0 dr_cX17_findDepth_174 rfl ?_
                                    refine G_lcmp dr_cX17_findDepth_175 (G_nam fun z536054 hz536054 => ?_)
                                    have bz536054 : gB z536054 (-1) 1 := gB_cmp hz536054
                                    refine G_if_ne 288 dr_cX17_findDepth_176 (by decide +kernel) (fun hc536055 => ?_) (fun hc536055 => ?_)
                                    · have r536056 : z536054.toInt ≠ 0 := gj_neq hc536055 (show Int32.toInt 0 = 0 by decide)
                                      have lhc536055 := gC_cmpN hz536054 hc536055
                                      obtain ⟨z536057, hz536057⟩ : ∃ z : Int32, z = g536036 + Int32.ofInt 1 := ⟨_, rfl⟩
                                      have ez536057 : z536057.toInt = g536036.toInt + 1 := gI_inc hz536057 (by decide) bg536036' (by decide) (by decide)
                                      have bz536057 : gB z536057 1 1000000 := ⟨by omega, by omega⟩
                                      refine G_iinc (L' := [(10, .int z536057), (9, .int g536037), (7, .long gl536038), (5, .long u533660), (4, .int g533551), (2, .long ol530726), (0, .ref q410278), (1, .ref q410279)]) z536057 0 dr_cX17_findDepth_288 rfl hz536057.symm (Nat.le_of_ble_eq_true rfl) rfl ?_
                                      refine G_goto 158 dr_cX17_findDepth_291 (by decide +kernel) ?_
                                      exact ih158_536040 z536057 g536037 gl536038 (gB_w bz536057 (by decide) (by decide)) bg536037 (rpop_le gl536038) (by omega) (fun k e1 e2 ht => kt158_536041 k e1 e2 (fun R c1 c2 c3 c4 c5 => c2 g536036 g536037 gl536038 p530695 u536052 u536053 z536057 k e1 e2 bg536036 bg536037 x536039 x536040 fq536042 r536051 hu536052 hu536053 lhc536055 ez536057 (ht R c1 c2 c3 c4 c5))) (mz_up ez536057 (Int.le_trans bg536036'.2 (by decide)) hm158_536040)
                                    · have r536058 : z536054.toInt = 0 := gj_eq hc536055 (show Int32.toInt 0 = 0 by decide)
                                      have bz536054' : gB z536054 0 0 := ⟨by omega, by omega⟩
                                      have lhc536055 := gC_cmpE hz536054 hc536055
                                      have zhc536055 := rbit_0 hu536052 hu536053 lhc536055 (by omega) (by omega)
                                      refine G_lload_n 5 dr_cX17_findDepth_179 rfl ?_
                                      refine G_iload 0 dr_cX17_findDepth_180 rfl ?_
                                      refine G_lushr dr_cX17_findDepth_182 (G_namL fun u536059 hu536059 => ?_)
                                      refine G_lconst 1 dr_cX17_findDepth_183 rfl ?_
                                      refine G_land dr_cX17_findDepth_184 (G_namL fun u536060 hu536060 => ?_)
                                      refine G_lconst 0 dr_cX17_findDepth_185 rfl ?_
                                      refine G_lcmp dr_cX17_findDepth_186 (G_nam fun z536061 hz536061 => ?_)
                                      have bz536061 : gB z536061 (-1) 1 := gB_cmp hz536061
                                      refine G_if_ne 193 dr_cX17_findDepth_187 (by decide +kernel) (fun hc536062 => ?_) (fun hc536062 => ?_)
                                      · have r536063 : z536061.toInt ≠ 0 := gj_neq hc536062 (show Int32.toInt 0 = 0 by decide)
                                        have lhc536062 := gC_cmpN hz536061 hc536062
                                        refine G_iconst 0 dr_cX17_findDepth_193 (by decide +kernel) ?_
                                        refine G_istore (L' := [(11, .int 0), (10, .int g536036), (9, .int g536037), (7, .long gl536038), (5, .long u533660), (4, .int g533551), (2, .long ol530726), (0, .ref q410278), (1, .ref q410279)]) dr_cX17_findDepth_194 (Nat.le_of_ble_eq_true rfl) rfl ?_
                                        refine G_iconst 0 dr_cX17_findDepth_196 (by decide +kernel) ?_
                                        refine G_istore (L' := [(12, .int 0), (11, .int 0), (10, .int g536036), (9, .int g536037), (7, .long gl536038), (5, .long u533660), (4, .int g533551), (2, .long ol530726), (0, .ref q410278), (1, .ref q410279)]) dr_cX17_findDepth_197 (Nat.le_of_ble_eq_true rfl) rfl ?_
                                        have hlp199_536189 : ∀ (n199_536189 : Nat) (g536188 : Int32) (g536189 : Int32), gB g536188 0 2 → gB g536189 0 1 → (∀ (k : Nat) (e1 : Int32), tl_RModel_findDepth2_199 D I γ el F533552 q410279 g536036 g533551 gl536038 g536188 g536189 k e1 → tl_RModel_findDepth2_199 D I γ el F533552 q410279 g536036 g533551 gl536038 (0 : Int32) (0 : Int32) k e1) → ((3 : Int) - g536188.toInt).toNat < n199_536189 → G (gV D I) l (gRm 5 112 0 0) (gMA (gV D I) (pt_410281_SpillForgeModel_findDepth D I γ el P410276 F410277 q410278 q410279) gNA 0 0) ky_410281_SpillForgeModel_findDepth 199 [(12, .int g536188), (11, .int g536189), (10, .int g536036), (9, .int g536037), (7, .long gl536038), (5, .long u533660), (4, .int g533551), (2, .long ol530726), (0, .ref q410278), (1, .ref q410279)] [] (va_pl P410276 F533552) 0 0 := by
                                          intro n199_536189
                                          induction n199_536189 with
                                          | zero => intro g536188 g536189 bg536188 bg536189 kt199_536190 hm199_536189; exact absurd hm199_536189 (Nat.not_lt_zero _)
                                          | succ n199_536189 ih199_536189 =>
                                            intro g536188 g536189 bg536188 bg536189 kt199_536190 hm199_536189
                                            refine G_iload 0 dr_cX17_findDepth_199 rfl ?_
                                            refine G_aload_n 9 dr_cX17_findDepth_201 rfl ?_
                                            refine G_iload 2 dr_cX17_findDepth_202 rfl ?_
                                            have hm536191 : q530692 ∈ P410276 := RS_m hT533553 ht530696 (by decide)
                                            obtain ⟨⟨p536193, p536194, q536195, he536192, r536196, r536197, r536198, r536200⟩, r536199⟩ := show rk_4 D I γ el F533552 q530692 from RS_o hT533553 ht530696
                                            have bp536193 := gB_any p536193
                                            have bp536194 : gB p536194 0 1000000 := ⟨by omega, by omega⟩
                                            obtain ⟨r536201, r536202, n536209, f536210, r536203, r536204, r536205, r536206, r536207, r536208⟩ := rLC_n r536198 (by omega)
                                            have hm536211 : q536195 ∈ P410276 := RS_m hT533553 r536201 (by decide)
                                            obtain ⟨q536212, hx536213⟩ : ∃ x, x = el q530692 g536036.toInt.toNat := ⟨_, rfl⟩
                                            have fq536217 : fR (F533552 q410279) 0 = q530692 := by rw [he533559]; rfl
                                            have hx536214 : f536210 g536036.toNatClampNeg = some q536212 := (r536207 _ (show g536036.toInt.toNat < γ 2 q530692 by omega)).trans (by rw [hx536213])
                                            have ht536218 : rKd γ q536212 2 := by rw [hx536213]; exact (r530707 _ (by omega)).resolve_right (fun z => absurd z.1 (by omega))
                                            have ht536219 : rFm γ q536212 q530692 := by rw [hx536213]; exact (r536199 _ (show g536036.toInt.toNat < γ 2 q530692 by omega)).2.1
                                            have hm536220 : q536212 ∈ P410276 := RS_m hT533553 ht536218 (by decide)
                                            obtain ⟨q536222, q536223, p536224, p536225, he536221, ht536232, ht536226, ht536227, ht536228, ht536229, ht536230, bp536224, bp536225, r536231, r536233, r536234⟩ := show rk_2 γ q536212 (F533552 q536212) from RS_o hT533553 ht536218
                                            have fq536235 : fI (F533552 q530692) 2 = p536194 := by rw [he536192]; rfl
                                            refine Gw_callV (As := [.int g536036]) (gV_ok D I) (cp_7901_Code_get l hl0 D I P410276 F533552 q410279 q530692 q536195 g536036 q530693 p530694 p530695 p536193 p536194 f536210 n536209 q536212 q536222 q536223 p536224 p536225 hm530690 hm536191 hm536211 hm536220 he533559 he536192 r536203 he536221 (gB_w bg536036' (by decide) (by decide)) (gB_w bp536194 (by decide) (by decide)) (by omega) (by omega) (by assumption) (by omega)) dr_cX17_findDepth_204 ⟨wr_10_161, wr_1_15, wr_10_141, by decide, rfl, (Nat.le_of_ble_eq_true rfl), (Nat.le_of_ble_eq_true rfl)⟩ wr_10_139 wr_10_140 hm530690 he533559 rfl (show 0 + 0 ≤ 0 by first | omega | decide) (show 0 + 0 ≤ 0 by first | omega | decide) (Nat.le_of_ble_eq_true rfl) (fun r536239 w536240 dc536236 ds536237 hp536238 => ?_) (fun _ _ _ _ _ z => z.elim)
                                            obtain ⟨rfl, rfl, hdc, hds, ht536241⟩ := hp536238
                                            change G _ _ _ _ _ _ _ (.ref q536212 :: _) _ _ _
                                            refine G_widen (cs' := 0) (sl' := 0) (by omega) (by omega) ?_
                                            have hm536242 : q536223 ∈ P410276 := RS_m hT533553 ht536228 (by decide)
                                            obtain ⟨p536244, p536245, p536246, p536247, p536248, p536249, p536250, he536243, bp536244, bp536245, bp536248, bp536249, bp536250, r536251, r536252, r536253, r536254, r536255⟩ := show rk_1 γ q536223 (F533552 q536223) from RS_o hT533553 ht536228
                                            have bp536246 := gB_any p536246
                                            have bp536247 := gB_any p536247
                                            have fq536256 : fI (F533552 q536212) 2 = p536224 := by rw [he536221]; rfl
                                            have fq536257 : fI (F533552 q536212) 3 = p536225 := by rw [he536221]; rfl
                                            have fq536258 : fR (F533552 q536212) 1 = q536223 := by rw [he536221]; rfl
                                            have fq536259 : fI (F533552 q536223) 0 = p536244 := by rw [he536243]; rfl
                                            refine Gw_callV (As := []) (gV_ok D I) (cp_1816_Block_ways l hl0 D I P410276 F533552 q536212 q536223 q536222 p536224 p536225 p536244 p536245 p536246 p536247 p536248 p536249 p536250 hm536220 hm536242 he536221 he536243 bp536224 bp536225 bp536244 bp536245 bp536248 bp536249 bp536250) dr_cX17_findDepth_207 ⟨wr_10_166, wr_1_38, wr_10_169, by decide, rfl, (Nat.le_of_ble_eq_true rfl), (Nat.le_of_ble_eq_true rfl)⟩ wr_10_167 wr_10_168 hm536220 he536221 rfl (show 0 + 0 ≤ 0 by first | omega | decide) (show 0 + 0 ≤ 0 by first | omega | decide) (Nat.le_of_ble_eq_true rfl) (fun r536263 w536264 dc536260 ds536261 hp536262 => ?_) (fun _ _ _ _ _ z => z.elim)
                                            obtain ⟨o536265, rfl, rfl, hdc, hds, bo536265, ht536266⟩ := hp536262
                                            change G _ _ _ _ _ _ _ (.int o536265 :: _) _ _ _
                                            refine G_widen (cs' := 0) (sl' := 0) (by omega) (by omega) ?_
                                            refine G_icmp_ge 268 dr_cX17_findDepth_210 (by decide +kernel) (fun hc536267 => ?_) (fun hc536267 => ?_)
                                            · have r536268 : o536265.toInt ≤ g536188.toInt := gC_le hc536267
                                              have hx536269 : tl_RModel_findDepth2_199 D I γ el F533552 q410279 g536036 g533551 gl536038 (0 : Int32) (0 : Int32) 268 g536189 := kt199_536190 268 g536189 (fun R c1 c2 c3 c4 c5 => c1 g536188 g536189 q530692 q536212 p536194 p536224 p536225 q536223 p536244 o536265 bg536188 bg536189 fq536217 hx536213 fq536235 ht536241 fq536256 fq536257 fq536258 fq536259 bo536265 ht536266 r536268)
                                              refine G_iload 1 dr_cX17_findDepth_268 rfl ?_
                                              refine G_if_ne 276 dr_cX17_findDepth_270 (by decide +kernel) (fun hc536270 => ?_) (fun hc536270 => ?_)
                                              · have r536271 : g536189.toInt ≠ 0 := gj_neq hc536270 (show Int32.toInt 0 = 0 by decide)
                                                have bg536189' : gB g536189 1 1 := gB_t1 bg536189 r536271
                                                refine G_lload 4 dr_cX17_findDepth_276 rfl ?_
                                                refine G_lconst 1 dr_cX17_findDepth_278 rfl ?_
                                                refine G_iload 2 dr_cX17_findDepth_279 rfl ?_
                                                refine G_lshl dr_cX17_findDepth_281 (G_namL fun u536272 hu536272 => ?_)
                                                have qu536272 : lb_Q u536272 (g536036.toInt % 64 + 1) := lb_Qshl hu536272 (by omega)
                                                refine G_lor dr_cX17_findDepth_282 (G_namL fun u536273 hu536273 => ?_)
                                                have pmu536273 : rpop gl536038 ≤ rpop u536273 := rpop_or hu536273
                                                have pnu536273 : rpop gl536038 + 1 ≤ rpop u536273 := rpop_new hu536273 hu536272 (by omega) (by omega) zhc536055
                                                refine G_lstore (L' := [(7, .long u536273), (12, .int g536188), (11, .int g536189), (10, .int g536036), (9, .int g536037), (5, .long u533660), (4, .int g533551), (2, .long ol530726), (0, .ref q410278), (1, .ref q410279)]) dr_cX17_findDepth_283 (Nat.le_of_ble_eq_true rfl) rfl ?_
                                                refine G_iconst 1 dr_cX17_findDepth_285 (by decide +kernel) ?_
                                                refine G_istore (L' := [(9, .int 1), (7, .long u536273), (12, .int g536188), (11, .int g536189), (10, .int g536036), (5, .long u533660), (4, .int g533551), (2, .long ol530726), (0, .ref q410278), (1, .ref q410279)]) dr_cX17_findDepth_286 (Nat.le_of_ble_eq_true rfl) rfl ?_
                                                obtain ⟨z536274, hz536274⟩ : ∃ z : Int32, z = g536036 + Int32.ofInt 1 := ⟨_, rfl⟩
                                                have ez536274 : z536274.toInt = g536036.toInt + 1 := gI_inc hz536274 (by decide) bg536036' (by decide) (by decide)
                                                have bz536274 : gB z536274 1 1000000 := ⟨by omega, by omega⟩
                                                refine G_iinc (L' := [(10, .int z536274), (9, .int 1), (7, .long u536273), (12, .int g536188), (11, .int g536189), (5, .long u533660), (4, .int g533551), (2, .long ol530726), (0, .ref q410278), (1, .ref q410279)]) z536274 4 dr_cX17_findDepth_288 rfl hz536274.symm (Nat.le_of_ble_eq_true rfl) rfl ?_
                                                refine G_goto 158 dr_cX17_findDepth_291 (by decide +kernel) ?_
                                                refine G_lv (L' := [(10, .int z536274), (9, .int 1), (7, .long u536273), (5, .long u533660), (4, .int g533551), (2, .long ol530726), (0, .ref q410278), (1, .ref q410279)]) [0, 1, 2, 5, 6, 7, 8, 9] rfl ?_
                                                exact ih158_536040 z536274 1 u536273 (gB_w bz536274 (by decide) (by decide)) (gB_w (gBl (show Int32.toInt 1 = 1 by decide)) (by decide) (by decide)) (rpop_le u536273) (by have qa0 : Int32.toInt 1 = 1 := (by decide); omega) (fun k e1 e2 ht => kt158_536041 k e1 e2 (fun R c1 c2 c3 c4 c5 => c3 g536036 g536037 gl536038 p530695 u536052 u536053 u536059 u536060 g536189 u536272 u536273 z536274 k e1 e2 bg536036 bg536037 x536039 x536040 fq536042 r536051 hu536052 hu536053 lhc536055 hu536059 hu536060 lhc536062 hx536269 r536271 hu536272 hu536273 ez536274 (ht R c1 c2 c3 c4 c5))) (mz_up ez536274 (Int.le_trans bg536036'.2 (by decide)) hm158_536040)
                                              · have r536275 : g536189.toInt = 0 := gj_eq hc536270 (show Int32.toInt 0 = 0 by decide)
                                                have bg536189' : gB g536189 0 0 := gB_t0 r536275
                                                refine G_goto 288 dr_cX17_findDepth_273 (by decide +kernel) ?_
                                                obtain ⟨z536276, hz536276⟩ : ∃ z : Int32, z = g536036 + Int32.ofInt 1 := ⟨_, rfl⟩
                                                have ez536276 : z536276.toInt = g536036.toInt + 1 := gI_inc hz536276 (by decide) bg536036' (by decide) (by decide)
                                                have bz536276 : gB z536276 1 1000000 := ⟨by omega, by omega⟩
                                                refine G_iinc (L' := [(10, .int z536276), (12, .int g536188), (11, .int g536189), (9, .int g536037), (7, .long gl536038), (5, .long u533660), (4, .int g533551), (2, .long ol530726), (0, .ref q410278), (1, .ref q410279)]) z536276 2 dr_cX17_findDepth_288 rfl hz536276.symm (Nat.le_of_ble_eq_true rfl) rfl ?_
                                                refine G_goto 158 dr_cX17_findDepth_291 (by decide +kernel) ?_
                                                refine G_lv (L' := [(10, .int z536276), (9, .int g536037), (7, .long gl536038), (5, .long u533660), (4, .int g533551), (2, .long ol530726), (0, .ref q410278), (1, .ref q410279)]) [0, 3, 4, 5, 6, 7, 8, 9] rfl ?_
                                                exact ih158_536040 z536276 g536037 gl536038 (gB_w bz536276 (by decide) (by decide)) bg536037 (rpop_le gl536038) (by omega) (fun k e1 e2 ht => kt158_536041 k e1 e2 (fun R c1 c2 c3 c4 c5 => c4 g536036 g536037 gl536038 p530695 u536052 u536053 u536059 u536060 g536189 z536276 k e1 e2 bg536036 bg536037 x536039 x536040 fq536042 r536051 hu536052 hu536053 lhc536055 hu536059 hu536060 lhc536062 hx536269 r536275 ez536276 (ht R c1 c2 c3 c4 c5))) (mz_up ez536276 (Int.le_trans bg536036'.2 (by decide)) hm158_536040)
                                            · have r536277 : g536188.toInt < o536265.toInt := gC_nle hc536267
                                              have bg536188' : gB g536188 0 1 := ⟨by omega, by omega⟩
                                              have bo536265' : gB o536265 1 2 := ⟨by omega, by omega⟩
                                              refine G_iload 1 dr_cX17_findDepth_213 rfl ?_
                                              refine G_if_ne 255 dr_cX17_findDepth_215 (by decide +kernel) (fun hc536278 => ?_) (fun hc536278 => ?_)
                                              · have r536279 : g536189.toInt ≠ 0 := gj_neq hc536278 (show Int32.toInt 0 = 0 by decide)
                                                have bg536189' : gB g536189 1 1 := gB_t1 bg536189 r536279
                                                refine G_iconst 1 dr_cX17_findDepth_255 (by decide +kernel) ?_
                                                refine G_goto 260 dr_cX17_findDepth_256 (by decide +kernel) ?_
                                                refine G_istore (L' := [(11, .int 1), (12, .int g536188), (10, .int g536036), (9, .int g536037), (7, .long gl536038), (5, .long u533660), (4, .int g533551), (2, .long ol530726), (0, .ref q410278), (1, .ref q410279)]) dr_cX17_findDepth_260 (Nat.le_of_ble_eq_true rfl) rfl ?_
                                                obtain ⟨z536280, hz536280⟩ : ∃ z : Int32, z = g536188 + Int32.ofInt 1 := ⟨_, rfl⟩
                                                have ez536280 : z536280.toInt = g536188.toInt + 1 := gI_inc hz536280 (by decide) bg536188' (by decide) (by decide)
                                                have bz536280 : gB z536280 1 2 := ⟨by omega, by omega⟩
                                                refine G_iinc (L' := [(12, .int z536280), (11, .int 1), (10, .int g536036), (9, .int g536037), (7, .long gl536038), (5, .long u533660), (4, .int g533551), (2, .long ol530726), (0, .ref q410278), (1, .ref q410279)]) z536280 1 dr_cX17_findDepth_262 rfl hz536280.symm (Nat.le_of_ble_eq_true rfl) rfl ?_
                                                refine G_goto 199 dr_cX17_findDepth_265 (by decide +kernel) ?_
                                                exact ih199_536189 z536280 1 (gB_w bz536280 (by decide) (by decide)) (gB_w (gBl (show Int32.toInt 1 = 1 by decide)) (by decide) (by decide)) (fun k e1 ht => kt199_536190 k e1 (fun R c1 c2 c3 c4 c5 => c2 g536188 g536189 q530692 q536212 p536194 p536224 p536225 q536223 p536244 o536265 z536280 k e1 bg536188 bg536189 fq536217 hx536213 fq536235 ht536241 fq536256 fq536257 fq536258 fq536259 bo536265 ht536266 r536277 r536279 ez536280 (ht R c1 c2 c3 c4 c5))) (mz_up ez536280 (Int.le_trans bg536188'.2 (by decide)) hm199_536189)
                                              · have r536281 : g536189.toInt = 0 := gj_eq hc536278 (show Int32.toInt 0 = 0 by decide)
                                                have bg536189' : gB g536189 0 0 := gB_t0 r536281
                                                refine G_aload_n 9 dr_cX17_findDepth_218 rfl ?_
                                                refine G_iload 2 dr_cX17_findDepth_219 rfl ?_
                                                refine Gw_callV (As := [.int g536036]) (gV_ok D I) (cp_7901_Code_get l hl0 D I P410276 F533552 q410279 q530692 q536195 g536036 q530693 p530694 p530695 p536193 p536194 f536210 n536209 q536212 q536222 q536223 p536224 p536225 hm530690 hm536191 hm536211 hm536220 he533559 he536192 r536203 he536221 (gB_w bg536036' (by decide) (by decide)) (gB_w bp536194 (by decide) (by decide)) (by omega) (by omega) (by assumption) (by omega)) dr_cX17_findDepth_221 ⟨wr_10_161, wr_1_15, wr_10_141, by decide, rfl, (Nat.le_of_ble_eq_true rfl), (Nat.le_of_ble_eq_true rfl)⟩ wr_10_139 wr_10_140 hm530690 he533559 rfl (show 0 + 0 ≤ 0 by first | omega | decide) (show 0 + 0 ≤ 0 by first | omega | decide) (Nat.le_of_ble_eq_true rfl) (fun r536285 w536286 dc536282 ds536283 hp536284 => ?_) (fun _ _ _ _ _ z => z.elim)
                                                obtain ⟨rfl, rfl, hdc, hds, ht536287⟩ := hp536284
                                                change G _ _ _ _ _ _ _ (.ref q536212 :: _) _ _ _
                                                refine G_widen (cs' := 0) (sl' := 0) (by omega) (by omega) ?_
                                                refine G_iload 0 dr_cX17_findDepth_224 rfl ?_
                                                refine Gw_callV (As := [.int g536188]) (gV_ok D I) (cp_5159_Block_way l hl0 D I P410276 F533552 q536212 q536223 g536188 q536222 p536224 p536225 p536244 p536245 p536246 p536247 p536248 p536249 p536250 hm536220 hm536242 he536221 he536243 bp536224 bp536225 bp536244 bp536245 bp536248 bp536249 bp536250) dr_cX17_findDepth_226 ⟨wr_10_170, wr_1_38, wr_10_173, by decide, rfl, (Nat.le_of_ble_eq_true rfl), (Nat.le_of_ble_eq_true rfl)⟩ wr_10_171 wr_10_172 hm536220 he536221 rfl (show 0 + 0 ≤ 0 by first | omega | decide) (show 0 + 0 ≤ 0 by first | omega | decide) (Nat.le_of_ble_eq_true rfl) (fun r536291 w536292 dc536288 ds536289 hp536290 => ?_) (fun _ _ _ _ _ z => z.elim)
                                                obtain ⟨o536293, rfl, rfl, hdc, hds, bo536293, ht536294⟩ := hp536290
                                                change G _ _ _ _ _ _ _ (.int o536293 :: _) _ _ _
                                                refine G_widen (cs' := 0) (sl' := 0) (by omega) (by omega) ?_
                                                refine G_iload 6 dr_cX17_findDepth_229 rfl ?_
                                                refine G_icmp_eq 259 dr_cX17_findDepth_231 (by decide +kernel) (fun hc536295 => ?_) (fun hc536295 => ?_)
                                                · have r536296 : o536293.toInt = g533551.toInt := gC_eq hc536295
                                                  have bg533551'' : gB g533551 0 39 := ⟨by omega, by omega⟩
                                                  refine G_iconst 0 dr_cX17_findDepth_259 (by decide +kernel) ?_
                                                  refine G_istore (L' := [(11, .int 0), (12, .int g536188), (10, .int g536036), (9, .int g536037), (7, .long gl536038), (5, .long u533660), (4, .int g533551), (2, .long ol530726), (0, .ref q410278), (1, .ref q410279)]) dr_cX17_findDepth_260 (Nat.le_of_ble_eq_true rfl) rfl ?_
                                                  obtain ⟨z536297, hz536297⟩ : ∃ z : Int32, z = g536188 + Int32.ofInt 1 := ⟨_, rfl⟩
                                                  have ez536297 : z536297.toInt = g536188.toInt + 1 := gI_inc hz536297 (by decide) bg536188' (by decide) (by decide)
                                                  have bz536297 : gB z536297 1 2 := ⟨by omega, by omega⟩
                                                  refine G_iinc (L' := [(12, .int z536297), (11, .int 0), (10, .int g536036), (9, .int g536037), (7, .long gl536038), (5, .long u533660), (4, .int g533551), (2, .long ol530726), (0, .ref q410278), (1, .ref q410279)]) z536297 1 dr_cX17_findDepth_262 rfl hz536297.symm (Nat.le_of_ble_eq_true rfl) rfl ?_
                                                  refine G_goto 199 dr_cX17_findDepth_265 (by decide +kernel) ?_
                                                  exact ih199_536189 z536297 0 (gB_w bz536297 (by decide) (by decide)) (gB_w (gBl (show Int32.toInt 0 = 0 by decide)) (by decide) (by decide)) (fun k e1 ht => kt199_536190 k e1 (fun R c1 c2 c3 c4 c5 => c3 g536188 g536189 q530692 q536212 p536194 p536224 p536225 q536223 p536244 o536265 o536293 z536297 k e1 bg536188 bg536189 fq536217 hx536213 fq536235 ht536241 fq536256 fq536257 fq536258 fq536259 bo536265 ht536266 r536277 r536281 ht536287 bo536293 ht536294 r536296 ez536297 (ht R c1 c2 c3 c4 c5))) (mz_up ez536297 (Int.le_trans bg536188'.2 (by decide)) hm199_536189)
                                                · have r536298 : o536293.toInt ≠ g533551.toInt := gC_ne hc536295
                                                  refine G_lload 4 dr_cX17_findDepth_234 rfl ?_
                                                  refine G_aload_n 9 dr_cX17_findDepth_236 rfl ?_
                                                  refine G_iload 2 dr_cX17_findDepth_237 rfl ?_
                                                  refine Gw_callV (As := [.int g536036]) (gV_ok D I) (cp_7901_Code_get l hl0 D I P410276 F533552 q410279 q530692 q536195 g536036 q530693 p530694 p530695 p536193 p536194 f536210 n536209 q536212 q536222 q536223 p536224 p536225 hm530690 hm536191 hm536211 hm536220 he533559 he536192 r536203 he536221 (gB_w bg536036' (by decide) (by decide)) (gB_w bp536194 (by decide) (by decide)) (by omega) (by omega) (by assumption) (by omega)) dr_cX17_findDepth_239 ⟨wr_10_161, wr_1_15, wr_10_141, by decide, rfl, (Nat.le_of_ble_eq_true rfl), (Nat.le_of_ble_eq_true rfl)⟩ wr_10_139 wr_10_140 hm530690 he533559 rfl (show 0 + 0 ≤ 0 by first | omega | decide) (show 0 + 0 ≤ 0 by first | omega | decide) (Nat.le_of_ble_eq_true rfl) (fun r536302 w536303 dc536299 ds536300 hp536301 => ?_) (fun _ _ _ _ _ z => z.elim)
                                                  obtain ⟨rfl, rfl, hdc, hds, ht536304⟩ := hp536301
                                                  change G _ _ _ _ _ _ _ (.ref q536212 :: _) _ _ _
                                                  refine G_widen (cs' := 0) (sl' := 0) (by omega) (by omega) ?_
                                                  refine G_iload 0 dr_cX17_findDepth_242 rfl ?_
                                                  refine Gw_callV (As := [.int g536188]) (gV_ok D I) (cp_5159_Block_way l hl0 D I P410276 F533552 q536212 q536223 g536188 q536222 p536224 p536225 p536244 p536245 p536246 p536247 p536248 p536249 p536250 hm536220 hm536242 he536221 he536243 bp536224 bp536225 bp536244 bp536245 bp536248 bp536249 bp536250) dr_cX17_findDepth_244 ⟨wr_10_170, wr_1_38, wr_10_173, by decide, rfl, (Nat.le_of_ble_eq_true rfl), (Nat.le_of_ble_eq_true rfl)⟩ wr_10_171 wr_10_172 hm536220 he536221 rfl (show 0 + 0 ≤ 0 by first | omega | decide) (show 0 + 0 ≤ 0 by first | omega | decide) (Nat.le_of_ble_eq_true rfl) (fun r536308 w536309 dc536305 ds536306 hp536307 => ?_) (fun _ _ _ _ _ z => z.elim)
                                                  obtain ⟨o536310, rfl, rfl, hdc, hds, bo536310, ht536311⟩ := hp536307
                                                  change G _ _ _ _ _ _ _ (.int o536310 :: _) _ _ _
                                                  refine G_widen (cs' := 0) (sl' := 0) (by omega) (by omega) ?_
                                                  refine G_lushr dr_cX17_findDepth_247 (G_namL fun u536312 hu536312 => ?_)
                                                  refine G_lconst 1 dr_cX17_findDepth_248 rfl ?_
                                                  refine G_land dr_cX17_findDepth_249 (G_namL fun u536313 hu536313 => ?_)
                                                  refine G_lconst 0 dr_cX17_findDepth_250 rfl ?_
                                                  refine G_lcmp dr_cX17_findDepth_251 (G_nam fun z536314 hz536314 => ?_)
                                                  have bz536314 : gB z536314 (-1) 1 := gB_cmp hz536314
                                                  refine G_if_eq 259 dr_cX17_findDepth_252 (by decide +kernel) (fun hc536315 => ?_) (fun hc536315 => ?_)
                                                  · have r536316 : z536314.toInt = 0 := gj_eq hc536315 (show Int32.toInt 0 = 0 by decide)
                                                    have bz536314' : gB z536314 0 0 := ⟨by omega, by omega⟩
                                                    have lhc536315 := gC_cmpE hz536314 hc536315
                                                    have zhc536315 := rbit_0 hu536312 hu536313 lhc536315 (by omega) (by omega)
                                                    refine G_iconst 0 dr_cX17_findDepth_259 (by decide +kernel) ?_
                                                    refine G_istore (L' := [(11, .int 0), (12, .int g536188), (10, .int g536036), (9, .int g536037), (7, .long gl536038), (5, .long u533660), (4, .int g533551), (2, .long ol530726), (0, .ref q410278), (1, .ref q410279)]) dr_cX17_findDepth_260 (Nat.le_of_ble_eq_true rfl) rfl ?_
                                                    obtain ⟨z536317, hz536317⟩ : ∃ z : Int32, z = g536188 + Int32.ofInt 1 := ⟨_, rfl⟩
                                                    have ez536317 : z536317.toInt = g536188.toInt + 1 := gI_inc hz536317 (by decide) bg536188' (by decide) (by decide)
                                                    have bz536317 : gB z536317 1 2 := ⟨by omega, by omega⟩
                                                    refine G_iinc (L' := [(12, .int z536317), (11, .int 0), (10, .int g536036), (9, .int g536037), (7, .long gl536038), (5, .long u533660), (4, .int g533551), (2, .long ol530726), (0, .ref q410278), (1, .ref q410279)]) z536317 1 dr_cX17_findDepth_262 rfl hz536317.symm (Nat.le_of_ble_eq_true rfl) rfl ?_
                                                    refine G_goto 199 dr_cX17_findDepth_265 (by decide +kernel) ?_
                                                    exact ih199_536189 z536317 0 (gB_w bz536317 (by decide) (by decide)) (gB_w (gBl (show Int32.toInt 0 = 0 by decide)) (by decide) (by decide)) (fun k e1 ht => kt199_536190 k e1 (fun R c1 c2 c3 c4 c5 => c4 g536188 g536189 q530692 q536212 p536194 p536224 p536225 q536223 p536244 o536265 o536293 o536310 u536312 u536313 z536317 k e1 bg536188 bg536189 fq536217 hx536213 fq536235 ht536241 fq536256 fq536257 fq536258 fq536259 bo536265 ht536266 r536277 r536281 ht536287 bo536293 ht536294 r536298 ht536304 bo536310 ht536311 hu536312 hu536313 lhc536315 ez536317 (ht R c1 c2 c3 c4 c5))) (mz_up ez536317 (Int.le_trans bg536188'.2 (by decide)) hm199_536189)
                                                  · have r536318 : z536314.toInt ≠ 0 := gj_neq hc536315 (show Int32.toInt 0 = 0 by decide)
                                                    have lhc536315 := gC_cmpN hz536314 hc536315
                                                    refine G_iconst 1 dr_cX17_findDepth_255 (by decide +kernel) ?_
                                                    refine G_goto 260 dr_cX17_findDepth_256 (by decide +kernel) ?_
                                                    refine G_istore (L' := [(11, .int 1), (12, .int g536188), (10, .int g536036), (9, .int g536037), (7, .long gl536038), (5, .long u533660), (4, .int g533551), (2, .long ol530726), (0, .ref q410278), (1, .ref q410279)]) dr_cX17_findDepth_260 (Nat.le_of_ble_eq_true rfl) rfl ?_
                                                    obtain ⟨z536319, hz536319⟩ : ∃ z : Int32, z = g536188 + Int32.ofInt 1 := ⟨_, rfl⟩
                                                    have ez536319 : z536319.toInt = g536188.toInt + 1 := gI_inc hz536319 (by decide) bg536188' (by decide) (by decide)
                                                    have bz536319 : gB z536319 1 2 := ⟨by omega, by omega⟩
                                                    refine G_iinc (L' := [(12, .int z536319), (11, .int 1), (10, .int g536036), (9, .int g536037), (7, .long gl536038), (5, .long u533660), (4, .int g533551), (2, .long ol530726), (0, .ref q410278), (1, .ref q410279)]) z536319 1 dr_cX17_findDepth_262 rfl hz536319.symm (Nat.le_of_ble_eq_true rfl) rfl ?_
                                                    refine G_goto 199 dr_cX17_findDepth_265 (by decide +kernel) ?_
                                                    exact ih199_536189 z536319 1 (gB_w bz536319 (by decide) (by decide)) (gB_w (gBl (show Int32.toInt 1 = 1 by decide)) (by decide) (by decide)) (fun k e1 ht => kt199_536190 k e1 (fun R c1 c2 c3 c4 c5 => c5 g536188 g536189 q530692 q536212 p536194 p536224 p536225 q536223 p536244 o536265 o536293 o536310 u536312 u536313 z536319 k e1 bg536188 bg536189 fq536217 hx536213 fq536235 ht536241 fq536256 fq536257 fq536258 fq536259 bo536265 ht536266 r536277 r536281 ht536287 bo536293 ht536294 r536298 ht536304 bo536310 ht536311 hu536312 hu536313 lhc536315 ez536319 (ht R c1 c2 c3 c4 c5))) (mz_up ez536319 (Int.le_trans bg536188'.2 (by decide)) hm199_536189)
                                        exact hlp199_536189 (((3 : Int) - 0).toNat + 1) 0 0 (gB_w (gBl (show Int32.toInt 0 = 0 by decide)) (by decide) (by decide)) (gB_w (gBl (show Int32.toInt 0 = 0 by decide)) (by decide) (by decide)) (fun k e1 ht => ht) (Nat.lt_succ_self _)
                                      · have r536320 : z536061.toInt = 0 := gj_eq hc536062 (show Int32.toInt 0 = 0 by decide)
                                        have bz536061' : gB z536061 0 0 := ⟨by omega, by omega⟩
                                        have lhc536062 := gC_cmpE hz536061 hc536062
                                        refine G_goto 288 dr_cX17_findDepth_190 (by decide +kernel) ?_
                                        obtain ⟨z536321, hz536321⟩ : ∃ z : Int32, z = g536036 + Int32.ofInt 1 := ⟨_, rfl⟩
                                        have ez536321 : z536321.toInt = g536036.toInt + 1 := gI_inc hz536321 (by decide) bg536036' (by decide) (by decide)
                                        have bz536321 : gB z536321 1 1000000 := ⟨by omega, by omega⟩
                                        refine G_iinc (L' := [(10, .int z536321), (9, .int g536037), (7, .long gl536038), (5, .long u533660), (4, .int g533551), (2, .long ol530726), (0, .ref q410278), (1, .ref q410279)]) z536321 0 dr_cX17_findDepth_288 rfl hz536321.symm (Nat.le_of_ble_eq_true rfl) rfl ?_
                                        refine G_goto 158 dr_cX17_findDepth_291 (by decide +kernel) ?_
                                        exact ih158_536040 z536321 g536037 gl536038 (gB_w bz536321 (by decide) (by decide)) bg536037 (rpop_le gl536038) (by omega) (fun k e1 e2 ht => kt158_536041 k e1 e2 (fun R c1 c2 c3 c4 c5 => c5 g536036 g536037 gl536038 p530695 u536052 u536053 u536059 u536060 z536321 k e1 e2 bg536036 bg536037 x536039 x536040 fq536042 r536051 hu536052 hu536053 lhc536055 hu536059 hu536060 lhc536062 ez536321 (ht R c1 c2 c3 c4 c5))) (mz_up ez536321 (Int.le_trans bg536036'.2 (by decide)) hm158_536040)
                              exact hlp158_536040 (((1000001 : Int) - 0).toNat + 1) 0 0 gl535673 (gB_w (gBl (show Int32.toInt 0 = 0 by decide)) (by decide) (by decide)) (gB_w (gBl (show Int32.toInt 0 = 0 by decide)) (by decide) (by decide)) (rpop_le gl535673) (by have qa0 : Int32.toInt 0 = 0 := (by decide); omega) (fun k e1 e2 ht => ht) (Nat.lt_succ_self _)
                        exact hlp147_535674 ((64 - rpop u535036) + ((1 : Int)).toNat + 1) 1 u535036 (gB_w (gBl (show Int32.toInt 1 = 1 by decide)) (by decide) (by decide)) (rpop_le u535036) (fun k e1 ht => ht) (Nat.lt_succ_self _)
                      · have r536322 : z535032.toInt = 0 := gj_eq hc535033 (show Int32.toInt 0 = 0 by decide)
                        have bz535032' : gB z535032 0 0 := ⟨by omega, by omega⟩
                        have lhc535033 := gC_cmpE hz535032 hc535033
                        refine G_goto 333 dr_cX17_findDepth_132 (by decide +kernel) ?_
                        obtain ⟨z536323, hz536323⟩ : ∃ z : Int32, z = g533551 + Int32.ofInt 1 := ⟨_, rfl⟩
                        have ez536323 : z536323.toInt = g533551.toInt + 1 := gI_inc hz536323 (by decide) bg533551' (by decide) (by decide)
                        have bz536323 : gB z536323 1 1000000 := ⟨by omega, by omega⟩
                        refine G_iinc (L' := [(4, .int z536323), (9, .int g535020), (7, .long gl535021), (5, .long u533660), (2, .long ol530726), (0, .ref q410278), (1, .ref q410279)]) z536323 3 dr_cX17_findDepth_333 rfl hz536323.symm (Nat.le_of_ble_eq_true rfl) rfl ?_
                        refine G_goto 32 dr_cX17_findDepth_336 (by decide +kernel) ?_
                        refine G_lv (L' := [(4, .int z536323), (2, .long ol530726), (0, .ref q410278), (1, .ref q410279)]) [0, 4, 5, 6] rfl ?_
                        exact ih32_533556 F533552 z536323 (gB_w bz536323 (by decide) (by decide)) hT533553 hs533554 x533555 x533556 (fun k e1 ht => kt32_533557 k e1 (fun R c1 c2 c3 c4 => c3 F533552 g533551 p530695 u533647 u533648 ol533657 u533659 u533660 gl535021 z536323 k e1 bg533551 hT533553 hs533554 x533555 x533556 fq533563 r533646 hu533647 hu533648 lhc533650 ht533658 hu533659 hu533660 hx535031 lhc535033 ez536323 (ht R c1 c2 c3 c4))) (mz_up ez536323 (Int.le_trans bg533551'.2 (by decide)) hm32_533556)
                    · have r536324 : g535020.toInt < p530695.toInt := gC_nle hc535029
                      have bg535020' : gB g535020 0 999999 := ⟨by omega, by omega⟩
                      refine G_lload 2 dr_cX17_findDepth_84 rfl ?_
                      refine G_iload 0 dr_cX17_findDepth_86 rfl ?_
                      refine G_lushr dr_cX17_findDepth_88 (G_namL fun u536325 hu536325 => ?_)
                      refine G_lconst 1 dr_cX17_findDepth_89 rfl ?_
                      refine G_land dr_cX17_findDepth_90 (G_namL fun u536326 hu536326 => ?_)
                      refine G_lconst 0 dr_cX17_findDepth_91 rfl ?_
                      refine G_lcmp dr_cX17_findDepth_92 (G_nam fun z536327 hz536327 => ?_)
                      have bz536327 : gB z536327 (-1) 1 := gB_cmp hz536327
                      refine G_if_eq 119 dr_cX17_findDepth_93 (by decide +kernel) (fun hc536328 => ?_) (fun hc536328 => ?_)
                      · have r536329 : z536327.toInt = 0 := gj_eq hc536328 (show Int32.toInt 0 = 0 by decide)
                        have bz536327' : gB z536327 0 0 := ⟨by omega, by omega⟩
                        have lhc536328 := gC_cmpE hz536327 hc536328
                        obtain ⟨z536330, hz536330⟩ : ∃ z : Int32, z = g535020 + Int32.ofInt 1 := ⟨_, rfl⟩
                        have ez536330 : z536330.toInt = g535020.toInt + 1 := gI_inc hz536330 (by decide) bg535020' (by decide) (by decide)
                        have bz536330 : gB z536330 1 1000000 := ⟨by omega, by omega⟩
                        refine G_iinc (L' := [(9, .int z536330), (7, .long gl535021), (5, .long u533660), (4, .int g533551), (2, .long ol530726), (0, .ref q410278), (1, .ref q410279)]) z536330 0 dr_cX17_findDepth_119 rfl hz536330.symm (Nat.le_of_ble_eq_true rfl) rfl ?_
                        refine G_goto 75 dr_cX17_findDepth_122 (by decide +kernel) ?_
                        exact ih75_535021 z536330 gl535021 (gB_w bz536330 (by decide) (by decide)) (fun k e1 ht => kt75_535022 k e1 (fun R c1 c2 c3 c4 => c2 g535020 gl535021 p530695 u536325 u536326 z536330 k e1 bg535020 fq535023 r536324 hu536325 hu536326 lhc536328 ez536330 (ht R c1 c2 c3 c4))) (mz_up ez536330 (Int.le_trans bg535020'.2 (by decide)) hm75_535021)
                      · have r536331 : z536327.toInt ≠ 0 := gj_neq hc536328 (show Int32.toInt 0 = 0 by decide)
                        have lhc536328 := gC_cmpN hz536327 hc536328
                        refine G_aload_n 6 dr_cX17_findDepth_96 rfl ?_
                        refine G_iload 0 dr_cX17_findDepth_97 rfl ?_
                        have hm536332 : q530692 ∈ P410276 := RS_m hT533553 ht530696 (by decide)
                        obtain ⟨⟨p536334, p536335, q536336, he536333, r536337, r536338, r536339, r536341⟩, r536340⟩ := show rk_4 D I γ el F533552 q530692 from RS_o hT533553 ht530696
                        have bp536334 := gB_any p536334
                        have bp536335 : gB p536335 0 1000000 := ⟨by omega, by omega⟩
                        obtain ⟨r536342, r536343, n536350, f536351, r536344, r536345, r536346, r536347, r536348, r536349⟩ := rLC_n r536339 (by omega)
                        have hm536352 : q536336 ∈ P410276 := RS_m hT533553 r536342 (by decide)
                        obtain ⟨q536353, hx536354⟩ : ∃ x, x = el q530692 g535020.toInt.toNat := ⟨_, rfl⟩
                        have fq536358 : fR (F533552 q410279) 0 = q530692 := by rw [he533559]; rfl
                        have hx536355 : f536351 g535020.toNatClampNeg = some q536353 := (r536348 _ (show g535020.toInt.toNat < γ 2 q530692 by omega)).trans (by rw [hx536354])
                        have ht536359 : rKd γ q536353 2 := by rw [hx536354]; exact (r530707 _ (by omega)).resolve_right (fun z => absurd z.1 (by omega))
                        have ht536360 : rFm γ q536353 q530692 := by rw [hx536354]; exact (r536340 _ (show g535020.toInt.toNat < γ 2 q530692 by omega)).2.1
                        have hm536361 : q536353 ∈ P410276 := RS_m hT533553 ht536359 (by decide)
                        obtain ⟨q536363, q536364, p536365, p536366, he536362, ht536373, ht536367, ht536368, ht536369, ht536370, ht536371, bp536365, bp536366, r536372, r536374, r536375⟩ := show rk_2 γ q536353 (F533552 q536353) from RS_o hT533553 ht536359
                        have fq536376 : fI (F533552 q530692) 2 = p536335 := by rw [he536333]; rfl
                        refine Gw_callV (As := [.int g535020]) (gV_ok D I) (cp_7901_Code_get l hl0 D I P410276 F533552 q410279 q530692 q536336 g535020 q530693 p530694 p530695 p536334 p536335 f536351 n536350 q536353 q536363 q536364 p536365 p536366 hm530690 hm536332 hm536352 hm536361 he533559 he536333 r536344 he536362 (gB_w bg535020' (by decide) (by decide)) (gB_w bp536335 (by decide) (by decide)) (by omega) (by omega) (by assumption) (by omega)) dr_cX17_findDepth_99 ⟨wr_10_161, wr_1_15, wr_10_141, by decide, rfl, (Nat.le_of_ble_eq_true rfl), (Nat.le_of_ble_eq_true rfl)⟩ wr_10_139 wr_10_140 hm530690 he533559 rfl (show 0 + 0 ≤ 0 by first | omega | decide) (show 0 + 0 ≤ 0 by first | omega | decide) (Nat.le_of_ble_eq_true rfl) (fun r536380 w536381 dc536377 ds536378 hp536379 => ?_) (fun _ _ _ _ _ z => z.elim)
                        obtain ⟨rfl, rfl, hdc, hds, ht536382⟩ := hp536379
                        change G _ _ _ _ _ _ _ (.ref q536353 :: _) _ _ _
                        refine G_widen (cs' := 0) (sl' := 0) (by omega) (by omega) ?_
                        refine G_iload 3 dr_cX17_findDepth_102 rfl ?_
                        refine Gw_callS (As := [.ref q536353, .int g533551]) (gV_ok D I) (ct_7594_SpillForgeModel_leads l hl0 D I γ el P410276 F533552 q536353 g533551 hT533553 ht536359) dr_cX17_findDepth_104 ⟨wr_11_44, wr_1_14, wr_11_46, by decide, rfl, (Nat.le_of_ble_eq_true rfl), (Nat.le_of_ble_eq_true rfl)⟩ wr_11_45 (show 0 + 0 ≤ 0 by first | omega | decide) (show 0 + 0 ≤ 0 by first | omega | decide) (Nat.le_of_ble_eq_true rfl) (fun r536386 w536387 dc536383 ds536384 hp536385 => ?_) (fun _ _ _ _ _ z => z.elim)
                        obtain ⟨o536388, rfl, rfl, hdc, hds, bo536388, ht536389⟩ := hp536385
                        change G _ _ _ _ _ _ _ (.int o536388 :: _) _ _ _
                        refine G_widen (cs' := 0) (sl' := 0) (by omega) (by omega) ?_
                        refine G_if_eq 119 dr_cX17_findDepth_107 (by decide +kernel) (fun hc536390 => ?_) (fun hc536390 => ?_)
                        · have r536391 : o536388.toInt = 0 := gj_eq hc536390 (show Int32.toInt 0 = 0 by decide)
                          have bo536388' : gB o536388 0 0 := gB_t0 r536391
                          obtain ⟨z536392, hz536392⟩ : ∃ z : Int32, z = g535020 + Int32.ofInt 1 := ⟨_, rfl⟩
                          have ez536392 : z536392.toInt = g535020.toInt + 1 := gI_inc hz536392 (by decide) bg535020' (by decide) (by decide)
                          have bz536392 : gB z536392 1 1000000 := ⟨by omega, by omega⟩
                          refine G_iinc (L' := [(9, .int z536392), (7, .long gl535021), (5, .long u533660), (4, .int g533551), (2, .long ol530726), (0, .ref q410278), (1, .ref q410279)]) z536392 0 dr_cX17_findDepth_119 rfl hz536392.symm (Nat.le_of_ble_eq_true rfl) rfl ?_
                          refine G_goto 75 dr_cX17_findDepth_122 (by decide +kernel) ?_
                          exact ih75_535021 z536392 gl535021 (gB_w bz536392 (by decide) (by decide)) (fun k e1 ht => kt75_535022 k e1 (fun R c1 c2 c3 c4 => c3 g535020 gl535021 p530695 u536325 u536326 q530692 q536353 p536335 o536388 z536392 k e1 bg535020 fq535023 r536324 hu536325 hu536326 lhc536328 fq536358 hx536354 fq536376 ht536382 bo536388 ht536389 r536391 ez536392 (ht R c1 c2 c3 c4))) (mz_up ez536392 (Int.le_trans bg535020'.2 (by decide)) hm75_535021)
                        · have r536393 : o536388.toInt ≠ 0 := gj_neq hc536390 (show Int32.toInt 0 = 0 by decide)
                          have bo536388' : gB o536388 1 1 := gB_t1 bo536388 r536393
                          refine G_lload 1 dr_cX17_findDepth_110 rfl ?_
                          refine G_lconst 1 dr_cX17_findDepth_112 rfl ?_
                          refine G_iload 0 dr_cX17_findDepth_113 rfl ?_
                          refine G_lshl dr_cX17_findDepth_115 (G_namL fun u536394 hu536394 => ?_)
                          have qu536394 : lb_Q u536394 (g535020.toInt % 64 + 1) := lb_Qshl hu536394 (by omega)
                          refine G_lor dr_cX17_findDepth_116 (G_namL fun u536395 hu536395 => ?_)
                          have pmu536395 : rpop gl535021 ≤ rpop u536395 := rpop_or hu536395
                          refine G_lstore (L' := [(7, .long u536395), (9, .int g535020), (5, .long u533660), (4, .int g533551), (2, .long ol530726), (0, .ref q410278), (1, .ref q410279)]) dr_cX17_findDepth_117 (Nat.le_of_ble_eq_true rfl) rfl ?_
                          obtain ⟨z536396, hz536396⟩ : ∃ z : Int32, z = g535020 + Int32.ofInt 1 := ⟨_, rfl⟩
                          have ez536396 : z536396.toInt = g535020.toInt + 1 := gI_inc hz536396 (by decide) bg535020' (by decide) (by decide)
                          have bz536396 : gB z536396 1 1000000 := ⟨by omega, by omega⟩
                          refine G_iinc (L' := [(9, .int z536396), (7, .long u536395), (5, .long u533660), (4, .int g533551), (2, .long ol530726), (0, .ref q410278), (1, .ref q410279)]) z536396 1 dr_cX17_findDepth_119 rfl hz536396.symm (Nat.le_of_ble_eq_true rfl) rfl ?_
                          refine G_goto 75 dr_cX17_findDepth_122 (by decide +kernel) ?_
                          exact ih75_535021 z536396 u536395 (gB_w bz536396 (by decide) (by decide)) (fun k e1 ht => kt75_535022 k e1 (fun R c1 c2 c3 c4 => c4 g535020 gl535021 p530695 u536325 u536326 q530692 q536353 p536335 o536388 u536394 u536395 z536396 k e1 bg535020 fq535023 r536324 hu536325 hu536326 lhc536328 fq536358 hx536354 fq536376 ht536382 bo536388 ht536389 r536393 hu536394 hu536395 ez536396 (ht R c1 c2 c3 c4))) (mz_up ez536396 (Int.le_trans bg535020'.2 (by decide)) hm75_535021)
                exact hlp75_535021 (((1000001 : Int) - 0).toNat + 1) 0 0 (gB_w (gBl (show Int32.toInt 0 = 0 by decide)) (by decide) (by decide)) (fun k e1 ht => ht) (Nat.lt_succ_self _)
              · have r536397 : z533649.toInt = 0 := gj_eq hc533650 (show Int32.toInt 0 = 0 by decide)
                have bz533649' : gB z533649 0 0 := ⟨by omega, by omega⟩
                have lhc533650 := gC_cmpE hz533649 hc533650
                refine G_goto 333 dr_cX17_findDepth_52 (by decide +kernel) ?_
                obtain ⟨z536398, hz536398⟩ : ∃ z : Int32, z = g533551 + Int32.ofInt 1 := ⟨_, rfl⟩
                have ez536398 : z536398.toInt = g533551.toInt + 1 := gI_inc hz536398 (by decide) bg533551' (by decide) (by decide)
                have bz536398 : gB z536398 1 1000000 := ⟨by omega, by omega⟩
                refine G_iinc (L' := [(4, .int z536398), (2, .long ol530726), (0, .ref q410278), (1, .ref q410279)]) z536398 0 dr_cX17_findDepth_333 rfl hz536398.symm (Nat.le_of_ble_eq_true rfl) rfl ?_
                refine G_goto 32 dr_cX17_findDepth_336 (by decide +kernel) ?_
                exact ih32_533556 F533552 z536398 (gB_w bz536398 (by decide) (by decide)) hT533553 hs533554 x533555 x533556 (fun k e1 ht => kt32_533557 k e1 (fun R c1 c2 c3 c4 => c4 F533552 g533551 p530695 u533647 u533648 z536398 k e1 bg533551 hT533553 hs533554 x533555 x533556 fq533563 r533646 hu533647 hu533648 lhc533650 ez536398 (ht R c1 c2 c3 c4))) (mz_up ez536398 (Int.le_trans bg533551'.2 (by decide)) hm32_533556)
        exact hlp32_533556 (((1000001 : Int) - 0).toNat + 1) F530680 0 (gB_w (gBl (show Int32.toInt 0 = 0 by decide)) (by decide) (by decide)) hT530681 hs530682 x530683 x530684 (fun k e1 ht => ht) (Nat.lt_succ_self _)
      · have r536399 : g530679.toInt < p530695.toInt := gC_nle hc530718
        have bg530679' : gB g530679 0 999999 := ⟨by omega, by omega⟩
        have bp530695' : gB p530695 1 1000000 := ⟨by omega, by omega⟩
        refine G_aload_n 1 dr_cX17_findDepth_10 rfl ?_
        have fq536400 : fR (F530680 q410278) 4 = (γ 9 4) := by rw [he530688]; rfl
        refine Gp_get 4 hm530689 he530688 dr_cX17_findDepth_11 (gk_X17 D I) (Nat.le_of_ble_eq_true rfl) wr_7_78 rfl ?_
        refine G_iload_n 0 dr_cX17_findDepth_14 rfl ?_
        refine G_iconst 0 dr_cX17_findDepth_15 (by decide +kernel) ?_
        have hm536401 : (γ 9 4) ∈ P410276 := RS_m hT530681 ht410307 (by decide)
        obtain ⟨f536403, he536402⟩ := show rk_16 I (F530680 (γ 9 4)) from RS_o hT530681 ht410307
        refine Gp_iast 0 hm536401 he536402 dr_cX17_findDepth_16 rfl (gB_inr (by omega) (by omega)) (fun F536404 e536405 n536406 => ?_)
        obtain ⟨f536407, hf536407⟩ : ∃ z, z = upd f536403 g530679.toNatClampNeg 0 := ⟨_, rfl⟩
        rw [← hf536407] at e536405
        have he536408 : F536404 q410278 = .inr (22, [.ref (γ 9 0), .ref (γ 9 1), .ref (γ 9 2), .ref (γ 9 3), .ref (γ 9 4), .ref (γ 9 5), .ref (γ 9 6), .ref (γ 9 7), .ref (γ 9 8), .int p410286, .int p410287, .int p410288, .int p410289, .int p410290, .int p410291, .ref (γ 9 15), .ref (γ 9 16), .ref (γ 9 17), .ref (γ 9 18), .ref (γ 9 19), .ref (γ 9 20), .ref (γ 9 21), .ref (γ 9 22), .int p410292, .int p410293, .int p410294, .int p410295, .int p410296, .ref q410284, .ref (γ 9 29), .int p410297, .ref (γ 9 31), .int p410298, .int p410299, .int p410300, .ref q410285]) := (n536406 q410278 (rn_oa he530688 he536402)).trans he530688
        have he536409 : F536404 q410279 = .inr (18, [.ref q530692, .ref q530693, .int p530694, .int p530695]) := (n536406 q410279 (rn_oa he530691 he536402)).trans he530691
        have he536410 : F536404 (γ 9 4) = .inl (I .int, 40, .inl f536407) := e536405
        have hs536411 : rStr γ [] F410277 F536404 := rStr_put hs530682 n536406 ht410307 (by decide)
        have kp536412 : F536404 q410278 = F410277 q410278 := (n536406 q410278 (rn_ty htq410278 ht410307 (by decide))).trans x530683
        have kp536413 : F536404 (γ 9 3) = F410277 (γ 9 3) := (n536406 (γ 9 3) (rn_ty ht410306 ht410307 (by decide))).trans x530684
        obtain ⟨z536414, hz536414⟩ : ∃ z : Int32, z = g530679 + Int32.ofInt 1 := ⟨_, rfl⟩
        have ez536414 : z536414.toInt = g530679.toInt + 1 := gI_inc hz536414 (by decide) bg530679' (by decide) (by decide)
        have bz536414 : gB z536414 1 1000000 := ⟨by omega, by omega⟩
        refine G_iinc (L' := [(2, .int z536414), (0, .ref q410278), (1, .ref q410279)]) z536414 0 dr_cX17_findDepth_17 rfl hz536414.symm (Nat.le_of_ble_eq_true rfl) rfl ?_
        refine G_goto 2 dr_cX17_findDepth_20 (by decide +kernel) ?_
        have hT536415 : RS D I P410276 F536404 γ el := RS_set hT530681 n536406 ht410307 (by decide) ⟨f536407, he536410⟩
        exact ih2_530684 F536404 z536414 (gB_w bz536414 (by decide) (by decide)) hT536415 hs536411 kp536412 kp536413 (fun k e1 ht => kt2_530685 k e1 (fun R c1 c2 => c2 F530680 g530679 p530695 f536403 f536407 F536404 z536414 k e1 bg530679 hT530681 hs530682 x530683 x530684 fq530712 r536399 fq536400 he536402 hf536407 n536406 he536410 ez536414 (ht R c1 c2))) (mz_up ez536414 (Int.le_trans bg530679'.2 (by decide)) hm2_530684)
  exact hlp2_530684 (((1000001 : Int) - 0).toNat + 1) F410277 0 (gB_w (gBl (show Int32.toInt 0 = 0 by decide)) (by decide) (by decide)) hT (rStr_rf (γ := γ) (W := []) (F := F410277)) rfl rfl (fun k e1 ht => ht) (Nat.lt_succ_self _)
/- tl_RModel_weigh_74: F, l5; out: F -/
def tl_RModel_weigh_74 (D : va_G) (I : FieldType → ClassId) (γ el : Nat → Nat → Nat) (P : List Nat) (F : Nat → va_E) (q0 : Nat) (c1 : Nat) (l3_2 : Int32) (s1 : Nat → va_E) (s2 : Int32) (k : Nat) (e1 : Nat → va_E) : Prop := ∀ R : (Nat → va_E) → (Int32) → Nat → (Nat → va_E) → Prop,
  (∀ (F_2 : Nat → va_E) (l5_2 : Int32) (x1 : Nat) (x2 : Int32), gB l5_2 0 1000001 → RS D I P F_2 γ el → rStr γ [] F F_2 → (F_2 q0 = F q0) → (F_2 (γ 9 3) = F (γ 9 3)) → fR (F_2 c1) 0 = x1 → x2.toInt = (γ 2 x1 : Int) → fI (F_2 x1) 2 = x2 → x2.toInt < l5_2.toInt → R F_2 l5_2 195 F_2) →
  (∀ (F_2 : Nat → va_E) (l5_2 : Int32) (x1 : Nat) (x2 : Int32) (x3 : Nat) (x4 : Int32) (x5 : Int32) (x6 : Int32) (x7 : Int32) (x8 : Int32) (x9 : Int32) (x10 : Int32) (k : Nat) (e1 : Nat → va_E), gB l5_2 0 1000001 → RS D I P F_2 γ el → rStr γ [] F F_2 → (F_2 q0 = F q0) → (F_2 (γ 9 3) = F (γ 9 3)) → fR (F_2 c1) 0 = x1 → x2.toInt = (γ 2 x1 : Int) → fI (F_2 x1) 2 = x2 → l5_2.toInt ≤ x2.toInt → x2.toInt = (γ 2 x1 : Int) → x2.toInt ≤ l5_2.toInt → fR (F_2 c1) 1 = x3 → fI (F_2 x3) 0 = x4 → gB x5 0 1 → tr_RRow_sets x4 x5 → x5.toInt = 0 → fI (F_2 x3) 5 = x6 → gB x7 0 1 → tr_RRow_usesA x4 x6 x7 → x7.toInt = 0 → fI (F_2 x3) 6 = x8 → gB x9 0 1 → tr_RRow_usesB x4 x8 x9 → x9.toInt = 0 → x10.toInt = l5_2.toInt + 1 → R F_2 x10 k e1 → R F_2 l5_2 k e1) →
  (∀ (F_2 : Nat → va_E) (l5_2 : Int32) (x1 : Nat) (x2 : Int32) (x3 : Nat) (x4 : Int32) (x5 : Int32) (x6 : Int32) (x7 : Int32) (x8 : Int32) (x9 : Int32) (x10 : Int32) (x11 : Nat → Int32) (x12 : Int32) (x13 : Int32) (x14 : Nat → Int32) (x15 : Nat → va_E) (x16 : Int32) (k : Nat) (e1 : Nat → va_E), gB l5_2 0 1000001 → RS D I P F_2 γ el → rStr γ [] F F_2 → (F_2 q0 = F q0) → (F_2 (γ 9 3) = F (γ 9 3)) → fR (F_2 c1) 0 = x1 → x2.toInt = (γ 2 x1 : Int) → fI (F_2 x1) 2 = x2 → l5_2.toInt ≤ x2.toInt → x2.toInt = (γ 2 x1 : Int) → x2.toInt ≤ l5_2.toInt → fR (F_2 c1) 1 = x3 → fI (F_2 x3) 0 = x4 → gB x5 0 1 → tr_RRow_sets x4 x5 → x5.toInt = 0 → fI (F_2 x3) 5 = x6 → gB x7 0 1 → tr_RRow_usesA x4 x6 x7 → x7.toInt = 0 → fI (F_2 x3) 6 = x8 → gB x9 0 1 → tr_RRow_usesB x4 x8 x9 → x9.toInt ≠ 0 → fR (F_2 q0) 5 = (γ 9 5) → fI (F_2 x3) 3 = x10 → F_2 (γ 9 5) = .inl (I .int, 2000, .inl x11) → x12 = x11 x10.toNatClampNeg → x13 = x12 + l3_2 → x14 = upd x11 x10.toNatClampNeg x13 → (∀ b, b ≠ (γ 9 5) → x15 b = F_2 b) → x15 (γ 9 5) = .inl (I .int, 2000, .inl x14) → x16.toInt = l5_2.toInt + 1 → R x15 x16 k e1 → R F_2 l5_2 k e1) →
  (∀ (F_2 : Nat → va_E) (l5_2 : Int32) (x1 : Nat) (x2 : Int32) (x3 : Nat) (x4 : Int32) (x5 : Int32) (x6 : Int32) (x7 : Int32) (x8 : Int32) (x9 : Nat → Int32) (x10 : Int32) (x11 : Int32) (x12 : Nat → Int32) (x13 : Nat → va_E) (x14 : Int32) (x15 : Int32) (x16 : Int32) (k : Nat) (e1 : Nat → va_E), gB l5_2 0 1000001 → RS D I P F_2 γ el → rStr γ [] F F_2 → (F_2 q0 = F q0) → (F_2 (γ 9 3) = F (γ 9 3)) → fR (F_2 c1) 0 = x1 → x2.toInt = (γ 2 x1 : Int) → fI (F_2 x1) 2 = x2 → l5_2.toInt ≤ x2.toInt → x2.toInt = (γ 2 x1 : Int) → x2.toInt ≤ l5_2.toInt → fR (F_2 c1) 1 = x3 → fI (F_2 x3) 0 = x4 → gB x5 0 1 → tr_RRow_sets x4 x5 → x5.toInt = 0 → fI (F_2 x3) 5 = x6 → gB x7 0 1 → tr_RRow_usesA x4 x6 x7 → x7.toInt ≠ 0 → fR (F_2 q0) 5 = (γ 9 5) → fI (F_2 x3) 2 = x8 → F_2 (γ 9 5) = .inl (I .int, 2000, .inl x9) → x10 = x9 x8.toNatClampNeg → x11 = x10 + l3_2 → x12 = upd x9 x8.toNatClampNeg x11 → (∀ b, b ≠ (γ 9 5) → x13 b = F_2 b) → x13 (γ 9 5) = .inl (I .int, 2000, .inl x12) → fI (x13 x3) 0 = x4 → fI (x13 x3) 6 = x14 → gB x15 0 1 → tr_RRow_usesB x4 x14 x15 → x15.toInt = 0 → x16.toInt = l5_2.toInt + 1 → R x13 x16 k e1 → R F_2 l5_2 k e1) →
  (∀ (F_2 : Nat → va_E) (l5_2 : Int32) (x1 : Nat) (x2 : Int32) (x3 : Nat) (x4 : Int32) (x5 : Int32) (x6 : Int32) (x7 : Int32) (x8 : Int32) (x9 : Nat → Int32) (x10 : Int32) (x11 : Int32) (x12 : Nat → Int32) (x13 : Nat → va_E) (x14 : Int32) (x15 : Int32) (x16 : Int32) (x17 : Int32) (x18 : Int32) (x19 : Nat → Int32) (x20 : Nat → va_E) (x21 : Int32) (k : Nat) (e1 : Nat → va_E), gB l5_2 0 1000001 → RS D I P F_2 γ el → rStr γ [] F F_2 → (F_2 q0 = F q0) → (F_2 (γ 9 3) = F (γ 9 3)) → fR (F_2 c1) 0 = x1 → x2.toInt = (γ 2 x1 : Int) → fI (F_2 x1) 2 = x2 → l5_2.toInt ≤ x2.toInt → x2.toInt = (γ 2 x1 : Int) → x2.toInt ≤ l5_2.toInt → fR (F_2 c1) 1 = x3 → fI (F_2 x3) 0 = x4 → gB x5 0 1 → tr_RRow_sets x4 x5 → x5.toInt = 0 → fI (F_2 x3) 5 = x6 → gB x7 0 1 → tr_RRow_usesA x4 x6 x7 → x7.toInt ≠ 0 → fR (F_2 q0) 5 = (γ 9 5) → fI (F_2 x3) 2 = x8 → F_2 (γ 9 5) = .inl (I .int, 2000, .inl x9) → x10 = x9 x8.toNatClampNeg → x11 = x10 + l3_2 → x12 = upd x9 x8.toNatClampNeg x11 → (∀ b, b ≠ (γ 9 5) → x13 b = F_2 b) → x13 (γ 9 5) = .inl (I .int, 2000, .inl x12) → fI (x13 x3) 0 = x4 → fI (x13 x3) 6 = x14 → gB x15 0 1 → tr_RRow_usesB x4 x14 x15 → x15.toInt ≠ 0 → fR (x13 q0) 5 = (γ 9 5) → fI (x13 x3) 3 = x16 → x13 (γ 9 5) = .inl (I .int, 2000, .inl x12) → x17 = x12 x16.toNatClampNeg → x18 = x17 + l3_2 → x19 = upd x12 x16.toNatClampNeg x18 → (∀ b, b ≠ (γ 9 5) → x20 b = x13 b) → x20 (γ 9 5) = .inl (I .int, 2000, .inl x19) → x21.toInt = l5_2.toInt + 1 → R x20 x21 k e1 → R F_2 l5_2 k e1) →
  (∀ (F_2 : Nat → va_E) (l5_2 : Int32) (x1 : Nat) (x2 : Int32) (x3 : Nat) (x4 : Int32) (x5 : Int32) (x6 : Int32) (x7 : Nat → Int32) (x8 : Int32) (x9 : Int32) (x10 : Nat → Int32) (x11 : Nat → va_E) (x12 : Int32) (x13 : Int32) (x14 : Int32) (x15 : Int32) (x16 : Int32) (k : Nat) (e1 : Nat → va_E), gB l5_2 0 1000001 → RS D I P F_2 γ el → rStr γ [] F F_2 → (F_2 q0 = F q0) → (F_2 (γ 9 3) = F (γ 9 3)) → fR (F_2 c1) 0 = x1 → x2.toInt = (γ 2 x1 : Int) → fI (F_2 x1) 2 = x2 → l5_2.toInt ≤ x2.toInt → x2.toInt = (γ 2 x1 : Int) → x2.toInt ≤ l5_2.toInt → fR (F_2 c1) 1 = x3 → fI (F_2 x3) 0 = x4 → gB x5 0 1 → tr_RRow_sets x4 x5 → x5.toInt ≠ 0 → fR (F_2 q0) 5 = (γ 9 5) → fI (F_2 x3) 1 = x6 → F_2 (γ 9 5) = .inl (I .int, 2000, .inl x7) → x8 = x7 x6.toNatClampNeg → x9 = x8 + l3_2 → x10 = upd x7 x6.toNatClampNeg x9 → (∀ b, b ≠ (γ 9 5) → x11 b = F_2 b) → x11 (γ 9 5) = .inl (I .int, 2000, .inl x10) → fI (x11 x3) 0 = x4 → fI (x11 x3) 5 = x12 → gB x13 0 1 → tr_RRow_usesA x4 x12 x13 → x13.toInt = 0 → fI (x11 x3) 6 = x14 → gB x15 0 1 → tr_RRow_usesB x4 x14 x15 → x15.toInt = 0 → x16.toInt = l5_2.toInt + 1 → R x11 x16 k e1 → R F_2 l5_2 k e1) →
  (∀ (F_2 : Nat → va_E) (l5_2 : Int32) (x1 : Nat) (x2 : Int32) (x3 : Nat) (x4 : Int32) (x5 : Int32) (x6 : Int32) (x7 : Nat → Int32) (x8 : Int32) (x9 : Int32) (x10 : Nat → Int32) (x11 : Nat → va_E) (x12 : Int32) (x13 : Int32) (x14 : Int32) (x15 : Int32) (x16 : Int32) (x17 : Int32) (x18 : Int32) (x19 : Nat → Int32) (x20 : Nat → va_E) (x21 : Int32) (k : Nat) (e1 : Nat → va_E), gB l5_2 0 1000001 → RS D I P F_2 γ el → rStr γ [] F F_2 → (F_2 q0 = F q0) → (F_2 (γ 9 3) = F (γ 9 3)) → fR (F_2 c1) 0 = x1 → x2.toInt = (γ 2 x1 : Int) → fI (F_2 x1) 2 = x2 → l5_2.toInt ≤ x2.toInt → x2.toInt = (γ 2 x1 : Int) → x2.toInt ≤ l5_2.toInt → fR (F_2 c1) 1 = x3 → fI (F_2 x3) 0 = x4 → gB x5 0 1 → tr_RRow_sets x4 x5 → x5.toInt ≠ 0 → fR (F_2 q0) 5 = (γ 9 5) → fI (F_2 x3) 1 = x6 → F_2 (γ 9 5) = .inl (I .int, 2000, .inl x7) → x8 = x7 x6.toNatClampNeg → x9 = x8 + l3_2 → x10 = upd x7 x6.toNatClampNeg x9 → (∀ b, b ≠ (γ 9 5) → x11 b = F_2 b) → x11 (γ 9 5) = .inl (I .int, 2000, .inl x10) → fI (x11 x3) 0 = x4 → fI (x11 x3) 5 = x12 → gB x13 0 1 → tr_RRow_usesA x4 x12 x13 → x13.toInt = 0 → fI (x11 x3) 6 = x14 → gB x15 0 1 → tr_RRow_usesB x4 x14 x15 → x15.toInt ≠ 0 → fR (x11 q0) 5 = (γ 9 5) → fI (x11 x3) 3 = x16 → x11 (γ 9 5) = .inl (I .int, 2000, .inl x10) → x17 = x10 x16.toNatClampNeg → x18 = x17 + l3_2 → x19 = upd x10 x16.toNatClampNeg x18 → (∀ b, b ≠ (γ 9 5) → x20 b = x11 b) → x20 (γ 9 5) = .inl (I .int, 2000, .inl x19) → x21.toInt = l5_2.toInt + 1 → R x20 x21 k e1 → R F_2 l5_2 k e1) →
  (∀ (F_2 : Nat → va_E) (l5_2 : Int32) (x1 : Nat) (x2 : Int32) (x3 : Nat) (x4 : Int32) (x5 : Int32) (x6 : Int32) (x7 : Nat → Int32) (x8 : Int32) (x9 : Int32) (x10 : Nat → Int32) (x11 : Nat → va_E) (x12 : Int32) (x13 : Int32) (x14 : Int32) (x15 : Int32) (x16 : Int32) (x17 : Nat → Int32) (x18 : Nat → va_E) (x19 : Int32) (x20 : Int32) (x21 : Int32) (k : Nat) (e1 : Nat → va_E), gB l5_2 0 1000001 → RS D I P F_2 γ el → rStr γ [] F F_2 → (F_2 q0 = F q0) → (F_2 (γ 9 3) = F (γ 9 3)) → fR (F_2 c1) 0 = x1 → x2.toInt = (γ 2 x1 : Int) → fI (F_2 x1) 2 = x2 → l5_2.toInt ≤ x2.toInt → x2.toInt = (γ 2 x1 : Int) → x2.toInt ≤ l5_2.toInt → fR (F_2 c1) 1 = x3 → fI (F_2 x3) 0 = x4 → gB x5 0 1 → tr_RRow_sets x4 x5 → x5.toInt ≠ 0 → fR (F_2 q0) 5 = (γ 9 5) → fI (F_2 x3) 1 = x6 → F_2 (γ 9 5) = .inl (I .int, 2000, .inl x7) → x8 = x7 x6.toNatClampNeg → x9 = x8 + l3_2 → x10 = upd x7 x6.toNatClampNeg x9 → (∀ b, b ≠ (γ 9 5) → x11 b = F_2 b) → x11 (γ 9 5) = .inl (I .int, 2000, .inl x10) → fI (x11 x3) 0 = x4 → fI (x11 x3) 5 = x12 → gB x13 0 1 → tr_RRow_usesA x4 x12 x13 → x13.toInt ≠ 0 → fR (x11 q0) 5 = (γ 9 5) → fI (x11 x3) 2 = x14 → x11 (γ 9 5) = .inl (I .int, 2000, .inl x10) → x15 = x10 x14.toNatClampNeg → x16 = x15 + l3_2 → x17 = upd x10 x14.toNatClampNeg x16 → (∀ b, b ≠ (γ 9 5) → x18 b = x11 b) → x18 (γ 9 5) = .inl (I .int, 2000, .inl x17) → fI (x18 x3) 0 = x4 → fI (x18 x3) 6 = x19 → gB x20 0 1 → tr_RRow_usesB x4 x19 x20 → x20.toInt = 0 → x21.toInt = l5_2.toInt + 1 → R x18 x21 k e1 → R F_2 l5_2 k e1) →
  (∀ (F_2 : Nat → va_E) (l5_2 : Int32) (x1 : Nat) (x2 : Int32) (x3 : Nat) (x4 : Int32) (x5 : Int32) (x6 : Int32) (x7 : Nat → Int32) (x8 : Int32) (x9 : Int32) (x10 : Nat → Int32) (x11 : Nat → va_E) (x12 : Int32) (x13 : Int32) (x14 : Int32) (x15 : Int32) (x16 : Int32) (x17 : Nat → Int32) (x18 : Nat → va_E) (x19 : Int32) (x20 : Int32) (x21 : Int32) (x22 : Int32) (x23 : Int32) (x24 : Nat → Int32) (x25 : Nat → va_E) (x26 : Int32) (k : Nat) (e1 : Nat → va_E), gB l5_2 0 1000001 → RS D I P F_2 γ el → rStr γ [] F F_2 → (F_2 q0 = F q0) → (F_2 (γ 9 3) = F (γ 9 3)) → fR (F_2 c1) 0 = x1 → x2.toInt = (γ 2 x1 : Int) → fI (F_2 x1) 2 = x2 → l5_2.toInt ≤ x2.toInt → x2.toInt = (γ 2 x1 : Int) → x2.toInt ≤ l5_2.toInt → fR (F_2 c1) 1 = x3 → fI (F_2 x3) 0 = x4 → gB x5 0 1 → tr_RRow_sets x4 x5 → x5.toInt ≠ 0 → fR (F_2 q0) 5 = (γ 9 5) → fI (F_2 x3) 1 = x6 → F_2 (γ 9 5) = .inl (I .int, 2000, .inl x7) → x8 = x7 x6.toNatClampNeg → x9 = x8 + l3_2 → x10 = upd x7 x6.toNatClampNeg x9 → (∀ b, b ≠ (γ 9 5) → x11 b = F_2 b) → x11 (γ 9 5) = .inl (I .int, 2000, .inl x10) → fI (x11 x3) 0 = x4 → fI (x11 x3) 5 = x12 → gB x13 0 1 → tr_RRow_usesA x4 x12 x13 → x13.toInt ≠ 0 → fR (x11 q0) 5 = (γ 9 5) → fI (x11 x3) 2 = x14 → x11 (γ 9 5) = .inl (I .int, 2000, .inl x10) → x15 = x10 x14.toNatClampNeg → x16 = x15 + l3_2 → x17 = upd x10 x14.toNatClampNeg x16 → (∀ b, b ≠ (γ 9 5) → x18 b = x11 b) → x18 (γ 9 5) = .inl (I .int, 2000, .inl x17) → fI (x18 x3) 0 = x4 → fI (x18 x3) 6 = x19 → gB x20 0 1 → tr_RRow_usesB x4 x19 x20 → x20.toInt ≠ 0 → fR (x18 q0) 5 = (γ 9 5) → fI (x18 x3) 3 = x21 → x18 (γ 9 5) = .inl (I .int, 2000, .inl x17) → x22 = x17 x21.toNatClampNeg → x23 = x22 + l3_2 → x24 = upd x17 x21.toNatClampNeg x23 → (∀ b, b ≠ (γ 9 5) → x25 b = x18 b) → x25 (γ 9 5) = .inl (I .int, 2000, .inl x24) → x26.toInt = l5_2.toInt + 1 → R x25 x26 k e1 → R F_2 l5_2 k e1) →
  (∀ (F_2 : Nat → va_E) (l5_2 : Int32) (x1 : Nat) (x2 : Int32) (x3 : Nat) (x4 : Int32) (x5 : Int32) (x6 : Int32) (x7 : Int32) (x8 : Int32) (x9 : Int32) (x10 : Int32) (k : Nat) (e1 : Nat → va_E), gB l5_2 0 1000001 → RS D I P F_2 γ el → rStr γ [] F F_2 → (F_2 q0 = F q0) → (F_2 (γ 9 3) = F (γ 9 3)) → fR (F_2 c1) 0 = x1 → x2.toInt = (γ 2 x1 : Int) → fI (F_2 x1) 2 = x2 → l5_2.toInt ≤ x2.toInt → x2.toInt = (γ 2 x1 : Int) → l5_2.toInt < x2.toInt → x3 = el x1 l5_2.toInt.toNat → tr_RArrayList_get l5_2 x2 → fI (F_2 x3) 0 = x4 → gB x5 0 1 → tr_RRow_sets x4 x5 → x5.toInt = 0 → fI (F_2 x3) 5 = x6 → gB x7 0 1 → tr_RRow_usesA x4 x6 x7 → x7.toInt = 0 → fI (F_2 x3) 6 = x8 → gB x9 0 1 → tr_RRow_usesB x4 x8 x9 → x9.toInt = 0 → x10.toInt = l5_2.toInt + 1 → R F_2 x10 k e1 → R F_2 l5_2 k e1) →
  (∀ (F_2 : Nat → va_E) (l5_2 : Int32) (x1 : Nat) (x2 : Int32) (x3 : Nat) (x4 : Int32) (x5 : Int32) (x6 : Int32) (x7 : Int32) (x8 : Int32) (x9 : Int32) (x10 : Int32) (x11 : Nat → Int32) (x12 : Int32) (x13 : Int32) (x14 : Nat → Int32) (x15 : Nat → va_E) (x16 : Int32) (k : Nat) (e1 : Nat → va_E), gB l5_2 0 1000001 → RS D I P F_2 γ el → rStr γ [] F F_2 → (F_2 q0 = F q0) → (F_2 (γ 9 3) = F (γ 9 3)) → fR (F_2 c1) 0 = x1 → x2.toInt = (γ 2 x1 : Int) → fI (F_2 x1) 2 = x2 → l5_2.toInt ≤ x2.toInt → x2.toInt = (γ 2 x1 : Int) → l5_2.toInt < x2.toInt → x3 = el x1 l5_2.toInt.toNat → tr_RArrayList_get l5_2 x2 → fI (F_2 x3) 0 = x4 → gB x5 0 1 → tr_RRow_sets x4 x5 → x5.toInt = 0 → fI (F_2 x3) 5 = x6 → gB x7 0 1 → tr_RRow_usesA x4 x6 x7 → x7.toInt = 0 → fI (F_2 x3) 6 = x8 → gB x9 0 1 → tr_RRow_usesB x4 x8 x9 → x9.toInt ≠ 0 → fR (F_2 q0) 5 = (γ 9 5) → fI (F_2 x3) 3 = x10 → F_2 (γ 9 5) = .inl (I .int, 2000, .inl x11) → x12 = x11 x10.toNatClampNeg → x13 = x12 + l3_2 → x14 = upd x11 x10.toNatClampNeg x13 → (∀ b, b ≠ (γ 9 5) → x15 b = F_2 b) → x15 (γ 9 5) = .inl (I .int, 2000, .inl x14) → x16.toInt = l5_2.toInt + 1 → R x15 x16 k e1 → R F_2 l5_2 k e1) →
  (∀ (F_2 : Nat → va_E) (l5_2 : Int32) (x1 : Nat) (x2 : Int32) (x3 : Nat) (x4 : Int32) (x5 : Int32) (x6 : Int32) (x7 : Int32) (x8 : Int32) (x9 : Nat → Int32) (x10 : Int32) (x11 : Int32) (x12 : Nat → Int32) (x13 : Nat → va_E) (x14 : Int32) (x15 : Int32) (x16 : Int32) (k : Nat) (e1 : Nat → va_E), gB l5_2 0 1000001 → RS D I P F_2 γ el → rStr γ [] F F_2 → (F_2 q0 = F q0) → (F_2 (γ 9 3) = F (γ 9 3)) → fR (F_2 c1) 0 = x1 → x2.toInt = (γ 2 x1 : Int) → fI (F_2 x1) 2 = x2 → l5_2.toInt ≤ x2.toInt → x2.toInt = (γ 2 x1 : Int) → l5_2.toInt < x2.toInt → x3 = el x1 l5_2.toInt.toNat → tr_RArrayList_get l5_2 x2 → fI (F_2 x3) 0 = x4 → gB x5 0 1 → tr_RRow_sets x4 x5 → x5.toInt = 0 → fI (F_2 x3) 5 = x6 → gB x7 0 1 → tr_RRow_usesA x4 x6 x7 → x7.toInt ≠ 0 → fR (F_2 q0) 5 = (γ 9 5) → fI (F_2 x3) 2 = x8 → F_2 (γ 9 5) = .inl (I .int, 2000, .inl x9) → x10 = x9 x8.toNatClampNeg → x11 = x10 + l3_2 → x12 = upd x9 x8.toNatClampNeg x11 → (∀ b, b ≠ (γ 9 5) → x13 b = F_2 b) → x13 (γ 9 5) = .inl (I .int, 2000, .inl x12) → fI (x13 x3) 0 = x4 → fI (x13 x3) 6 = x14 → gB x15 0 1 → tr_RRow_usesB x4 x14 x15 → x15.toInt = 0 → x16.toInt = l5_2.toInt + 1 → R x13 x16 k e1 → R F_2 l5_2 k e1) →
  (∀ (F_2 : Nat → va_E) (l5_2 : Int32) (x1 : Nat) (x2 : Int32) (x3 : Nat) (x4 : Int32) (x5 : Int32) (x6 : Int32) (x7 : Int32) (x8 : Int32) (x9 : Nat → Int32) (x10 : Int32) (x11 : Int32) (x12 : Nat → Int32) (x13 : Nat → va_E) (x14 : Int32) (x15 : Int32) (x16 : Int32) (x17 : Int32) (x18 : Int32) (x19 : Nat → Int32) (x20 : Nat → va_E) (x21 : Int32) (k : Nat) (e1 : Nat → va_E), gB l5_2 0 1000001 → RS D I P F_2 γ el → rStr γ [] F F_2 → (F_2 q0 = F q0) → (F_2 (γ 9 3) = F (γ 9 3)) → fR (F_2 c1) 0 = x1 → x2.toInt = (γ 2 x1 : Int) → fI (F_2 x1) 2 = x2 → l5_2.toInt ≤ x2.toInt → x2.toInt = (γ 2 x1 : Int) → l5_2.toInt < x2.toInt → x3 = el x1 l5_2.toInt.toNat → tr_RArrayList_get l5_2 x2 → fI (F_2 x3) 0 = x4 → gB x5 0 1 → tr_RRow_sets x4 x5 → x5.toInt = 0 → fI (F_2 x3) 5 = x6 → gB x7 0 1 → tr_RRow_usesA x4 x6 x7 → x7.toInt ≠ 0 → fR (F_2 q0) 5 = (γ 9 5) → fI (F_2 x3) 2 = x8 → F_2 (γ 9 5) = .inl (I .int, 2000, .inl x9) → x10 = x9 x8.toNatClampNeg → x11 = x10 + l3_2 → x12 = upd x9 x8.toNatClampNeg x11 → (∀ b, b ≠ (γ 9 5) → x13 b = F_2 b) → x13 (γ 9 5) = .inl (I .int, 2000, .inl x12) → fI (x13 x3) 0 = x4 → fI (x13 x3) 6 = x14 → gB x15 0 1 → tr_RRow_usesB x4 x14 x15 → x15.toInt ≠ 0 → fR (x13 q0) 5 = (γ 9 5) → fI (x13 x3) 3 = x16 → x13 (γ 9 5) = .inl (I .int, 2000, .inl x12) → x17 = x12 x16.toNatClampNeg → x18 = x17 + l3_2 → x19 = upd x12 x16.toNatClampNeg x18 → (∀ b, b ≠ (γ 9 5) → x20 b = x13 b) → x20 (γ 9 5) = .inl (I .int, 2000, .inl x19) → x21.toInt = l5_2.toInt + 1 → R x20 x21 k e1 → R F_2 l5_2 k e1) →
  (∀ (F_2 : Nat → va_E) (l5_2 : Int32) (x1 : Nat) (x2 : Int32) (x3 : Nat) (x4 : Int32) (x5 : Int32) (x6 : Int32) (x7 : Nat → Int32) (x8 : Int32) (x9 : Int32) (x10 : Nat → Int32) (x11 : Nat → va_E) (x12 : Int32) (x13 : Int32) (x14 : Int32) (x15 : Int32) (x16 : Int32) (k : Nat) (e1 : Nat → va_E), gB l5_2 0 1000001 → RS D I P F_2 γ el → rStr γ [] F F_2 → (F_2 q0 = F q0) → (F_2 (γ 9 3) = F (γ 9 3)) → fR (F_2 c1) 0 = x1 → x2.toInt = (γ 2 x1 : Int) → fI (F_2 x1) 2 = x2 → l5_2.toInt ≤ x2.toInt → x2.toInt = (γ 2 x1 : Int) → l5_2.toInt < x2.toInt → x3 = el x1 l5_2.toInt.toNat → tr_RArrayList_get l5_2 x2 → fI (F_2 x3) 0 = x4 → gB x5 0 1 → tr_RRow_sets x4 x5 → x5.toInt ≠ 0 → fR (F_2 q0) 5 = (γ 9 5) → fI (F_2 x3) 1 = x6 → F_2 (γ 9 5) = .inl (I .int, 2000, .inl x7) → x8 = x7 x6.toNatClampNeg → x9 = x8 + l3_2 → x10 = upd x7 x6.toNatClampNeg x9 → (∀ b, b ≠ (γ 9 5) → x11 b = F_2 b) → x11 (γ 9 5) = .inl (I .int, 2000, .inl x10) → fI (x11 x3) 0 = x4 → fI (x11 x3) 5 = x12 → gB x13 0 1 → tr_RRow_usesA x4 x12 x13 → x13.toInt = 0 → fI (x11 x3) 6 = x14 → gB x15 0 1 → tr_RRow_usesB x4 x14 x15 → x15.toInt = 0 → x16.toInt = l5_2.toInt + 1 → R x11 x16 k e1 → R F_2 l5_2 k e1) →
  (∀ (F_2 : Nat → va_E) (l5_2 : Int32) (x1 : Nat) (x2 : Int32) (x3 : Nat) (x4 : Int32) (x5 : Int32) (x6 : Int32) (x7 : Nat → Int32) (x8 : Int32) (x9 : Int32) (x10 : Nat → Int32) (x11 : Nat → va_E) (x12 : Int32) (x13 : Int32) (x14 : Int32) (x15 : Int32) (x16 : Int32) (x17 : Int32) (x18 : Int32) (x19 : Nat → Int32) (x20 : Nat → va_E) (x21 : Int32) (k : Nat) (e1 : Nat → va_E), gB l5_2 0 1000001 → RS D I P F_2 γ el → rStr γ [] F F_2 → (F_2 q0 = F q0) → (F_2 (γ 9 3) = F (γ 9 3)) → fR (F_2 c1) 0 = x1 → x2.toInt = (γ 2 x1 : Int) → fI (F_2 x1) 2 = x2 → l5_2.toInt ≤ x2.toInt → x2.toInt = (γ 2 x1 : Int) → l5_2.toInt < x2.toInt → x3 = el x1 l5_2.toInt.toNat → tr_RArrayList_get l5_2 x2 → fI (F_2 x3) 0 = x4 → gB x5 0 1 → tr_RRow_sets x4 x5 → x5.toInt ≠ 0 → fR (F_2 q0) 5 = (γ 9 5) → fI (F_2 x3) 1 = x6 → F_2 (γ 9 5) = .inl (I .int, 2000, .inl x7) → x8 = x7 x6.toNatClampNeg → x9 = x8 + l3_2 → x10 = upd x7 x6.toNatClampNeg x9 → (∀ b, b ≠ (γ 9 5) → x11 b = F_2 b) → x11 (γ 9 5) = .inl (I .int, 2000, .inl x10) → fI (x11 x3) 0 = x4 → fI (x11 x3) 5 = x12 → gB x13 0 1 → tr_RRow_usesA x4 x12 x13 → x13.toInt = 0 → fI (x11 x3) 6 = x14 → gB x15 0 1 → tr_RRow_usesB x4 x14 x15 → x15.toInt ≠ 0 → fR (x11 q0) 5 = (γ 9 5) → fI (x11 x3) 3 = x16 → x11 (γ 9 5) = .inl (I .int, 2000, .inl x10) → x17 = x10 x16.toNatClampNeg → x18 = x17 + l3_2 → x19 = upd x10 x16.toNatClampNeg x18 → (∀ b, b ≠ (γ 9 5) → x20 b = x11 b) → x20 (γ 9 5) = .inl (I .int, 2000, .inl x19) → x21.toInt = l5_2.toInt + 1 → R x20 x21 k e1 → R F_2 l5_2 k e1) →
  (∀ (F_2 : Nat → va_E) (l5_2 : Int32) (x1 : Nat) (x2 : Int32) (x3 : Nat) (x4 : Int32) (x5 : Int32) (x6 : Int32) (x7 : Nat → Int32) (x8 : Int32) (x9 : Int32) (x10 : Nat → Int32) (x11 : Nat → va_E) (x12 : Int32) (x13 : Int32) (x14 : Int32) (x15 : Int32) (x16 : Int32) (x17 : Nat → Int32) (x18 : Nat → va_E) (x19 : Int32) (x20 : Int32) (x21 : Int32) (k : Nat) (e1 : Nat → va_E), gB l5_2 0 1000001 → RS D I P F_2 γ el → rStr γ [] F F_2 → (F_2 q0 = F q0) → (F_2 (γ 9 3) = F (γ 9 3)) → fR (F_2 c1) 0 = x1 → x2.toInt = (γ 2 x1 : Int) → fI (F_2 x1) 2 = x2 → l5_2.toInt ≤ x2.toInt → x2.toInt = (γ 2 x1 : Int) → l5_2.toInt < x2.toInt → x3 = el x1 l5_2.toInt.toNat → tr_RArrayList_get l5_2 x2 → fI (F_2 x3) 0 = x4 → gB x5 0 1 → tr_RRow_sets x4 x5 → x5.toInt ≠ 0 → fR (F_2 q0) 5 = (γ 9 5) → fI (F_2 x3) 1 = x6 → F_2 (γ 9 5) = .inl (I .int, 2000, .inl x7) → x8 = x7 x6.toNatClampNeg → x9 = x8 + l3_2 → x10 = upd x7 x6.toNatClampNeg x9 → (∀ b, b ≠ (γ 9 5) → x11 b = F_2 b) → x11 (γ 9 5) = .inl (I .int, 2000, .inl x10) → fI (x11 x3) 0 = x4 → fI (x11 x3) 5 = x12 → gB x13 0 1 → tr_RRow_usesA x4 x12 x13 → x13.toInt ≠ 0 → fR (x11 q0) 5 = (γ 9 5) → fI (x11 x3) 2 = x14 → x11 (γ 9 5) = .inl (I .int, 2000, .inl x10) → x15 = x10 x14.toNatClampNeg → x16 = x15 + l3_2 → x17 = upd x10 x14.toNatClampNeg x16 → (∀ b, b ≠ (γ 9 5) → x18 b = x11 b) → x18 (γ 9 5) = .inl (I .int, 2000, .inl x17) → fI (x18 x3) 0 = x4 → fI (x18 x3) 6 = x19 → gB x20 0 1 → tr_RRow_usesB x4 x19 x20 → x20.toInt = 0 → x21.toInt = l5_2.toInt + 1 → R x18 x21 k e1 → R F_2 l5_2 k e1) →
  (∀ (F_2 : Nat → va_E) (l5_2 : Int32) (x1 : Nat) (x2 : Int32) (x3 : Nat) (x4 : Int32) (x5 : Int32) (x6 : Int32) (x7 : Nat → Int32) (x8 : Int32) (x9 : Int32) (x10 : Nat → Int32) (x11 : Nat → va_E) (x12 : Int32) (x13 : Int32) (x14 : Int32) (x15 : Int32) (x16 : Int32) (x17 : Nat → Int32) (x18 : Nat → va_E) (x19 : Int32) (x20 : Int32) (x21 : Int32) (x22 : Int32) (x23 : Int32) (x24 : Nat → Int32) (x25 : Nat → va_E) (x26 : Int32) (k : Nat) (e1 : Nat → va_E), gB l5_2 0 1000001 → RS D I P F_2 γ el → rStr γ [] F F_2 → (F_2 q0 = F q0) → (F_2 (γ 9 3) = F (γ 9 3)) → fR (F_2 c1) 0 = x1 → x2.toInt = (γ 2 x1 : Int) → fI (F_2 x1) 2 = x2 → l5_2.toInt ≤ x2.toInt → x2.toInt = (γ 2 x1 : Int) → l5_2.toInt < x2.toInt → x3 = el x1 l5_2.toInt.toNat → tr_RArrayList_get l5_2 x2 → fI (F_2 x3) 0 = x4 → gB x5 0 1 → tr_RRow_sets x4 x5 → x5.toInt ≠ 0 → fR (F_2 q0) 5 = (γ 9 5) → fI (F_2 x3) 1 = x6 → F_2 (γ 9 5) = .inl (I .int, 2000, .inl x7) → x8 = x7 x6.toNatClampNeg → x9 = x8 + l3_2 → x10 = upd x7 x6.toNatClampNeg x9 → (∀ b, b ≠ (γ 9 5) → x11 b = F_2 b) → x11 (γ 9 5) = .inl (I .int, 2000, .inl x10) → fI (x11 x3) 0 = x4 → fI (x11 x3) 5 = x12 → gB x13 0 1 → tr_RRow_usesA x4 x12 x13 → x13.toInt ≠ 0 → fR (x11 q0) 5 = (γ 9 5) → fI (x11 x3) 2 = x14 → x11 (γ 9 5) = .inl (I .int, 2000, .inl x10) → x15 = x10 x14.toNatClampNeg → x16 = x15 + l3_2 → x17 = upd x10 x14.toNatClampNeg x16 → (∀ b, b ≠ (γ 9 5) → x18 b = x11 b) → x18 (γ 9 5) = .inl (I .int, 2000, .inl x17) → fI (x18 x3) 0 = x4 → fI (x18 x3) 6 = x19 → gB x20 0 1 → tr_RRow_usesB x4 x19 x20 → x20.toInt ≠ 0 → fR (x18 q0) 5 = (γ 9 5) → fI (x18 x3) 3 = x21 → x18 (γ 9 5) = .inl (I .int, 2000, .inl x17) → x22 = x17 x21.toNatClampNeg → x23 = x22 + l3_2 → x24 = upd x17 x21.toNatClampNeg x23 → (∀ b, b ≠ (γ 9 5) → x25 b = x18 b) → x25 (γ 9 5) = .inl (I .int, 2000, .inl x24) → x26.toInt = l5_2.toInt + 1 → R x25 x26 k e1 → R F_2 l5_2 k e1) →
  R s1 s2 k e1
/- tl_RModel_weigh_42: l4, l3; out: l3 -/
def tl_RModel_weigh_42 (D : va_G) (I : FieldType → ClassId) (γ el : Nat → Nat → Nat) (F_1 : Nat → va_E) (q0 : Nat) (l2_1 : Int32) (s1 : Int32) (s2 : Int32) (k : Nat) (e1 : Int32) : Prop := ∀ R : (Int32) → (Int32) → Nat → (Int32) → Prop,
  (∀ (l4_2 : Int32) (l3_2 : Int32) (x1 : Nat → Int32) (x2 : Int32), gB l4_2 0 2147483647 → fR (F_1 q0) 4 = (γ 9 4) → F_1 (γ 9 4) = .inl (I .int, 40, .inl x1) → x2 = x1 l2_1.toNatClampNeg → x2.toInt ≤ l4_2.toInt → R l4_2 l3_2 64 l3_2) →
  (∀ (l4_2 : Int32) (l3_2 : Int32) (x1 : Nat → Int32) (x2 : Int32) (x3 : Int32) (x4 : Int32) (k : Nat) (e1 : Int32), gB l4_2 0 2147483647 → fR (F_1 q0) 4 = (γ 9 4) → F_1 (γ 9 4) = .inl (I .int, 40, .inl x1) → x2 = x1 l2_1.toNatClampNeg → l4_2.toInt < x2.toInt → x3 = l3_2 * (10 : Int32) → x4.toInt = l4_2.toInt + 1 → R x4 x3 k e1 → R l4_2 l3_2 k e1) →
  R s1 s2 k e1
/- tl_RModel_weigh_29: F, l2; out: F -/
def tl_RModel_weigh_29 (D : va_G) (I : FieldType → ClassId) (γ el : Nat → Nat → Nat) (P : List Nat) (F : Nat → va_E) (q0 : Nat) (q1 : Nat) (s1 : Nat → va_E) (s2 : Int32) (k : Nat) (e1 : Nat → va_E) : Prop := ∀ R : (Nat → va_E) → (Int32) → Nat → (Nat → va_E) → Prop,
  (∀ (F_1 : Nat → va_E) (l2_1 : Int32) (x1 : Int32), gB l2_1 0 1000000 → RS D I P F_1 γ el → rStr γ [] F F_1 → (F_1 q0 = F q0) → (F_1 (γ 9 3) = F (γ 9 3)) → fI (F_1 q1) 3 = x1 → x1.toInt ≤ l2_1.toInt → R F_1 l2_1 201 F_1) →
  (∀ (F_1 : Nat → va_E) (l2_1 : Int32) (x1 : Int32) (x2 : Int32) (x3 : Nat) (x4 : Nat) (x5 : Int32) (x6 : Nat → va_E) (x7 : Int32) (k : Nat) (e1 : Nat → va_E), gB l2_1 0 1000000 → RS D I P F_1 γ el → rStr γ [] F F_1 → (F_1 q0 = F q0) → (F_1 (γ 9 3) = F (γ 9 3)) → fI (F_1 q1) 3 = x1 → l2_1.toInt < x1.toInt → tl_RModel_weigh_42 D I γ el F_1 q0 l2_1 (0 : Int32) (1 : Int32) 64 x2 → fR (F_1 q1) 0 = x3 → x4 = el x3 l2_1.toInt.toNat → fI (F_1 x3) 2 = x5 → tr_RCode_get l2_1 x5 → tl_RModel_weigh_74 D I γ el P F q0 x4 x2 F_1 (0 : Int32) 195 x6 → x7.toInt = l2_1.toInt + 1 → R x6 x7 k e1 → R F_1 l2_1 k e1) →
  R s1 s2 k e1
/- tl_RModel_weigh_7: F, l2; out: F -/
def tl_RModel_weigh_7 (D : va_G) (I : FieldType → ClassId) (γ el : Nat → Nat → Nat) (P : List Nat) (F : Nat → va_E) (q0 : Nat) (s1 : Nat → va_E) (s2 : Int32) (k : Nat) (e1 : Nat → va_E) : Prop := ∀ R : (Nat → va_E) → (Int32) → Nat → (Nat → va_E) → Prop,
  (∀ (F_1 : Nat → va_E) (l2_1 : Int32), gB l2_1 0 2000 → RS D I P F_1 γ el → rStr γ [] F F_1 → (F_1 q0 = F q0) → (F_1 (γ 9 3) = F (γ 9 3)) → 2000 ≤ l2_1.toInt → R F_1 l2_1 27 F_1) →
  (∀ (F_1 : Nat → va_E) (l2_1 : Int32) (x1 : Nat → Int32) (x2 : Nat → Int32) (x3 : Nat → va_E) (x4 : Int32) (k : Nat) (e1 : Nat → va_E), gB l2_1 0 2000 → RS D I P F_1 γ el → rStr γ [] F F_1 → (F_1 q0 = F q0) → (F_1 (γ 9 3) = F (γ 9 3)) → l2_1.toInt < 2000 → fR (F_1 q0) 5 = (γ 9 5) → F_1 (γ 9 5) = .inl (I .int, 2000, .inl x1) → x2 = upd x1 l2_1.toNatClampNeg 0 → (∀ b, b ≠ (γ 9 5) → x3 b = F_1 b) → x3 (γ 9 5) = .inl (I .int, 2000, .inl x2) → x4.toInt = l2_1.toInt + 1 → R x3 x4 k e1 → R F_1 l2_1 k e1) →
  R s1 s2 k e1
/- tr_RModel_weigh: F -/
def tr_RModel_weigh (D : va_G) (I : FieldType → ClassId) (γ el : Nat → Nat → Nat) (P : List Nat) (F : Nat → va_E) (q0 : Nat) (q1 : Nat) (o1 : Nat → va_E) : Prop := ∀ R : (Nat → va_E) → Prop,
  (∀ (x1 : Nat → va_E) (x2 : Nat → va_E) (x3 : Nat → va_E), RS D I P x1 γ el → rStr γ [] F x1 → (x1 q0 = F q0) → (x1 (γ 9 3) = F (γ 9 3)) → tr_RModel_findDepth2 D I γ el P F q0 q1 x1 → tl_RModel_weigh_7 D I γ el P F q0 x1 (0 : Int32) 27 x2 → tl_RModel_weigh_29 D I γ el P F q0 q1 x2 (0 : Int32) 201 x3 → R x3) →
  R o1
