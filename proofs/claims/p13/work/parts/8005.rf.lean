abbrev ky_410328_SpillForgeModel_findDepth : gKey := (cX17_findDepth, 13, "SpillForgeModel", none, [], "findDepth", fun _ _ => True)
def pt_410328_SpillForgeModel_findDepth (D : va_G) (I : FieldType → ClassId) (γ el : Nat → Nat → Nat) (P410323 : List Nat) (F410324 : Nat → va_E) (q410325 : Nat) (q410326 : Nat) : Option Value → va_W → Nat → Nat → Prop := fun r w dc ds => ∃ (F536463 : Nat → va_E), r = none ∧ w = va_pl P410323 F536463 ∧ RS D I P410323 F536463 γ el ∧ rStr γ [] F410324 F536463 ∧ dc ≤ 0 ∧ ds ≤ 0 ∧ (F536463 q410325 = F410324 q410325) ∧ (F536463 (γ 9 3) = F410324 (γ 9 3)) ∧ tr_RModel_findDepth2 D I γ el P410323 F410324 q410325 q410326 F536463
set_option maxRecDepth 100000 in
set_option maxHeartbeats 4000000 in
theorem ct_410328_SpillForgeModel_findDepth (l : Launch) (hl0 : l.stackTraces = false) (D : va_G) (I : FieldType → ClassId) (γ el : Nat → Nat → Nat) (P410323 : List Nat) (F410324 : Nat → va_E) (q410325 : Nat) (q410326 : Nat) (hT : RS D I P410323 F410324 γ el) (htq410325 : rKd γ q410325 10) (htq410326 : rKd γ q410326 9) (x410327 : 0 < γ 6 (γ 1 q410326)) : CtA (gV D I) l yX17_findDepth cX17_findDepth 13 none 5 112 0 0 [.ref q410325, .ref q410326] (va_pl P410323 F410324) (pt_410328_SpillForgeModel_findDepth D I γ el P410323 F410324 q410325 q410326) gNA := by
  refine CtA_of hl0 (by decide) (Nat.le_of_ble_eq_true rfl) ?_
  have hm410329 : q410325 ∈ P410323 := RS_m hT htq410325 (by decide)
  refine rk10_e (show rk_10 γ (F410324 q410325) from RS_o hT htq410325) (fun q410331 q410332 p410333 p410334 p410335 p410336 p410337 p410338 p410339 p410340 p410341 p410342 p410343 p410344 p410345 p410346 p410347 he410330 hB410374 ht410348 ht410349 ht410350 ht410351 ht410352 ht410353 ht410354 ht410355 ht410356 ht410357 ht410358 ht410359 ht410360 ht410361 ht410362 ht410363 ht410364 ht410365 ht410366 ht410367 ht410368 ht410369 ht410370 ht410371 hB410375 => ?_)
  refine G_iconst 0 dr_cX17_findDepth_0 (by decide +kernel) ?_
  refine G_istore_n (L' := [(2, .int 0), (0, .ref q410325), (1, .ref q410326)]) dr_cX17_findDepth_1 (Nat.le_of_ble_eq_true rfl) rfl ?_
  have hlp2_530731 : ∀ (n2_530731 : Nat) (F530727 : Nat → va_E) (g530726 : Int32), gB g530726 0 1000000 → RS D I P410323 F530727 γ el → rStr γ [] F410324 F530727 → (F530727 q410325 = F410324 q410325) → (F530727 (γ 9 3) = F410324 (γ 9 3)) → (∀ (k : Nat) (e1 : Nat → va_E), tl_RModel_findDepth2_2 D I γ el P410323 F410324 q410325 q410326 F530727 g530726 k e1 → tl_RModel_findDepth2_2 D I γ el P410323 F410324 q410325 q410326 F410324 (0 : Int32) k e1) → ((1000001 : Int) - g530726.toInt).toNat < n2_530731 → G (gV D I) l (gRm 5 112 0 0) (gMA (gV D I) (pt_410328_SpillForgeModel_findDepth D I γ el P410323 F410324 q410325 q410326) gNA 0 0) ky_410328_SpillForgeModel_findDepth 2 [(2, .int g530726), (0, .ref q410325), (1, .ref q410326)] [] (va_pl P410323 F530727) 0 0 := by
    intro n2_530731
    induction n2_530731 with
    | zero => intro F530727 g530726 bg530726 hT530728 hs530729 x530730 x530731 kt2_530732 hm2_530731; exact absurd hm2_530731 (Nat.not_lt_zero _)
    | succ n2_530731 ih2_530731 =>
      intro F530727 g530726 bg530726 hT530728 hs530729 x530730 x530731 kt2_530732 hm2_530731
      have hs530733 : rStr γ [] F410324 F530727 := fun b h0 hb hw => (hs530729 b h0 hb hw).trans ((rStr_rf (γ := γ) (W := []) (F := F410324)) b h0 hb hw).symm
      have hs530734 : rStr γ [] F410324 F530727 := rStr_tr (rStr_rf (γ := γ) (W := []) (F := F410324)) hs530733
      have he530735 : F530727 q410325 = .inr (22, [.ref (γ 9 0), .ref (γ 9 1), .ref (γ 9 2), .ref (γ 9 3), .ref (γ 9 4), .ref (γ 9 5), .ref (γ 9 6), .ref (γ 9 7), .ref (γ 9 8), .int p410333, .int p410334, .int p410335, .int p410336, .int p410337, .int p410338, .ref (γ 9 15), .ref (γ 9 16), .ref (γ 9 17), .ref (γ 9 18), .ref (γ 9 19), .ref (γ 9 20), .ref (γ 9 21), .ref (γ 9 22), .int p410339, .int p410340, .int p410341, .int p410342, .int p410343, .ref q410331, .ref (γ 9 29), .int p410344, .ref (γ 9 31), .int p410345, .int p410346, .int p410347, .ref q410332]) := x530730.trans he410330
      have hm530736 : q410325 ∈ P410323 := RS_m hT530728 htq410325 (by decide)
      refine G_iload_n 0 dr_cX17_findDepth_2 rfl ?_
      refine G_aload_n 2 dr_cX17_findDepth_3 rfl ?_
      have hm530737 : q410326 ∈ P410323 := RS_m hT530728 htq410326 (by decide)
      obtain ⟨q530739, q530740, p530741, p530742, he530738, ht530758, ht530743, ht530744, ht530745, ht530746, r530747, r530748, r530749, r530750, r530751, r530752, r530753, r530754, r530755, r530756, r530757⟩ := show rk_9 γ el q410326 (F530727 q410326) from RS_o hT530728 htq410326
      have bp530741 : gB p530741 0 1000000 := ⟨by omega, by omega⟩
      have bp530742 : gB p530742 0 1000000 := ⟨by omega, by omega⟩
      have fq530759 : fI (F530727 q410326) 3 = p530742 := by rw [he530738]; rfl
      refine Gw_callV (As := []) (gV_ok D I) (cp_12780_Code_size l hl0 D I P410323 F530727 q410326 q530739 q530740 p530741 p530742 hm530737 he530738) dr_cX17_findDepth_4 ⟨wr_10_160, wr_1_15, wr_9_131, by decide, rfl, (Nat.le_of_ble_eq_true rfl), (Nat.le_of_ble_eq_true rfl)⟩ wr_9_129 wr_9_130 hm530737 he530738 rfl (show 0 + 0 ≤ 0 by first | omega | decide) (show 0 + 0 ≤ 0 by first | omega | decide) (Nat.le_of_ble_eq_true rfl) (fun r530763 w530764 dc530760 ds530761 hp530762 => ?_) (fun _ _ _ _ _ z => z.elim)
      obtain ⟨rfl, rfl, hdc, hds⟩ := hp530762
      change G _ _ _ _ _ _ _ (.int p530742 :: _) _ _ _
      refine G_widen (cs' := 0) (sl' := 0) (by omega) (by omega) ?_
      refine G_icmp_ge 23 dr_cX17_findDepth_7 (by decide +kernel) (fun hc530765 => ?_) (fun hc530765 => ?_)
      · have r530766 : p530742.toInt ≤ g530726.toInt := gC_le hc530765
        have hx530767 : tl_RModel_findDepth2_2 D I γ el P410323 F410324 q410325 q410326 F410324 (0 : Int32) 23 F530727 := kt2_530732 23 F530727 (fun R c1 c2 => c1 F530727 g530726 p530742 bg530726 hT530728 hs530729 x530730 x530731 fq530759 r530766)
        refine G_aload_n 2 dr_cX17_findDepth_23 rfl ?_
        refine G_iconst (-1) dr_cX17_findDepth_24 (by decide +kernel) ?_
        refine Gw_callS (As := [.ref q410326, .int (-1)]) (gV_ok D I) (ct_12748_SpillForgeModel_reached l hl0 D I γ el P410323 F530727 q410326 (-1) hT530728 htq410326 (by omega)) dr_cX17_findDepth_25 ⟨wr_11_41, wr_1_14, wr_11_43, by decide, rfl, (Nat.le_of_ble_eq_true rfl), (Nat.le_of_ble_eq_true rfl)⟩ wr_11_42 (show 0 + 0 ≤ 0 by first | omega | decide) (show 0 + 0 ≤ 0 by first | omega | decide) (Nat.le_of_ble_eq_true rfl) (fun r530771 w530772 dc530768 ds530769 hp530770 => ?_) (fun _ _ _ _ _ z => z.elim)
        obtain ⟨ol530773, rfl, rfl, hdc, hds, ht530774⟩ := hp530770
        change G _ _ _ _ _ _ _ (.long ol530773 :: _) _ _ _
        refine G_widen (cs' := 0) (sl' := 0) (by omega) (by omega) ?_
        refine G_lstore_n (L' := [(2, .long ol530773), (0, .ref q410325), (1, .ref q410326)]) dr_cX17_findDepth_28 (Nat.le_of_ble_eq_true rfl) rfl ?_
        refine G_iconst 0 dr_cX17_findDepth_29 (by decide +kernel) ?_
        refine G_istore (L' := [(4, .int 0), (2, .long ol530773), (0, .ref q410325), (1, .ref q410326)]) dr_cX17_findDepth_30 (Nat.le_of_ble_eq_true rfl) rfl ?_
        have hlp32_533603 : ∀ (n32_533603 : Nat) (F533599 : Nat → va_E) (g533598 : Int32), gB g533598 0 1000000 → RS D I P410323 F533599 γ el → rStr γ [] F410324 F533599 → (F533599 q410325 = F410324 q410325) → (F533599 (γ 9 3) = F410324 (γ 9 3)) → (∀ (k : Nat) (e1 : Nat → va_E), tl_RModel_findDepth2_32 D I γ el P410323 F410324 q410325 q410326 ol530773 F533599 g533598 k e1 → tl_RModel_findDepth2_32 D I γ el P410323 F410324 q410325 q410326 ol530773 F530727 (0 : Int32) k e1) → ((1000001 : Int) - g533598.toInt).toNat < n32_533603 → G (gV D I) l (gRm 5 112 0 0) (gMA (gV D I) (pt_410328_SpillForgeModel_findDepth D I γ el P410323 F410324 q410325 q410326) gNA 0 0) ky_410328_SpillForgeModel_findDepth 32 [(4, .int g533598), (2, .long ol530773), (0, .ref q410325), (1, .ref q410326)] [] (va_pl P410323 F533599) 0 0 := by
          intro n32_533603
          induction n32_533603 with
          | zero => intro F533599 g533598 bg533598 hT533600 hs533601 x533602 x533603 kt32_533604 hm32_533603; exact absurd hm32_533603 (Nat.not_lt_zero _)
          | succ n32_533603 ih32_533603 =>
            intro F533599 g533598 bg533598 hT533600 hs533601 x533602 x533603 kt32_533604 hm32_533603
            have hs533605 : rStr γ [] F530727 F533599 := fun b h0 hb hw => (hs533601 b h0 hb hw).trans (hs530729 b h0 hb hw).symm
            have he533606 : F533599 q410326 = .inr (18, [.ref q530739, .ref q530740, .int p530741, .int p530742]) := (hs533605 q410326 (rT0 htq410326 (by decide)) (rT1 htq410326 (by decide)) (rT2 htq410326 (by decide))).trans he530738
            have hs533607 : rStr γ [] F410324 F533599 := rStr_tr hs530729 hs533605
            have he533608 : F533599 q410325 = .inr (22, [.ref (γ 9 0), .ref (γ 9 1), .ref (γ 9 2), .ref (γ 9 3), .ref (γ 9 4), .ref (γ 9 5), .ref (γ 9 6), .ref (γ 9 7), .ref (γ 9 8), .int p410333, .int p410334, .int p410335, .int p410336, .int p410337, .int p410338, .ref (γ 9 15), .ref (γ 9 16), .ref (γ 9 17), .ref (γ 9 18), .ref (γ 9 19), .ref (γ 9 20), .ref (γ 9 21), .ref (γ 9 22), .int p410339, .int p410340, .int p410341, .int p410342, .int p410343, .ref q410331, .ref (γ 9 29), .int p410344, .ref (γ 9 31), .int p410345, .int p410346, .int p410347, .ref q410332]) := x533602.trans he410330
            have hm533609 : q410325 ∈ P410323 := RS_m hT533600 htq410325 (by decide)
            refine G_iload 0 dr_cX17_findDepth_32 rfl ?_
            refine G_aload_n 3 dr_cX17_findDepth_34 rfl ?_
            have fq533610 : fI (F533599 q410326) 3 = p530742 := by rw [he533606]; rfl
            refine Gw_callV (As := []) (gV_ok D I) (cp_12780_Code_size l hl0 D I P410323 F533599 q410326 q530739 q530740 p530741 p530742 hm530737 he533606) dr_cX17_findDepth_35 ⟨wr_10_160, wr_1_15, wr_9_131, by decide, rfl, (Nat.le_of_ble_eq_true rfl), (Nat.le_of_ble_eq_true rfl)⟩ wr_9_129 wr_9_130 hm530737 he533606 rfl (show 0 + 0 ≤ 0 by first | omega | decide) (show 0 + 0 ≤ 0 by first | omega | decide) (Nat.le_of_ble_eq_true rfl) (fun r533614 w533615 dc533611 ds533612 hp533613 => ?_) (fun _ _ _ _ _ z => z.elim)
            obtain ⟨rfl, rfl, hdc, hds⟩ := hp533613
            change G _ _ _ _ _ _ _ (.int p530742 :: _) _ _ _
            refine G_widen (cs' := 0) (sl' := 0) (by omega) (by omega) ?_
            refine G_icmp_ge 339 dr_cX17_findDepth_38 (by decide +kernel) (fun hc533616 => ?_) (fun hc533616 => ?_)
            · have r533617 : p530742.toInt ≤ g533598.toInt := gC_le hc533616
              have hx533618 : tl_RModel_findDepth2_32 D I γ el P410323 F410324 q410325 q410326 ol530773 F530727 (0 : Int32) 339 F533599 := kt32_533604 339 F533599 (fun R c1 c2 c3 c4 => c1 F533599 g533598 p530742 bg533598 hT533600 hs533601 x533602 x533603 fq533610 r533617)
              refine G_iconst 0 dr_cX17_findDepth_339 (by decide +kernel) ?_
              refine G_istore (L' := [(4, .int 0), (2, .long ol530773), (0, .ref q410325), (1, .ref q410326)]) dr_cX17_findDepth_340 (Nat.le_of_ble_eq_true rfl) rfl ?_
              have hlp342_533658 : ∀ (n342_533658 : Nat) (F533654 : Nat → va_E) (g533653 : Int32), gB g533653 0 1000000 → RS D I P410323 F533654 γ el → rStr γ [] F410324 F533654 → (F533654 q410325 = F410324 q410325) → (F533654 (γ 9 3) = F410324 (γ 9 3)) → (∀ (k : Nat) (e1 : Nat → va_E), tl_RModel_findDepth2_342 D I γ el P410323 F410324 q410325 q410326 F533654 g533653 k e1 → tl_RModel_findDepth2_342 D I γ el P410323 F410324 q410325 q410326 F533599 (0 : Int32) k e1) → ((1000001 : Int) - g533653.toInt).toNat < n342_533658 → G (gV D I) l (gRm 5 112 0 0) (gMA (gV D I) (pt_410328_SpillForgeModel_findDepth D I γ el P410323 F410324 q410325 q410326) gNA 0 0) ky_410328_SpillForgeModel_findDepth 342 [(4, .int g533653), (2, .long ol530773), (0, .ref q410325), (1, .ref q410326)] [] (va_pl P410323 F533654) 0 0 := by
                intro n342_533658
                induction n342_533658 with
                | zero => intro F533654 g533653 bg533653 hT533655 hs533656 x533657 x533658 kt342_533659 hm342_533658; exact absurd hm342_533658 (Nat.not_lt_zero _)
                | succ n342_533658 ih342_533658 =>
                  intro F533654 g533653 bg533653 hT533655 hs533656 x533657 x533658 kt342_533659 hm342_533658
                  have hs533660 : rStr γ [] F533599 F533654 := fun b h0 hb hw => (hs533656 b h0 hb hw).trans (hs533601 b h0 hb hw).symm
                  have he533661 : F533654 q410326 = .inr (18, [.ref q530739, .ref q530740, .int p530741, .int p530742]) := (hs533660 q410326 (rT0 htq410326 (by decide)) (rT1 htq410326 (by decide)) (rT2 htq410326 (by decide))).trans he533606
                  have hs533662 : rStr γ [] F410324 F533654 := rStr_tr hs533601 hs533660
                  have he533663 : F533654 q410325 = .inr (22, [.ref (γ 9 0), .ref (γ 9 1), .ref (γ 9 2), .ref (γ 9 3), .ref (γ 9 4), .ref (γ 9 5), .ref (γ 9 6), .ref (γ 9 7), .ref (γ 9 8), .int p410333, .int p410334, .int p410335, .int p410336, .int p410337, .int p410338, .ref (γ 9 15), .ref (γ 9 16), .ref (γ 9 17), .ref (γ 9 18), .ref (γ 9 19), .ref (γ 9 20), .ref (γ 9 21), .ref (γ 9 22), .int p410339, .int p410340, .int p410341, .int p410342, .int p410343, .ref q410331, .ref (γ 9 29), .int p410344, .ref (γ 9 31), .int p410345, .int p410346, .int p410347, .ref q410332]) := x533657.trans he410330
                  have hm533664 : q410325 ∈ P410323 := RS_m hT533655 htq410325 (by decide)
                  refine G_iload 0 dr_cX17_findDepth_342 rfl ?_
                  refine G_aload_n 3 dr_cX17_findDepth_344 rfl ?_
                  have fq533665 : fI (F533654 q410326) 3 = p530742 := by rw [he533661]; rfl
                  refine Gw_callV (As := []) (gV_ok D I) (cp_12780_Code_size l hl0 D I P410323 F533654 q410326 q530739 q530740 p530741 p530742 hm530737 he533661) dr_cX17_findDepth_345 ⟨wr_10_160, wr_1_15, wr_9_131, by decide, rfl, (Nat.le_of_ble_eq_true rfl), (Nat.le_of_ble_eq_true rfl)⟩ wr_9_129 wr_9_130 hm530737 he533661 rfl (show 0 + 0 ≤ 0 by first | omega | decide) (show 0 + 0 ≤ 0 by first | omega | decide) (Nat.le_of_ble_eq_true rfl) (fun r533669 w533670 dc533666 ds533667 hp533668 => ?_) (fun _ _ _ _ _ z => z.elim)
                  obtain ⟨rfl, rfl, hdc, hds⟩ := hp533668
                  change G _ _ _ _ _ _ _ (.int p530742 :: _) _ _ _
                  refine G_widen (cs' := 0) (sl' := 0) (by omega) (by omega) ?_
                  refine G_icmp_ge 375 dr_cX17_findDepth_348 (by decide +kernel) (fun hc533671 => ?_) (fun hc533671 => ?_)
                  · have r533672 : p530742.toInt ≤ g533653.toInt := gC_le hc533671
                    have hx533673 : tl_RModel_findDepth2_342 D I γ el P410323 F410324 q410325 q410326 F533599 (0 : Int32) 375 F533654 := kt342_533659 375 F533654 (fun R c1 c2 => c1 F533654 g533653 p530742 bg533653 hT533655 hs533656 x533657 x533658 fq533665 r533672)
                    exact G_vretA dr_cX17_findDepth_375 rfl (Nat.le_of_ble_eq_true rfl) (Nat.le_of_ble_eq_true rfl) ⟨F533654, rfl, rfl, hT533655, hs533656, (Nat.le_of_ble_eq_true rfl), (Nat.le_of_ble_eq_true rfl), x533657, x533658, (fun R c1 => c1 F530727 ol530773 F533599 F533654 hx530767 ht530774 hx533618 hx533673)⟩
                  · have r533674 : g533653.toInt < p530742.toInt := gC_nle hc533671
                    have bg533653' : gB g533653 0 999999 := ⟨by omega, by omega⟩
                    have bp530742' : gB p530742 1 1000000 := ⟨by omega, by omega⟩
                    refine G_aload_n 2 dr_cX17_findDepth_351 rfl ?_
                    have fq533675 : fR (F533654 q410325) 4 = (γ 9 4) := by rw [he533663]; rfl
                    refine Gp_get 4 hm533664 he533663 dr_cX17_findDepth_352 (gk_X17 D I) (Nat.le_of_ble_eq_true rfl) wr_7_78 rfl ?_
                    refine G_iload 0 dr_cX17_findDepth_355 rfl ?_
                    refine G_aload_n 2 dr_cX17_findDepth_357 rfl ?_
                    refine Gp_get 4 hm533664 he533663 dr_cX17_findDepth_358 (gk_X17 D I) (Nat.le_of_ble_eq_true rfl) wr_7_78 rfl ?_
                    refine G_iload 0 dr_cX17_findDepth_361 rfl ?_
                    have hm533676 : (γ 9 4) ∈ P410323 := RS_m hT533655 ht410354 (by decide)
                    obtain ⟨f533678, he533677⟩ := show rk_16 I (F533654 (γ 9 4)) from RS_o hT533655 ht410354
                    refine Gp_iald 0 hm533676 he533677 dr_cX17_findDepth_363 rfl (gB_inr (by omega) (by omega)) (G_nam fun z533679 hz533679 => ?_)
                    have bz533679 : gB z533679 (-2147483648) 2147483647 := gB_any z533679
                    refine G_iconst 4 dr_cX17_findDepth_364 (by decide +kernel) ?_
                    refine G_mmin dr_cX17_findDepth_365 wr_11_20 wr_3_227 wr_1_6 wr_3_228 (Nat.le_of_ble_eq_true rfl) (Nat.le_of_ble_eq_true rfl) (show 0 ≤ 0 by first | omega | decide) (show 0 ≤ 0 by first | omega | decide) (G_nam fun z533680 hz533680 => ?_)
                    have ez533680 : z533679.toInt ≥ z533680.toInt ∧ 4 ≥ z533680.toInt ∧ (z533680.toInt = z533679.toInt ∨ z533680.toInt = 4) := by have := gI_min hz533680; rw [show Int32.toInt 4 = 4 from by decide] at this; omega
                    have bz533680 : gB z533680 (-2147483648) 4 := ⟨by omega, by omega⟩
                    refine Gp_iast 0 hm533676 he533677 dr_cX17_findDepth_368 rfl (gB_inr (by omega) (by omega)) (fun F533681 e533682 n533683 => ?_)
                    obtain ⟨f533684, hf533684⟩ : ∃ z, z = upd f533678 g533653.toNatClampNeg z533680 := ⟨_, rfl⟩
                    rw [← hf533684] at e533682
                    have he533685 : F533681 q410326 = .inr (18, [.ref q530739, .ref q530740, .int p530741, .int p530742]) := (n533683 q410326 (rn_oa he533661 he533677)).trans he533661
                    have he533686 : F533681 q410325 = .inr (22, [.ref (γ 9 0), .ref (γ 9 1), .ref (γ 9 2), .ref (γ 9 3), .ref (γ 9 4), .ref (γ 9 5), .ref (γ 9 6), .ref (γ 9 7), .ref (γ 9 8), .int p410333, .int p410334, .int p410335, .int p410336, .int p410337, .int p410338, .ref (γ 9 15), .ref (γ 9 16), .ref (γ 9 17), .ref (γ 9 18), .ref (γ 9 19), .ref (γ 9 20), .ref (γ 9 21), .ref (γ 9 22), .int p410339, .int p410340, .int p410341, .int p410342, .int p410343, .ref q410331, .ref (γ 9 29), .int p410344, .ref (γ 9 31), .int p410345, .int p410346, .int p410347, .ref q410332]) := (n533683 q410325 (rn_oa he533663 he533677)).trans he533663
                    have he533687 : F533681 (γ 9 4) = .inl (I .int, 40, .inl f533684) := e533682
                    have hs533688 : rStr γ [] F410324 F533681 := rStr_put hs533656 n533683 ht410354 (by decide)
                    have kp533689 : F533681 q410325 = F410324 q410325 := (n533683 q410325 (rn_ty htq410325 ht410354 (by decide))).trans x533657
                    have kp533690 : F533681 (γ 9 3) = F410324 (γ 9 3) := (n533683 (γ 9 3) (rn_ty ht410353 ht410354 (by decide))).trans x533658
                    obtain ⟨z533691, hz533691⟩ : ∃ z : Int32, z = g533653 + Int32.ofInt 1 := ⟨_, rfl⟩
                    have ez533691 : z533691.toInt = g533653.toInt + 1 := gI_inc hz533691 (by decide) bg533653' (by decide) (by decide)
                    have bz533691 : gB z533691 1 1000000 := ⟨by omega, by omega⟩
                    refine G_iinc (L' := [(4, .int z533691), (2, .long ol530773), (0, .ref q410325), (1, .ref q410326)]) z533691 0 dr_cX17_findDepth_369 rfl hz533691.symm (Nat.le_of_ble_eq_true rfl) rfl ?_
                    refine G_goto 342 dr_cX17_findDepth_372 (by decide +kernel) ?_
                    have hT533692 : RS D I P410323 F533681 γ el := RS_set hT533655 n533683 ht410354 (by decide) ⟨f533684, he533687⟩
                    exact ih342_533658 F533681 z533691 (gB_w bz533691 (by decide) (by decide)) hT533692 hs533688 kp533689 kp533690 (fun k e1 ht => kt342_533659 k e1 (fun R c1 c2 => c2 F533654 g533653 p530742 f533678 z533679 z533680 f533684 F533681 z533691 k e1 bg533653 hT533655 hs533656 x533657 x533658 fq533665 r533674 fq533675 he533677 hz533679 ez533680 hf533684 n533683 he533687 ez533691 (ht R c1 c2))) (mz_up ez533691 (Int.le_trans bg533653'.2 (by decide)) hm342_533658)
              exact hlp342_533658 (((1000001 : Int) - 0).toNat + 1) F533599 0 (gB_w (gBl (show Int32.toInt 0 = 0 by decide)) (by decide) (by decide)) hT533600 hs533601 x533602 x533603 (fun k e1 ht => ht) (Nat.lt_succ_self _)
            · have r533693 : g533598.toInt < p530742.toInt := gC_nle hc533616
              have bg533598' : gB g533598 0 999999 := ⟨by omega, by omega⟩
              have bp530742' : gB p530742 1 1000000 := ⟨by omega, by omega⟩
              refine G_lload_n 1 dr_cX17_findDepth_41 rfl ?_
              refine G_iload 0 dr_cX17_findDepth_42 rfl ?_
              refine G_lushr dr_cX17_findDepth_44 (G_namL fun u533694 hu533694 => ?_)
              refine G_lconst 1 dr_cX17_findDepth_45 rfl ?_
              refine G_land dr_cX17_findDepth_46 (G_namL fun u533695 hu533695 => ?_)
              refine G_lconst 0 dr_cX17_findDepth_47 rfl ?_
              refine G_lcmp dr_cX17_findDepth_48 (G_nam fun z533696 hz533696 => ?_)
              have bz533696 : gB z533696 (-1) 1 := gB_cmp hz533696
              refine G_if_ne 55 dr_cX17_findDepth_49 (by decide +kernel) (fun hc533697 => ?_) (fun hc533697 => ?_)
              · have r533698 : z533696.toInt ≠ 0 := gj_neq hc533697 (show Int32.toInt 0 = 0 by decide)
                have lhc533697 := gC_cmpN hz533696 hc533697
                refine G_lload_n 1 dr_cX17_findDepth_55 rfl ?_
                refine G_aload_n 3 dr_cX17_findDepth_56 rfl ?_
                refine G_iload 0 dr_cX17_findDepth_57 rfl ?_
                refine Gw_callS (As := [.ref q410326, .int g533598]) (gV_ok D I) (ct_12748_SpillForgeModel_reached l hl0 D I γ el P410323 F533599 q410326 g533598 hT533600 htq410326 (by omega)) dr_cX17_findDepth_59 ⟨wr_11_41, wr_1_14, wr_11_43, by decide, rfl, (Nat.le_of_ble_eq_true rfl), (Nat.le_of_ble_eq_true rfl)⟩ wr_11_42 (show 0 + 0 ≤ 0 by first | omega | decide) (show 0 + 0 ≤ 0 by first | omega | decide) (Nat.le_of_ble_eq_true rfl) (fun r533702 w533703 dc533699 ds533700 hp533701 => ?_) (fun _ _ _ _ _ z => z.elim)
                obtain ⟨ol533704, rfl, rfl, hdc, hds, ht533705⟩ := hp533701
                change G _ _ _ _ _ _ _ (.long ol533704 :: _) _ _ _
                refine G_widen (cs' := 0) (sl' := 0) (by omega) (by omega) ?_
                refine G_ldc2 (-1) dr_cX17_findDepth_62 wr_10_188 ?_
                refine G_lxor dr_cX17_findDepth_65 (G_namL fun u533706 hu533706 => ?_)
                refine G_land dr_cX17_findDepth_66 (G_namL fun u533707 hu533707 => ?_)
                refine G_lstore (L' := [(5, .long u533707), (4, .int g533598), (2, .long ol530773), (0, .ref q410325), (1, .ref q410326)]) dr_cX17_findDepth_67 (Nat.le_of_ble_eq_true rfl) rfl ?_
                refine G_lconst 0 dr_cX17_findDepth_69 rfl ?_
                refine G_lstore (L' := [(7, .long 0), (5, .long u533707), (4, .int g533598), (2, .long ol530773), (0, .ref q410325), (1, .ref q410326)]) dr_cX17_findDepth_70 (Nat.le_of_ble_eq_true rfl) rfl ?_
                refine G_iconst 0 dr_cX17_findDepth_72 (by decide +kernel) ?_
                refine G_istore (L' := [(9, .int 0), (7, .long 0), (5, .long u533707), (4, .int g533598), (2, .long ol530773), (0, .ref q410325), (1, .ref q410326)]) dr_cX17_findDepth_73 (Nat.le_of_ble_eq_true rfl) rfl ?_
                have hlp75_535068 : ∀ (n75_535068 : Nat) (g535067 : Int32) (gl535068 : Int64), gB g535067 0 1000000 → (∀ (k : Nat) (e1 : Int64), tl_RModel_findDepth2_75 D I γ el F533599 q410326 u533707 g533598 g535067 gl535068 k e1 → tl_RModel_findDepth2_75 D I γ el F533599 q410326 u533707 g533598 (0 : Int32) (0 : Int64) k e1) → ((1000001 : Int) - g535067.toInt).toNat < n75_535068 → G (gV D I) l (gRm 5 112 0 0) (gMA (gV D I) (pt_410328_SpillForgeModel_findDepth D I γ el P410323 F410324 q410325 q410326) gNA 0 0) ky_410328_SpillForgeModel_findDepth 75 [(9, .int g535067), (7, .long gl535068), (5, .long u533707), (4, .int g533598), (2, .long ol530773), (0, .ref q410325), (1, .ref q410326)] [] (va_pl P410323 F533599) 0 0 := by
                  intro n75_535068
                  induction n75_535068 with
                  | zero => intro g535067 gl535068 bg535067 kt75_535069 hm75_535068; exact absurd hm75_535068 (Nat.not_lt_zero _)
                  | succ n75_535068 ih75_535068 =>
                    intro g535067 gl535068 bg535067 kt75_535069 hm75_535068
                    refine G_iload 0 dr_cX17_findDepth_75 rfl ?_
                    refine G_aload_n 6 dr_cX17_findDepth_77 rfl ?_
                    have fq535070 : fI (F533599 q410326) 3 = p530742 := by rw [he533606]; rfl
                    refine Gw_callV (As := []) (gV_ok D I) (cp_12780_Code_size l hl0 D I P410323 F533599 q410326 q530739 q530740 p530741 p530742 hm530737 he533606) dr_cX17_findDepth_78 ⟨wr_10_160, wr_1_15, wr_9_131, by decide, rfl, (Nat.le_of_ble_eq_true rfl), (Nat.le_of_ble_eq_true rfl)⟩ wr_9_129 wr_9_130 hm530737 he533606 rfl (show 0 + 0 ≤ 0 by first | omega | decide) (show 0 + 0 ≤ 0 by first | omega | decide) (Nat.le_of_ble_eq_true rfl) (fun r535074 w535075 dc535071 ds535072 hp535073 => ?_) (fun _ _ _ _ _ z => z.elim)
                    obtain ⟨rfl, rfl, hdc, hds⟩ := hp535073
                    change G _ _ _ _ _ _ _ (.int p530742 :: _) _ _ _
                    refine G_widen (cs' := 0) (sl' := 0) (by omega) (by omega) ?_
                    refine G_icmp_ge 125 dr_cX17_findDepth_81 (by decide +kernel) (fun hc535076 => ?_) (fun hc535076 => ?_)
                    · have r535077 : p530742.toInt ≤ g535067.toInt := gC_le hc535076
                      have bg535067' : gB g535067 1 1000000 := ⟨by omega, by omega⟩
                      have hx535078 : tl_RModel_findDepth2_75 D I γ el F533599 q410326 u533707 g533598 (0 : Int32) (0 : Int64) 125 gl535068 := kt75_535069 125 gl535068 (fun R c1 c2 c3 c4 => c1 g535067 gl535068 p530742 bg535067 fq535070 r535077)
                      refine G_lload 1 dr_cX17_findDepth_125 rfl ?_
                      refine G_lconst 0 dr_cX17_findDepth_127 rfl ?_
                      refine G_lcmp dr_cX17_findDepth_128 (G_nam fun z535079 hz535079 => ?_)
                      have bz535079 : gB z535079 (-1) 1 := gB_cmp hz535079
                      refine G_if_ne 135 dr_cX17_findDepth_129 (by decide +kernel) (fun hc535080 => ?_) (fun hc535080 => ?_)
                      · have r535081 : z535079.toInt ≠ 0 := gj_neq hc535080 (show Int32.toInt 0 = 0 by decide)
                        have lhc535080 := gC_cmpN hz535079 hc535080
                        refine G_lload 1 dr_cX17_findDepth_135 rfl ?_
                        refine G_lconst 1 dr_cX17_findDepth_137 rfl ?_
                        refine G_iload 3 dr_cX17_findDepth_138 rfl ?_
                        refine G_lshl dr_cX17_findDepth_140 (G_namL fun u535082 hu535082 => ?_)
                        have qu535082 : lb_Q u535082 (g533598.toInt % 64 + 1) := lb_Qshl hu535082 (by omega)
                        refine G_lor dr_cX17_findDepth_141 (G_namL fun u535083 hu535083 => ?_)
                        have pmu535083 : rpop gl535068 ≤ rpop u535083 := rpop_or hu535083
                        refine G_lstore (L' := [(7, .long u535083), (9, .int g535067), (5, .long u533707), (4, .int g533598), (2, .long ol530773), (0, .ref q410325), (1, .ref q410326)]) dr_cX17_findDepth_142 (Nat.le_of_ble_eq_true rfl) rfl ?_
                        refine G_iconst 1 dr_cX17_findDepth_144 (by decide +kernel) ?_
                        refine G_istore (L' := [(9, .int 1), (7, .long u535083), (5, .long u533707), (4, .int g533598), (2, .long ol530773), (0, .ref q410325), (1, .ref q410326)]) dr_cX17_findDepth_145 (Nat.le_of_ble_eq_true rfl) rfl ?_
                        have hlp147_535721 : ∀ (n147_535721 : Nat) (g535719 : Int32) (gl535720 : Int64), gB g535719 0 1 → rpop gl535720 ≤ 64 → (∀ (k : Nat) (e1 : Int64), tl_RModel_findDepth2_147 D I γ el F533599 q410326 ol530773 g533598 g535719 gl535720 k e1 → tl_RModel_findDepth2_147 D I γ el F533599 q410326 ol530773 g533598 (1 : Int32) u535083 k e1) → (64 - rpop gl535720) + ((g535719.toInt : Int)).toNat < n147_535721 → G (gV D I) l (gRm 5 112 0 0) (gMA (gV D I) (pt_410328_SpillForgeModel_findDepth D I γ el P410323 F410324 q410325 q410326) gNA 0 0) ky_410328_SpillForgeModel_findDepth 147 [(9, .int g535719), (7, .long gl535720), (5, .long u533707), (4, .int g533598), (2, .long ol530773), (0, .ref q410325), (1, .ref q410326)] [] (va_pl P410323 F533599) 0 0 := by
                          intro n147_535721
                          induction n147_535721 with
                          | zero => intro g535719 gl535720 bg535719 x535721 kt147_535722 hm147_535721; exact absurd hm147_535721 (Nat.not_lt_zero _)
                          | succ n147_535721 ih147_535721 =>
                            intro g535719 gl535720 bg535719 x535721 kt147_535722 hm147_535721
                            refine G_iload 0 dr_cX17_findDepth_147 rfl ?_
                            refine G_if_eq 297 dr_cX17_findDepth_149 (by decide +kernel) (fun hc535723 => ?_) (fun hc535723 => ?_)
                            · have r535724 : g535719.toInt = 0 := gj_eq hc535723 (show Int32.toInt 0 = 0 by decide)
                              have bg535719' : gB g535719 0 0 := gB_t0 r535724
                              have hx535725 : tl_RModel_findDepth2_147 D I γ el F533599 q410326 ol530773 g533598 (1 : Int32) u535083 297 gl535720 := kt147_535722 297 gl535720 (fun R c1 c2 => c1 g535719 gl535720 bg535719 x535721 r535724)
                              refine G_iconst 0 dr_cX17_findDepth_297 (by decide +kernel) ?_
                              refine G_istore (L' := [(10, .int 0), (9, .int g535719), (7, .long gl535720), (5, .long u533707), (4, .int g533598), (2, .long ol530773), (0, .ref q410325), (1, .ref q410326)]) dr_cX17_findDepth_298 (Nat.le_of_ble_eq_true rfl) rfl ?_
                              have hlp300_535769 : ∀ (n300_535769 : Nat) (F535765 : Nat → va_E) (g535764 : Int32), gB g535764 0 1000000 → RS D I P410323 F535765 γ el → rStr γ [] F410324 F535765 → (F535765 q410325 = F410324 q410325) → (F535765 (γ 9 3) = F410324 (γ 9 3)) → (∀ (k : Nat) (e1 : Nat → va_E), tl_RModel_findDepth2_300 D I γ el P410323 F410324 q410325 q410326 gl535720 F535765 g535764 k e1 → tl_RModel_findDepth2_300 D I γ el P410323 F410324 q410325 q410326 gl535720 F533599 (0 : Int32) k e1) → ((1000001 : Int) - g535764.toInt).toNat < n300_535769 → G (gV D I) l (gRm 5 112 0 0) (gMA (gV D I) (pt_410328_SpillForgeModel_findDepth D I γ el P410323 F410324 q410325 q410326) gNA 0 0) ky_410328_SpillForgeModel_findDepth 300 [(10, .int g535764), (9, .int g535719), (7, .long gl535720), (5, .long u533707), (4, .int g533598), (2, .long ol530773), (0, .ref q410325), (1, .ref q410326)] [] (va_pl P410323 F535765) 0 0 := by
                                intro n300_535769
                                induction n300_535769 with
                                | zero => intro F535765 g535764 bg535764 hT535766 hs535767 x535768 x535769 kt300_535770 hm300_535769; exact absurd hm300_535769 (Nat.not_lt_zero _)
                                | succ n300_535769 ih300_535769 =>
                                  intro F535765 g535764 bg535764 hT535766 hs535767 x535768 x535769 kt300_535770 hm300_535769
                                  have hs535771 : rStr γ [] F533599 F535765 := fun b h0 hb hw => (hs535767 b h0 hb hw).trans (hs533601 b h0 hb hw).symm
                                  have he535772 : F535765 q410326 = .inr (18, [.ref q530739, .ref q530740, .int p530741, .int p530742]) := (hs535771 q410326 (rT0 htq410326 (by decide)) (rT1 htq410326 (by decide)) (rT2 htq410326 (by decide))).trans he533606
                                  have hs535773 : rStr γ [] F410324 F535765 := rStr_tr hs533601 hs535771
                                  have he535774 : F535765 q410325 = .inr (22, [.ref (γ 9 0), .ref (γ 9 1), .ref (γ 9 2), .ref (γ 9 3), .ref (γ 9 4), .ref (γ 9 5), .ref (γ 9 6), .ref (γ 9 7), .ref (γ 9 8), .int p410333, .int p410334, .int p410335, .int p410336, .int p410337, .int p410338, .ref (γ 9 15), .ref (γ 9 16), .ref (γ 9 17), .ref (γ 9 18), .ref (γ 9 19), .ref (γ 9 20), .ref (γ 9 21), .ref (γ 9 22), .int p410339, .int p410340, .int p410341, .int p410342, .int p410343, .ref q410331, .ref (γ 9 29), .int p410344, .ref (γ 9 31), .int p410345, .int p410346, .int p410347, .ref q410332]) := x535768.trans he410330
                                  have hm535775 : q410325 ∈ P410323 := RS_m hT535766 htq410325 (by decide)
                                  refine G_iload 0 dr_cX17_findDepth_300 rfl ?_
                                  refine G_aload_n 7 dr_cX17_findDepth_302 rfl ?_
                                  have fq535776 : fI (F535765 q410326) 3 = p530742 := by rw [he535772]; rfl
                                  refine Gw_callV (As := []) (gV_ok D I) (cp_12780_Code_size l hl0 D I P410323 F535765 q410326 q530739 q530740 p530741 p530742 hm530737 he535772) dr_cX17_findDepth_303 ⟨wr_10_160, wr_1_15, wr_9_131, by decide, rfl, (Nat.le_of_ble_eq_true rfl), (Nat.le_of_ble_eq_true rfl)⟩ wr_9_129 wr_9_130 hm530737 he535772 rfl (show 0 + 0 ≤ 0 by first | omega | decide) (show 0 + 0 ≤ 0 by first | omega | decide) (Nat.le_of_ble_eq_true rfl) (fun r535780 w535781 dc535777 ds535778 hp535779 => ?_) (fun _ _ _ _ _ z => z.elim)
                                  obtain ⟨rfl, rfl, hdc, hds⟩ := hp535779
                                  change G _ _ _ _ _ _ _ (.int p530742 :: _) _ _ _
                                  refine G_widen (cs' := 0) (sl' := 0) (by omega) (by omega) ?_
                                  refine G_icmp_ge 333 dr_cX17_findDepth_306 (by decide +kernel) (fun hc535782 => ?_) (fun hc535782 => ?_)
                                  · have r535783 : p530742.toInt ≤ g535764.toInt := gC_le hc535782
                                    have bg535764' : gB g535764 1 1000000 := ⟨by omega, by omega⟩
                                    have hx535784 : tl_RModel_findDepth2_300 D I γ el P410323 F410324 q410325 q410326 gl535720 F533599 (0 : Int32) 333 F535765 := kt300_535770 333 F535765 (fun R c1 c2 => c1 F535765 g535764 p530742 bg535764 hT535766 hs535767 x535768 x535769 fq535776 r535783)
                                    obtain ⟨z535785, hz535785⟩ : ∃ z : Int32, z = g533598 + Int32.ofInt 1 := ⟨_, rfl⟩
                                    have ez535785 : z535785.toInt = g533598.toInt + 1 := gI_inc hz535785 (by decide) bg533598' (by decide) (by decide)
                                    have bz535785 : gB z535785 1 1000000 := ⟨by omega, by omega⟩
                                    refine G_iinc (L' := [(4, .int z535785), (10, .int g535764), (9, .int g535719), (7, .long gl535720), (5, .long u533707), (2, .long ol530773), (0, .ref q410325), (1, .ref q410326)]) z535785 4 dr_cX17_findDepth_333 rfl hz535785.symm (Nat.le_of_ble_eq_true rfl) rfl ?_
                                    refine G_goto 32 dr_cX17_findDepth_336 (by decide +kernel) ?_
                                    refine G_lv (L' := [(4, .int z535785), (2, .long ol530773), (0, .ref q410325), (1, .ref q410326)]) [0, 5, 6, 7] rfl ?_
                                    exact ih32_533603 F535765 z535785 (gB_w bz535785 (by decide) (by decide)) hT535766 hs535767 x535768 x535769 (fun k e1 ht => kt32_533604 k e1 (fun R c1 c2 c3 c4 => c2 F533599 g533598 p530742 u533694 u533695 ol533704 u533706 u533707 gl535068 u535082 u535083 gl535720 F535765 z535785 k e1 bg533598 hT533600 hs533601 x533602 x533603 fq533610 r533693 hu533694 hu533695 lhc533697 ht533705 hu533706 hu533707 hx535078 lhc535080 hu535082 hu535083 hx535725 hx535784 ez535785 (ht R c1 c2 c3 c4))) (mz_up ez535785 (Int.le_trans bg533598'.2 (by decide)) hm32_533603)
                                  · have r535786 : g535764.toInt < p530742.toInt := gC_nle hc535782
                                    have bg535764' : gB g535764 0 999999 := ⟨by omega, by omega⟩
                                    refine G_aload_n 6 dr_cX17_findDepth_309 rfl ?_
                                    have fq535787 : fR (F535765 q410325) 4 = (γ 9 4) := by rw [he535774]; rfl
                                    refine Gp_get 4 hm535775 he535774 dr_cX17_findDepth_310 (gk_X17 D I) (Nat.le_of_ble_eq_true rfl) wr_7_78 rfl ?_
                                    refine G_iload 0 dr_cX17_findDepth_313 rfl ?_
                                    refine G_dup2_11 dr_cX17_findDepth_315 rfl rfl ?_
                                    have hm535788 : (γ 9 4) ∈ P410323 := RS_m hT535766 ht410354 (by decide)
                                    obtain ⟨f535790, he535789⟩ := show rk_16 I (F535765 (γ 9 4)) from RS_o hT535766 ht410354
                                    refine Gp_iald 0 hm535788 he535789 dr_cX17_findDepth_316 rfl (gB_inr (by omega) (by omega)) (G_nam fun z535791 hz535791 => ?_)
                                    have bz535791 : gB z535791 (-2147483648) 2147483647 := gB_any z535791
                                    refine G_lload 2 dr_cX17_findDepth_317 rfl ?_
                                    refine G_iload 0 dr_cX17_findDepth_319 rfl ?_
                                    refine G_lushr dr_cX17_findDepth_321 (G_namL fun u535792 hu535792 => ?_)
                                    refine G_lconst 1 dr_cX17_findDepth_322 rfl ?_
                                    refine G_land dr_cX17_findDepth_323 (G_namL fun u535793 hu535793 => ?_)
                                    refine G_l2i dr_cX17_findDepth_324 (G_nam fun z535794 hz535794 => ?_)
                                    have bz535794 : gB z535794 (-2147483648) 2147483647 := gB_any z535794
                                    refine G_iadd dr_cX17_findDepth_325 (G_nam fun z535795 hz535795 => ?_)
                                    have bz535795 : gB z535795 (-2147483648) 2147483647 := gB_any z535795
                                    refine Gp_iast 0 hm535788 he535789 dr_cX17_findDepth_326 rfl (gB_inr (by omega) (by omega)) (fun F535796 e535797 n535798 => ?_)
                                    obtain ⟨f535799, hf535799⟩ : ∃ z, z = upd f535790 g535764.toNatClampNeg z535795 := ⟨_, rfl⟩
                                    rw [← hf535799] at e535797
                                    have he535800 : F535796 q410326 = .inr (18, [.ref q530739, .ref q530740, .int p530741, .int p530742]) := (n535798 q410326 (rn_oa he535772 he535789)).trans he535772
                                    have he535801 : F535796 q410325 = .inr (22, [.ref (γ 9 0), .ref (γ 9 1), .ref (γ 9 2), .ref (γ 9 3), .ref (γ 9 4), .ref (γ 9 5), .ref (γ 9 6), .ref (γ 9 7), .ref (γ 9 8), .int p410333, .int p410334, .int p410335, .int p410336, .int p410337, .int p410338, .ref (γ 9 15), .ref (γ 9 16), .ref (γ 9 17), .ref (γ 9 18), .ref (γ 9 19), .ref (γ 9 20), .ref (γ 9 21), .ref (γ 9 22), .int p410339, .int p410340, .int p410341, .int p410342, .int p410343, .ref q410331, .ref (γ 9 29), .int p410344, .ref (γ 9 31), .int p410345, .int p410346, .int p410347, .ref q410332]) := (n535798 q410325 (rn_oa he535774 he535789)).trans he535774
                                    have he535802 : F535796 (γ 9 4) = .inl (I .int, 40, .inl f535799) := e535797
                                    have hs535803 : rStr γ [] F410324 F535796 := rStr_put hs535767 n535798 ht410354 (by decide)
                                    have kp535804 : F535796 q410325 = F410324 q410325 := (n535798 q410325 (rn_ty htq410325 ht410354 (by decide))).trans x535768
                                    have kp535805 : F535796 (γ 9 3) = F410324 (γ 9 3) := (n535798 (γ 9 3) (rn_ty ht410353 ht410354 (by decide))).trans x535769
                                    obtain ⟨z535806, hz535806⟩ : ∃ z : Int32, z = g535764 + Int32.ofInt 1 := ⟨_, rfl⟩
                                    have ez535806 : z535806.toInt = g535764.toInt + 1 := gI_inc hz535806 (by decide) bg535764' (by decide) (by decide)
                                    have bz535806 : gB z535806 1 1000000 := ⟨by omega, by omega⟩
                                    refine G_iinc (L' := [(10, .int z535806), (9, .int g535719), (7, .long gl535720), (5, .long u533707), (4, .int g533598), (2, .long ol530773), (0, .ref q410325), (1, .ref q410326)]) z535806 0 dr_cX17_findDepth_327 rfl hz535806.symm (Nat.le_of_ble_eq_true rfl) rfl ?_
                                    refine G_goto 300 dr_cX17_findDepth_330 (by decide +kernel) ?_
                                    have hT535807 : RS D I P410323 F535796 γ el := RS_set hT535766 n535798 ht410354 (by decide) ⟨f535799, he535802⟩
                                    exact ih300_535769 F535796 z535806 (gB_w bz535806 (by decide) (by decide)) hT535807 hs535803 kp535804 kp535805 (fun k e1 ht => kt300_535770 k e1 (fun R c1 c2 => c2 F535765 g535764 p530742 f535790 z535791 u535792 u535793 z535794 z535795 f535799 F535796 z535806 k e1 bg535764 hT535766 hs535767 x535768 x535769 fq535776 r535786 fq535787 he535789 hz535791 hu535792 hu535793 hz535794 hz535795 hf535799 n535798 he535802 ez535806 (ht R c1 c2))) (mz_up ez535806 (Int.le_trans bg535764'.2 (by decide)) hm300_535769)
                              exact hlp300_535769 (((1000001 : Int) - 0).toNat + 1) F533599 0 (gB_w (gBl (show Int32.toInt 0 = 0 by decide)) (by decide) (by decide)) hT533600 hs533601 x533602 x533603 (fun k e1 ht => ht) (Nat.lt_succ_self _)
                            · have r535808 : g535719.toInt ≠ 0 := gj_neq hc535723 (show Int32.toInt 0 = 0 by decide)
                              have bg535719' : gB g535719 1 1 := gB_t1 bg535719 r535808
                              refine G_iconst 0 dr_cX17_findDepth_152 (by decide +kernel) ?_
                              refine G_istore (L' := [(9, .int 0), (7, .long gl535720), (5, .long u533707), (4, .int g533598), (2, .long ol530773), (0, .ref q410325), (1, .ref q410326)]) dr_cX17_findDepth_153 (Nat.le_of_ble_eq_true rfl) rfl ?_
                              refine G_iconst 0 dr_cX17_findDepth_155 (by decide +kernel) ?_
                              refine G_istore (L' := [(10, .int 0), (9, .int 0), (7, .long gl535720), (5, .long u533707), (4, .int g533598), (2, .long ol530773), (0, .ref q410325), (1, .ref q410326)]) dr_cX17_findDepth_156 (Nat.le_of_ble_eq_true rfl) rfl ?_
                              have hlp158_536087 : ∀ (n158_536087 : Nat) (g536083 : Int32) (g536084 : Int32) (gl536085 : Int64), gB g536083 0 1000000 → gB g536084 0 1 → rpop gl536085 ≤ 64 → rpop gl535720 + ((g536084.toInt : Int)).toNat ≤ rpop gl536085 → (∀ (k : Nat) (e1 : Int32) (e2 : Int64), tl_RModel_findDepth2_158 D I γ el gl535720 F533599 q410326 ol530773 g533598 g536083 g536084 gl536085 k e1 e2 → tl_RModel_findDepth2_158 D I γ el gl535720 F533599 q410326 ol530773 g533598 (0 : Int32) (0 : Int32) gl535720 k e1 e2) → ((1000001 : Int) - g536083.toInt).toNat < n158_536087 → G (gV D I) l (gRm 5 112 0 0) (gMA (gV D I) (pt_410328_SpillForgeModel_findDepth D I γ el P410323 F410324 q410325 q410326) gNA 0 0) ky_410328_SpillForgeModel_findDepth 158 [(10, .int g536083), (9, .int g536084), (7, .long gl536085), (5, .long u533707), (4, .int g533598), (2, .long ol530773), (0, .ref q410325), (1, .ref q410326)] [] (va_pl P410323 F533599) 0 0 := by
                                intro n158_536087
                                induction n158_536087 with
                                | zero => intro g536083 g536084 gl536085 bg536083 bg536084 x536086 x536087 kt158_536088 hm158_536087; exact absurd hm158_536087 (Nat.not_lt_zero _)
                                | succ n158_536087 ih158_536087 =>
                                  intro g536083 g536084 gl536085 bg536083 bg536084 x536086 x536087 kt158_536088 hm158_536087
                                  refine G_iload 0 dr_cX17_findDepth_158 rfl ?_
                                  refine G_aload_n 7 dr_cX17_findDepth_160 rfl ?_
                                  have fq536089 : fI (F533599 q410326) 3 = p530742 := by rw [he533606]; rfl
                                  refine Gw_callV (As := []) (gV_ok D I) (cp_12780_Code_size l hl0 D I P410323 F533599 q410326 q530739 q530740 p530741 p530742 hm530737 he533606) dr_cX17_findDepth_161 ⟨wr_10_160, wr_1_15, wr_9_131, by decide, rfl, (Nat.le_of_ble_eq_true rfl), (Nat.le_of_ble_eq_true rfl)⟩ wr_9_129 wr_9_130 hm530737 he533606 rfl (show 0 + 0 ≤ 0 by first | omega | decide) (show 0 + 0 ≤ 0 by first | omega | decide) (Nat.le_of_ble_eq_true rfl) (fun r536093 w536094 dc536090 ds536091 hp536092 => ?_) (fun _ _ _ _ _ z => z.elim)
                                  obtain ⟨rfl, rfl, hdc, hds⟩ := hp536092
                                  change G _ _ _ _ _ _ _ (.int p530742 :: _) _ _ _
                                  refine G_widen (cs' := 0) (sl' := 0) (by omega) (by omega) ?_
                                  refine G_icmp_ge 294 dr_cX17_findDepth_164 (by decide +kernel) (fun hc536095 => ?_) (fun hc536095 => ?_)
                                  · have r536096 : p530742.toInt ≤ g536083.toInt := gC_le hc536095
                                    have bg536083' : gB g536083 1 1000000 := ⟨by omega, by omega⟩
                                    have hx536097 : tl_RModel_findDepth2_158 D I γ el gl535720 F533599 q410326 ol530773 g533598 (0 : Int32) (0 : Int32) gl535720 294 g536084 gl536085 := kt158_536088 294 g536084 gl536085 (fun R c1 c2 c3 c4 c5 => c1 g536083 g536084 gl536085 p530742 bg536083 bg536084 x536086 x536087 fq536089 r536096)
                                    refine G_goto 147 dr_cX17_findDepth_294 (by decide +kernel) ?_
                                    refine G_lv (L' := [(9, .int g536084), (7, .long gl536085), (5, .long u533707), (4, .int g533598), (2, .long ol530773), (0, .ref q410325), (1, .ref q410326)]) [1, 2, 3, 4, 5, 6, 7] rfl ?_
                                    exact ih147_535721 g536084 gl536085 bg536084 (rpop_le gl536085) (fun k e1 ht => kt147_535722 k e1 (fun R c1 c2 => c2 g535719 gl535720 g536084 gl536085 k e1 bg535719 x535721 r535808 hx536097 (ht R c1 c2))) (by omega)
                                  · have r536098 : g536083.toInt < p530742.toInt := gC_nle hc536095
                                    have bg536083' : gB g536083 0 999999 := ⟨by omega, by omega⟩
                                    refine G_lload 2 dr_cX17_findDepth_167 rfl ?_
                                    refine G_iload 0 dr_cX17_findDepth_169 rfl ?_
                                    refine G_lushr dr_cX17_findDepth_171 (G_namL fun u536099 hu536099 => ?_)
                                    refine G_lconst 1 dr_cX17_findDepth_172 rfl ?_
                                    refine G_land dr_cX17_findDepth_173 (G_namL fun u536100 hu536100 => ?_)
                                    refine G_lconst 0 dr_cX17_findDepth_174 rfl ?_
                                    refine G_lcmp dr_cX17_findDepth_175 (G_nam fun z536101 hz536101 => ?_)
                                    have bz536101 : gB z536101 (-1) 1 := gB_cmp hz536101
                                    refine G_if_ne 288 dr_cX17_findDepth_176 (by decide +kernel) (fun hc536102 => ?_) (fun hc536102 => ?_)
                                    · have r536103 : z536101.toInt ≠ 0 := gj_neq hc536102 (show Int32.toInt 0 = 0 by decide)
                                      have lhc536102 := gC_cmpN hz536101 hc536102
                                      obtain ⟨z536104, hz536104⟩ : ∃ z : Int32, z = g536083 + Int32.ofInt 1 := ⟨_, rfl⟩
                                      have ez536104 : z536104.toInt = g536083.toInt + 1 := gI_inc hz536104 (by decide) bg536083' (by decide) (by decide)
                                      have bz536104 : gB z536104 1 1000000 := ⟨by omega, by omega⟩
                                      refine G_iinc (L' := [(10, .int z536104), (9, .int g536084), (7, .long gl536085), (5, .long u533707), (4, .int g533598), (2, .long ol530773), (0, .ref q410325), (1, .ref q410326)]) z536104 0 dr_cX17_findDepth_288 rfl hz536104.symm (Nat.le_of_ble_eq_true rfl) rfl ?_
                                      refine G_goto 158 dr_cX17_findDepth_291 (by decide +kernel) ?_
                                      exact ih158_536087 z536104 g536084 gl536085 (gB_w bz536104 (by decide) (by decide)) bg536084 (rpop_le gl536085) (by omega) (fun k e1 e2 ht => kt158_536088 k e1 e2 (fun R c1 c2 c3 c4 c5 => c2 g536083 g536084 gl536085 p530742 u536099 u536100 z536104 k e1 e2 bg536083 bg536084 x536086 x536087 fq536089 r536098 hu536099 hu536100 lhc536102 ez536104 (ht R c1 c2 c3 c4 c5))) (mz_up ez536104 (Int.le_trans bg536083'.2 (by decide)) hm158_536087)
                                    · have r536105 : z536101.toInt = 0 := gj_eq hc536102 (show Int32.toInt 0 = 0 by decide)
                                      have bz536101' : gB z536101 0 0 := ⟨by omega, by omega⟩
                                      have lhc536102 := gC_cmpE hz536101 hc536102
                                      have zhc536102 := rbit_0 hu536099 hu536100 lhc536102 (by omega) (by omega)
                                      refine G_lload_n 5 dr_cX17_findDepth_179 rfl ?_
                                      refine G_iload 0 dr_cX17_findDepth_180 rfl ?_
                                      refine G_lushr dr_cX17_findDepth_182 (G_namL fun u536106 hu536106 => ?_)
                                      refine G_lconst 1 dr_cX17_findDepth_183 rfl ?_
                                      refine G_land dr_cX17_findDepth_184 (G_namL fun u536107 hu536107 => ?_)
                                      refine G_lconst 0 dr_cX17_findDepth_185 rfl ?_
                                      refine G_lcmp dr_cX17_findDepth_186 (G_nam fun z536108 hz536108 => ?_)
                                      have bz536108 : gB z536108 (-1) 1 := gB_cmp hz536108
                                      refine G_if_ne 193 dr_cX17_findDepth_187 (by decide +kernel) (fun hc536109 => ?_) (fun hc536109 => ?_)
                                      · have r536110 : z536108.toInt ≠ 0 := gj_neq hc536109 (show Int32.toInt 0 = 0 by decide)
                                        have lhc536109 := gC_cmpN hz536108 hc536109
                                        refine G_iconst 0 dr_cX17_findDepth_193 (by decide +kernel) ?_
                                        refine G_istore (L' := [(11, .int 0), (10, .int g536083), (9, .int g536084), (7, .long gl536085), (5, .long u533707), (4, .int g533598), (2, .long ol530773), (0, .ref q410325), (1, .ref q410326)]) dr_cX17_findDepth_194 (Nat.le_of_ble_eq_true rfl) rfl ?_
                                        refine G_iconst 0 dr_cX17_findDepth_196 (by decide +kernel) ?_
                                        refine G_istore (L' := [(12, .int 0), (11, .int 0), (10, .int g536083), (9, .int g536084), (7, .long gl536085), (5, .long u533707), (4, .int g533598), (2, .long ol530773), (0, .ref q410325), (1, .ref q410326)]) dr_cX17_findDepth_197 (Nat.le_of_ble_eq_true rfl) rfl ?_
                                        have hlp199_536236 : ∀ (n199_536236 : Nat) (g536235 : Int32) (g536236 : Int32), gB g536235 0 2 → gB g536236 0 1 → (∀ (k : Nat) (e1 : Int32), tl_RModel_findDepth2_199 D I γ el F533599 q410326 g536083 g533598 gl536085 g536235 g536236 k e1 → tl_RModel_findDepth2_199 D I γ el F533599 q410326 g536083 g533598 gl536085 (0 : Int32) (0 : Int32) k e1) → ((3 : Int) - g536235.toInt).toNat < n199_536236 → G (gV D I) l (gRm 5 112 0 0) (gMA (gV D I) (pt_410328_SpillForgeModel_findDepth D I γ el P410323 F410324 q410325 q410326) gNA 0 0) ky_410328_SpillForgeModel_findDepth 199 [(12, .int g536235), (11, .int g536236), (10, .int g536083), (9, .int g536084), (7, .long gl536085), (5, .long u533707), (4, .int g533598), (2, .long ol530773), (0, .ref q410325), (1, .ref q410326)] [] (va_pl P410323 F533599) 0 0 := by
                                          intro n199_536236
                                          induction n199_536236 with
                                          | zero => intro g536235 g536236 bg536235 bg536236 kt199_536237 hm199_536236; exact absurd hm199_536236 (Nat.not_lt_zero _)
                                          | succ n199_536236 ih199_536236 =>
                                            intro g536235 g536236 bg536235 bg536236 kt199_536237 hm199_536236
                                            refine G_iload 0 dr_cX17_findDepth_199 rfl ?_
                                            refine G_aload_n 9 dr_cX17_findDepth_201 rfl ?_
                                            refine G_iload 2 dr_cX17_findDepth_202 rfl ?_
                                            have hm536238 : q530739 ∈ P410323 := RS_m hT533600 ht530743 (by decide)
                                            obtain ⟨⟨p536240, p536241, q536242, he536239, r536243, r536244, r536245, r536247⟩, r536246⟩ := show rk_4 D I γ el F533599 q530739 from RS_o hT533600 ht530743
                                            have bp536240 := gB_any p536240
                                            have bp536241 : gB p536241 0 1000000 := ⟨by omega, by omega⟩
                                            obtain ⟨r536248, r536249, n536256, f536257, r536250, r536251, r536252, r536253, r536254, r536255⟩ := rLC_n r536245 (by omega)
                                            have hm536258 : q536242 ∈ P410323 := RS_m hT533600 r536248 (by decide)
                                            obtain ⟨q536259, hx536260⟩ : ∃ x, x = el q530739 g536083.toInt.toNat := ⟨_, rfl⟩
                                            have fq536264 : fR (F533599 q410326) 0 = q530739 := by rw [he533606]; rfl
                                            have hx536261 : f536257 g536083.toNatClampNeg = some q536259 := (r536254 _ (show g536083.toInt.toNat < γ 2 q530739 by omega)).trans (by rw [hx536260])
                                            have ht536265 : rKd γ q536259 2 := by rw [hx536260]; exact (r530754 _ (by omega)).resolve_right (fun z => absurd z.1 (by omega))
                                            have ht536266 : rFm γ q536259 q530739 := by rw [hx536260]; exact (r536246 _ (show g536083.toInt.toNat < γ 2 q530739 by omega)).2.1
                                            have hm536267 : q536259 ∈ P410323 := RS_m hT533600 ht536265 (by decide)
                                            obtain ⟨q536269, q536270, p536271, p536272, he536268, ht536279, ht536273, ht536274, ht536275, ht536276, ht536277, bp536271, bp536272, r536278, r536280, r536281⟩ := show rk_2 γ q536259 (F533599 q536259) from RS_o hT533600 ht536265
                                            have fq536282 : fI (F533599 q530739) 2 = p536241 := by rw [he536239]; rfl
                                            refine Gw_callV (As := [.int g536083]) (gV_ok D I) (cp_7901_Code_get l hl0 D I P410323 F533599 q410326 q530739 q536242 g536083 q530740 p530741 p530742 p536240 p536241 f536257 n536256 q536259 q536269 q536270 p536271 p536272 hm530737 hm536238 hm536258 hm536267 he533606 he536239 r536250 he536268 (gB_w bg536083' (by decide) (by decide)) (gB_w bp536241 (by decide) (by decide)) (by omega) (by omega) (by assumption) (by omega)) dr_cX17_findDepth_204 ⟨wr_10_161, wr_1_15, wr_10_141, by decide, rfl, (Nat.le_of_ble_eq_true rfl), (Nat.le_of_ble_eq_true rfl)⟩ wr_10_139 wr_10_140 hm530737 he533606 rfl (show 0 + 0 ≤ 0 by first | omega | decide) (show 0 + 0 ≤ 0 by first | omega | decide) (Nat.le_of_ble_eq_true rfl) (fun r536286 w536287 dc536283 ds536284 hp536285 => ?_) (fun _ _ _ _ _ z => z.elim)
                                            obtain ⟨rfl, rfl, hdc, hds, ht536288⟩ := hp536285
                                            change G _ _ _ _ _ _ _ (.ref q536259 :: _) _ _ _
                                            refine G_widen (cs' := 0) (sl' := 0) (by omega) (by omega) ?_
                                            have hm536289 : q536270 ∈ P410323 := RS_m hT533600 ht536275 (by decide)
                                            obtain ⟨p536291, p536292, p536293, p536294, p536295, p536296, p536297, he536290, bp536291, bp536292, bp536295, bp536296, bp536297, r536298, r536299, r536300, r536301, r536302⟩ := show rk_1 γ q536270 (F533599 q536270) from RS_o hT533600 ht536275
                                            have bp536293 := gB_any p536293
                                            have bp536294 := gB_any p536294
                                            have fq536303 : fI (F533599 q536259) 2 = p536271 := by rw [he536268]; rfl
                                            have fq536304 : fI (F533599 q536259) 3 = p536272 := by rw [he536268]; rfl
                                            have fq536305 : fR (F533599 q536259) 1 = q536270 := by rw [he536268]; rfl
                                            have fq536306 : fI (F533599 q536270) 0 = p536291 := by rw [he536290]; rfl
                                            refine Gw_callV (As := []) (gV_ok D I) (cp_1816_Block_ways l hl0 D I P410323 F533599 q536259 q536270 q536269 p536271 p536272 p536291 p536292 p536293 p536294 p536295 p536296 p536297 hm536267 hm536289 he536268 he536290 bp536271 bp536272 bp536291 bp536292 bp536295 bp536296 bp536297) dr_cX17_findDepth_207 ⟨wr_10_166, wr_1_38, wr_10_169, by decide, rfl, (Nat.le_of_ble_eq_true rfl), (Nat.le_of_ble_eq_true rfl)⟩ wr_10_167 wr_10_168 hm536267 he536268 rfl (show 0 + 0 ≤ 0 by first | omega | decide) (show 0 + 0 ≤ 0 by first | omega | decide) (Nat.le_of_ble_eq_true rfl) (fun r536310 w536311 dc536307 ds536308 hp536309 => ?_) (fun _ _ _ _ _ z => z.elim)
                                            obtain ⟨o536312, rfl, rfl, hdc, hds, bo536312, ht536313⟩ := hp536309
                                            change G _ _ _ _ _ _ _ (.int o536312 :: _) _ _ _
                                            refine G_widen (cs' := 0) (sl' := 0) (by omega) (by omega) ?_
                                            refine G_icmp_ge 268 dr_cX17_findDepth_210 (by decide +kernel) (fun hc536314 => ?_) (fun hc536314 => ?_)
                                            · have r536315 : o536312.toInt ≤ g536235.toInt := gC_le hc536314
                                              have hx536316 : tl_RModel_findDepth2_199 D I γ el F533599 q410326 g536083 g533598 gl536085 (0 : Int32) (0 : Int32) 268 g536236 := kt199_536237 268 g536236 (fun R c1 c2 c3 c4 c5 => c1 g536235 g536236 q530739 q536259 p536241 p536271 p536272 q536270 p536291 o536312 bg536235 bg536236 fq536264 hx536260 fq536282 ht536288 fq536303 fq536304 fq536305 fq536306 bo536312 ht536313 r536315)
                                              refine G_iload 1 dr_cX17_findDepth_268 rfl ?_
                                              refine G_if_ne 276 dr_cX17_findDepth_270 (by decide +kernel) (fun hc536317 => ?_) (fun hc536317 => ?_)
                                              · have r536318 : g536236.toInt ≠ 0 := gj_neq hc536317 (show Int32.toInt 0 = 0 by decide)
                                                have bg536236' : gB g536236 1 1 := gB_t1 bg536236 r536318
                                                refine G_lload 4 dr_cX17_findDepth_276 rfl ?_
                                                refine G_lconst 1 dr_cX17_findDepth_278 rfl ?_
                                                refine G_iload 2 dr_cX17_findDepth_279 rfl ?_
                                                refine G_lshl dr_cX17_findDepth_281 (G_namL fun u536319 hu536319 => ?_)
                                                have qu536319 : lb_Q u536319 (g536083.toInt % 64 + 1) := lb_Qshl hu536319 (by omega)
                                                refine G_lor dr_cX17_findDepth_282 (G_namL fun u536320 hu536320 => ?_)
                                                have pmu536320 : rpop gl536085 ≤ rpop u536320 := rpop_or hu536320
                                                have pnu536320 : rpop gl536085 + 1 ≤ rpop u536320 := rpop_new hu536320 hu536319 (by omega) (by omega) zhc536102
                                                refine G_lstore (L' := [(7, .long u536320), (12, .int g536235), (11, .int g536236), (10, .int g536083), (9, .int g536084), (5, .long u533707), (4, .int g533598), (2, .long ol530773), (0, .ref q410325), (1, .ref q410326)]) dr_cX17_findDepth_283 (Nat.le_of_ble_eq_true rfl) rfl ?_
                                                refine G_iconst 1 dr_cX17_findDepth_285 (by decide +kernel) ?_
                                                refine G_istore (L' := [(9, .int 1), (7, .long u536320), (12, .int g536235), (11, .int g536236), (10, .int g536083), (5, .long u533707), (4, .int g533598), (2, .long ol530773), (0, .ref q410325), (1, .ref q410326)]) dr_cX17_findDepth_286 (Nat.le_of_ble_eq_true rfl) rfl ?_
                                                obtain ⟨z536321, hz536321⟩ : ∃ z : Int32, z = g536083 + Int32.ofInt 1 := ⟨_, rfl⟩
                                                have ez536321 : z536321.toInt = g536083.toInt + 1 := gI_inc hz536321 (by decide) bg536083' (by decide) (by decide)
                                                have bz536321 : gB z536321 1 1000000 := ⟨by omega, by omega⟩
                                                refine G_iinc (L' := [(10, .int z536321), (9, .int 1), (7, .long u536320), (12, .int g536235), (11, .int g536236), (5, .long u533707), (4, .int g533598), (2, .long ol530773), (0, .ref q410325), (1, .ref q410326)]) z536321 4 dr_cX17_findDepth_288 rfl hz536321.symm (Nat.le_of_ble_eq_true rfl) rfl ?_
                                                refine G_goto 158 dr_cX17_findDepth_291 (by decide +kernel) ?_
                                                refine G_lv (L' := [(10, .int z536321), (9, .int 1), (7, .long u536320), (5, .long u533707), (4, .int g533598), (2, .long ol530773), (0, .ref q410325), (1, .ref q410326)]) [0, 1, 2, 5, 6, 7, 8, 9] rfl ?_
                                                exact ih158_536087 z536321 1 u536320 (gB_w bz536321 (by decide) (by decide)) (gB_w (gBl (show Int32.toInt 1 = 1 by decide)) (by decide) (by decide)) (rpop_le u536320) (by have qa0 : Int32.toInt 1 = 1 := (by decide); omega) (fun k e1 e2 ht => kt158_536088 k e1 e2 (fun R c1 c2 c3 c4 c5 => c3 g536083 g536084 gl536085 p530742 u536099 u536100 u536106 u536107 g536236 u536319 u536320 z536321 k e1 e2 bg536083 bg536084 x536086 x536087 fq536089 r536098 hu536099 hu536100 lhc536102 hu536106 hu536107 lhc536109 hx536316 r536318 hu536319 hu536320 ez536321 (ht R c1 c2 c3 c4 c5))) (mz_up ez536321 (Int.le_trans bg536083'.2 (by decide)) hm158_536087)
                                              · have r536322 : g536236.toInt = 0 := gj_eq hc536317 (show Int32.toInt 0 = 0 by decide)
                                                have bg536236' : gB g536236 0 0 := gB_t0 r536322
                                                refine G_goto 288 dr_cX17_findDepth_273 (by decide +kernel) ?_
                                                obtain ⟨z536323, hz536323⟩ : ∃ z : Int32, z = g536083 + Int32.ofInt 1 := ⟨_, rfl⟩
                                                have ez536323 : z536323.toInt = g536083.toInt + 1 := gI_inc hz536323 (by decide) bg536083' (by decide) (by decide)
                                                have bz536323 : gB z536323 1 1000000 := ⟨by omega, by omega⟩
                                                refine G_iinc (L' := [(10, .int z536323), (12, .int g536235), (11, .int g536236), (9, .int g536084), (7, .long gl536085), (5, .long u533707), (4, .int g533598), (2, .long ol530773), (0, .ref q410325), (1, .ref q410326)]) z536323 2 dr_cX17_findDepth_288 rfl hz536323.symm (Nat.le_of_ble_eq_true rfl) rfl ?_
                                                refine G_goto 158 dr_cX17_findDepth_291 (by decide +kernel) ?_
                                                refine G_lv (L' := [(10, .int z536323), (9, .int g536084), (7, .long gl536085), (5, .long u533707), (4, .int g533598), (2, .long ol530773), (0, .ref q410325), (1, .ref q410326)]) [0, 3, 4, 5, 6, 7, 8, 9] rfl ?_
                                                exact ih158_536087 z536323 g536084 gl536085 (gB_w bz536323 (by decide) (by decide)) bg536084 (rpop_le gl536085) (by omega) (fun k e1 e2 ht => kt158_536088 k e1 e2 (fun R c1 c2 c3 c4 c5 => c4 g536083 g536084 gl536085 p530742 u536099 u536100 u536106 u536107 g536236 z536323 k e1 e2 bg536083 bg536084 x536086 x536087 fq536089 r536098 hu536099 hu536100 lhc536102 hu536106 hu536107 lhc536109 hx536316 r536322 ez536323 (ht R c1 c2 c3 c4 c5))) (mz_up ez536323 (Int.le_trans bg536083'.2 (by decide)) hm158_536087)
                                            · have r536324 : g536235.toInt < o536312.toInt := gC_nle hc536314
                                              have bg536235' : gB g536235 0 1 := ⟨by omega, by omega⟩
                                              have bo536312' : gB o536312 1 2 := ⟨by omega, by omega⟩
                                              refine G_iload 1 dr_cX17_findDepth_213 rfl ?_
                                              refine G_if_ne 255 dr_cX17_findDepth_215 (by decide +kernel) (fun hc536325 => ?_) (fun hc536325 => ?_)
                                              · have r536326 : g536236.toInt ≠ 0 := gj_neq hc536325 (show Int32.toInt 0 = 0 by decide)
                                                have bg536236' : gB g536236 1 1 := gB_t1 bg536236 r536326
                                                refine G_iconst 1 dr_cX17_findDepth_255 (by decide +kernel) ?_
                                                refine G_goto 260 dr_cX17_findDepth_256 (by decide +kernel) ?_
                                                refine G_istore (L' := [(11, .int 1), (12, .int g536235), (10, .int g536083), (9, .int g536084), (7, .long gl536085), (5, .long u533707), (4, .int g533598), (2, .long ol530773), (0, .ref q410325), (1, .ref q410326)]) dr_cX17_findDepth_260 (Nat.le_of_ble_eq_true rfl) rfl ?_
                                                obtain ⟨z536327, hz536327⟩ : ∃ z : Int32, z = g536235 + Int32.ofInt 1 := ⟨_, rfl⟩
                                                have ez536327 : z536327.toInt = g536235.toInt + 1 := gI_inc hz536327 (by decide) bg536235' (by decide) (by decide)
                                                have bz536327 : gB z536327 1 2 := ⟨by omega, by omega⟩
                                                refine G_iinc (L' := [(12, .int z536327), (11, .int 1), (10, .int g536083), (9, .int g536084), (7, .long gl536085), (5, .long u533707), (4, .int g533598), (2, .long ol530773), (0, .ref q410325), (1, .ref q410326)]) z536327 1 dr_cX17_findDepth_262 rfl hz536327.symm (Nat.le_of_ble_eq_true rfl) rfl ?_
                                                refine G_goto 199 dr_cX17_findDepth_265 (by decide +kernel) ?_
                                                exact ih199_536236 z536327 1 (gB_w bz536327 (by decide) (by decide)) (gB_w (gBl (show Int32.toInt 1 = 1 by decide)) (by decide) (by decide)) (fun k e1 ht => kt199_536237 k e1 (fun R c1 c2 c3 c4 c5 => c2 g536235 g536236 q530739 q536259 p536241 p536271 p536272 q536270 p536291 o536312 z536327 k e1 bg536235 bg536236 fq536264 hx536260 fq536282 ht536288 fq536303 fq536304 fq536305 fq536306 bo536312 ht536313 r536324 r536326 ez536327 (ht R c1 c2 c3 c4 c5))) (mz_up ez536327 (Int.le_trans bg536235'.2 (by decide)) hm199_536236)
                                              · have r536328 : g536236.toInt = 0 := gj_eq hc536325 (show Int32.toInt 0 = 0 by decide)
                                                have bg536236' : gB g536236 0 0 := gB_t0 r536328
                                                refine G_aload_n 9 dr_cX17_findDepth_218 rfl ?_
                                                refine G_iload 2 dr_cX17_findDepth_219 rfl ?_
                                                refine Gw_callV (As := [.int g536083]) (gV_ok D I) (cp_7901_Code_get l hl0 D I P410323 F533599 q410326 q530739 q536242 g536083 q530740 p530741 p530742 p536240 p536241 f536257 n536256 q536259 q536269 q536270 p536271 p536272 hm530737 hm536238 hm536258 hm536267 he533606 he536239 r536250 he536268 (gB_w bg536083' (by decide) (by decide)) (gB_w bp536241 (by decide) (by decide)) (by omega) (by omega) (by assumption) (by omega)) dr_cX17_findDepth_221 ⟨wr_10_161, wr_1_15, wr_10_141, by decide, rfl, (Nat.le_of_ble_eq_true rfl), (Nat.le_of_ble_eq_true rfl)⟩ wr_10_139 wr_10_140 hm530737 he533606 rfl (show 0 + 0 ≤ 0 by first | omega | decide) (show 0 + 0 ≤ 0 by first | omega | decide) (Nat.le_of_ble_eq_true rfl) (fun r536332 w536333 dc536329 ds536330 hp536331 => ?_) (fun _ _ _ _ _ z => z.elim)
                                                obtain ⟨rfl, rfl, hdc, hds, ht536334⟩ := hp536331
                                                change G _ _ _ _ _ _ _ (.ref q536259 :: _) _ _ _
                                                refine G_widen (cs' := 0) (sl' := 0) (by omega) (by omega) ?_
                                                refine G_iload 0 dr_cX17_findDepth_224 rfl ?_
                                                refine Gw_callV (As := [.int g536235]) (gV_ok D I) (cp_5159_Block_way l hl0 D I P410323 F533599 q536259 q536270 g536235 q536269 p536271 p536272 p536291 p536292 p536293 p536294 p536295 p536296 p536297 hm536267 hm536289 he536268 he536290 bp536271 bp536272 bp536291 bp536292 bp536295 bp536296 bp536297) dr_cX17_findDepth_226 ⟨wr_10_170, wr_1_38, wr_10_173, by decide, rfl, (Nat.le_of_ble_eq_true rfl), (Nat.le_of_ble_eq_true rfl)⟩ wr_10_171 wr_10_172 hm536267 he536268 rfl (show 0 + 0 ≤ 0 by first | omega | decide) (show 0 + 0 ≤ 0 by first | omega | decide) (Nat.le_of_ble_eq_true rfl) (fun r536338 w536339 dc536335 ds536336 hp536337 => ?_) (fun _ _ _ _ _ z => z.elim)
                                                obtain ⟨o536340, rfl, rfl, hdc, hds, bo536340, ht536341⟩ := hp536337
                                                change G _ _ _ _ _ _ _ (.int o536340 :: _) _ _ _
                                                refine G_widen (cs' := 0) (sl' := 0) (by omega) (by omega) ?_
                                                refine G_iload 6 dr_cX17_findDepth_229 rfl ?_
                                                refine G_icmp_eq 259 dr_cX17_findDepth_231 (by decide +kernel) (fun hc536342 => ?_) (fun hc536342 => ?_)
                                                · have r536343 : o536340.toInt = g533598.toInt := gC_eq hc536342
                                                  have bg533598'' : gB g533598 0 39 := ⟨by omega, by omega⟩
                                                  refine G_iconst 0 dr_cX17_findDepth_259 (by decide +kernel) ?_
                                                  refine G_istore (L' := [(11, .int 0), (12, .int g536235), (10, .int g536083), (9, .int g536084), (7, .long gl536085), (5, .long u533707), (4, .int g533598), (2, .long ol530773), (0, .ref q410325), (1, .ref q410326)]) dr_cX17_findDepth_260 (Nat.le_of_ble_eq_true rfl) rfl ?_
                                                  obtain ⟨z536344, hz536344⟩ : ∃ z : Int32, z = g536235 + Int32.ofInt 1 := ⟨_, rfl⟩
                                                  have ez536344 : z536344.toInt = g536235.toInt + 1 := gI_inc hz536344 (by decide) bg536235' (by decide) (by decide)
                                                  have bz536344 : gB z536344 1 2 := ⟨by omega, by omega⟩
                                                  refine G_iinc (L' := [(12, .int z536344), (11, .int 0), (10, .int g536083), (9, .int g536084), (7, .long gl536085), (5, .long u533707), (4, .int g533598), (2, .long ol530773), (0, .ref q410325), (1, .ref q410326)]) z536344 1 dr_cX17_findDepth_262 rfl hz536344.symm (Nat.le_of_ble_eq_true rfl) rfl ?_
                                                  refine G_goto 199 dr_cX17_findDepth_265 (by decide +kernel) ?_
                                                  exact ih199_536236 z536344 0 (gB_w bz536344 (by decide) (by decide)) (gB_w (gBl (show Int32.toInt 0 = 0 by decide)) (by decide) (by decide)) (fun k e1 ht => kt199_536237 k e1 (fun R c1 c2 c3 c4 c5 => c3 g536235 g536236 q530739 q536259 p536241 p536271 p536272 q536270 p536291 o536312 o536340 z536344 k e1 bg536235 bg536236 fq536264 hx536260 fq536282 ht536288 fq536303 fq536304 fq536305 fq536306 bo536312 ht536313 r536324 r536328 ht536334 bo536340 ht536341 r536343 ez536344 (ht R c1 c2 c3 c4 c5))) (mz_up ez536344 (Int.le_trans bg536235'.2 (by decide)) hm199_536236)
                                                · have r536345 : o536340.toInt ≠ g533598.toInt := gC_ne hc536342
                                                  refine G_lload 4 dr_cX17_findDepth_234 rfl ?_
                                                  refine G_aload_n 9 dr_cX17_findDepth_236 rfl ?_
                                                  refine G_iload 2 dr_cX17_findDepth_237 rfl ?_
                                                  refine Gw_callV (As := [.int g536083]) (gV_ok D I) (cp_7901_Code_get l hl0 D I P410323 F533599 q410326 q530739 q536242 g536083 q530740 p530741 p530742 p536240 p536241 f536257 n536256 q536259 q536269 q536270 p536271 p536272 hm530737 hm536238 hm536258 hm536267 he533606 he536239 r536250 he536268 (gB_w bg536083' (by decide) (by decide)) (gB_w bp536241 (by decide) (by decide)) (by omega) (by omega) (by assumption) (by omega)) dr_cX17_findDepth_239 ⟨wr_10_161, wr_1_15, wr_10_141, by decide, rfl, (Nat.le_of_ble_eq_true rfl), (Nat.le_of_ble_eq_true rfl)⟩ wr_10_139 wr_10_140 hm530737 he533606 rfl (show 0 + 0 ≤ 0 by first | omega | decide) (show 0 + 0 ≤ 0 by first | omega | decide) (Nat.le_of_ble_eq_true rfl) (fun r536349 w536350 dc536346 ds536347 hp536348 => ?_) (fun _ _ _ _ _ z => z.elim)
                                                  obtain ⟨rfl, rfl, hdc, hds, ht536351⟩ := hp536348
                                                  change G _ _ _ _ _ _ _ (.ref q536259 :: _) _ _ _
                                                  refine G_widen (cs' := 0) (sl' := 0) (by omega) (by omega) ?_
                                                  refine G_iload 0 dr_cX17_findDepth_242 rfl ?_
                                                  refine Gw_callV (As := [.int g536235]) (gV_ok D I) (cp_5159_Block_way l hl0 D I P410323 F533599 q536259 q536270 g536235 q536269 p536271 p536272 p536291 p536292 p536293 p536294 p536295 p536296 p536297 hm536267 hm536289 he536268 he536290 bp536271 bp536272 bp536291 bp536292 bp536295 bp536296 bp536297) dr_cX17_findDepth_244 ⟨wr_10_170, wr_1_38, wr_10_173, by decide, rfl, (Nat.le_of_ble_eq_true rfl), (Nat.le_of_ble_eq_true rfl)⟩ wr_10_171 wr_10_172 hm536267 he536268 rfl (show 0 + 0 ≤ 0 by first | omega | decide) (show 0 + 0 ≤ 0 by first | omega | decide) (Nat.le_of_ble_eq_true rfl) (fun r536355 w536356 dc536352 ds536353 hp536354 => ?_) (fun _ _ _ _ _ z => z.elim)
                                                  obtain ⟨o536357, rfl, rfl, hdc, hds, bo536357, ht536358⟩ := hp536354
                                                  change G _ _ _ _ _ _ _ (.int o536357 :: _) _ _ _
                                                  refine G_widen (cs' := 0) (sl' := 0) (by omega) (by omega) ?_
                                                  refine G_lushr dr_cX17_findDepth_247 (G_namL fun u536359 hu536359 => ?_)
                                                  refine G_lconst 1 dr_cX17_findDepth_248 rfl ?_
                                                  refine G_land dr_cX17_findDepth_249 (G_namL fun u536360 hu536360 => ?_)
                                                  refine G_lconst 0 dr_cX17_findDepth_250 rfl ?_
                                                  refine G_lcmp dr_cX17_findDepth_251 (G_nam fun z536361 hz536361 => ?_)
                                                  have bz536361 : gB z536361 (-1) 1 := gB_cmp hz536361
                                                  refine G_if_eq 259 dr_cX17_findDepth_252 (by decide +kernel) (fun hc536362 => ?_) (fun hc536362 => ?_)
                                                  · have r536363 : z536361.toInt = 0 := gj_eq hc536362 (show Int32.toInt 0 = 0 by decide)
                                                    have bz536361' : gB z536361 0 0 := ⟨by omega, by omega⟩
                                                    have lhc536362 := gC_cmpE hz536361 hc536362
                                                    have zhc536362 := rbit_0 hu536359 hu536360 lhc536362 (by omega) (by omega)
                                                    refine G_iconst 0 dr_cX17_findDepth_259 (by decide +kernel) ?_
                                                    refine G_istore (L' := [(11, .int 0), (12, .int g536235), (10, .int g536083), (9, .int g536084), (7, .long gl536085), (5, .long u533707), (4, .int g533598), (2, .long ol530773), (0, .ref q410325), (1, .ref q410326)]) dr_cX17_findDepth_260 (Nat.le_of_ble_eq_true rfl) rfl ?_
                                                    obtain ⟨z536364, hz536364⟩ : ∃ z : Int32, z = g536235 + Int32.ofInt 1 := ⟨_, rfl⟩
                                                    have ez536364 : z536364.toInt = g536235.toInt + 1 := gI_inc hz536364 (by decide) bg536235' (by decide) (by decide)
                                                    have bz536364 : gB z536364 1 2 := ⟨by omega, by omega⟩
                                                    refine G_iinc (L' := [(12, .int z536364), (11, .int 0), (10, .int g536083), (9, .int g536084), (7, .long gl536085), (5, .long u533707), (4, .int g533598), (2, .long ol530773), (0, .ref q410325), (1, .ref q410326)]) z536364 1 dr_cX17_findDepth_262 rfl hz536364.symm (Nat.le_of_ble_eq_true rfl) rfl ?_
                                                    refine G_goto 199 dr_cX17_findDepth_265 (by decide +kernel) ?_
                                                    exact ih199_536236 z536364 0 (gB_w bz536364 (by decide) (by decide)) (gB_w (gBl (show Int32.toInt 0 = 0 by decide)) (by decide) (by decide)) (fun k e1 ht => kt199_536237 k e1 (fun R c1 c2 c3 c4 c5 => c4 g536235 g536236 q530739 q536259 p536241 p536271 p536272 q536270 p536291 o536312 o536340 o536357 u536359 u536360 z536364 k e1 bg536235 bg536236 fq536264 hx536260 fq536282 ht536288 fq536303 fq536304 fq536305 fq536306 bo536312 ht536313 r536324 r536328 ht536334 bo536340 ht536341 r536345 ht536351 bo536357 ht536358 hu536359 hu536360 lhc536362 ez536364 (ht R c1 c2 c3 c4 c5))) (mz_up ez536364 (Int.le_trans bg536235'.2 (by decide)) hm199_536236)
                                                  · have r536365 : z536361.toInt ≠ 0 := gj_neq hc536362 (show Int32.toInt 0 = 0 by decide)
                                                    have lhc536362 := gC_cmpN hz536361 hc536362
                                                    refine G_iconst 1 dr_cX17_findDepth_255 (by decide +kernel) ?_
                                                    refine G_goto 260 dr_cX17_findDepth_256 (by decide +kernel) ?_
                                                    refine G_istore (L' := [(11, .int 1), (12, .int g536235), (10, .int g536083), (9, .int g536084), (7, .long gl536085), (5, .long u533707), (4, .int g533598), (2, .long ol530773), (0, .ref q410325), (1, .ref q410326)]) dr_cX17_findDepth_260 (Nat.le_of_ble_eq_true rfl) rfl ?_
                                                    obtain ⟨z536366, hz536366⟩ : ∃ z : Int32, z = g536235 + Int32.ofInt 1 := ⟨_, rfl⟩
                                                    have ez536366 : z536366.toInt = g536235.toInt + 1 := gI_inc hz536366 (by decide) bg536235' (by decide) (by decide)
                                                    have bz536366 : gB z536366 1 2 := ⟨by omega, by omega⟩
                                                    refine G_iinc (L' := [(12, .int z536366), (11, .int 1), (10, .int g536083), (9, .int g536084), (7, .long gl536085), (5, .long u533707), (4, .int g533598), (2, .long ol530773), (0, .ref q410325), (1, .ref q410326)]) z536366 1 dr_cX17_findDepth_262 rfl hz536366.symm (Nat.le_of_ble_eq_true rfl) rfl ?_
                                                    refine G_goto 199 dr_cX17_findDepth_265 (by decide +kernel) ?_
                                                    exact ih199_536236 z536366 1 (gB_w bz536366 (by decide) (by decide)) (gB_w (gBl (show Int32.toInt 1 = 1 by decide)) (by decide) (by decide)) (fun k e1 ht => kt199_536237 k e1 (fun R c1 c2 c3 c4 c5 => c5 g536235 g536236 q530739 q536259 p536241 p536271 p536272 q536270 p536291 o536312 o536340 o536357 u536359 u536360 z536366 k e1 bg536235 bg536236 fq536264 hx536260 fq536282 ht536288 fq536303 fq536304 fq536305 fq536306 bo536312 ht536313 r536324 r536328 ht536334 bo536340 ht536341 r536345 ht536351 bo536357 ht536358 hu536359 hu536360 lhc536362 ez536366 (ht R c1 c2 c3 c4 c5))) (mz_up ez536366 (Int.le_trans bg536235'.2 (by decide)) hm199_536236)
                                        exact hlp199_536236 (((3 : Int) - 0).toNat + 1) 0 0 (gB_w (gBl (show Int32.toInt 0 = 0 by decide)) (by decide) (by decide)) (gB_w (gBl (show Int32.toInt 0 = 0 by decide)) (by decide) (by decide)) (fun k e1 ht => ht) (Nat.lt_succ_self _)
                                      · have r536367 : z536108.toInt = 0 := gj_eq hc536109 (show Int32.toInt 0 = 0 by decide)
                                        have bz536108' : gB z536108 0 0 := ⟨by omega, by omega⟩
                                        have lhc536109 := gC_cmpE hz536108 hc536109
                                        refine G_goto 288 dr_cX17_findDepth_190 (by decide +kernel) ?_
                                        obtain ⟨z536368, hz536368⟩ : ∃ z : Int32, z = g536083 + Int32.ofInt 1 := ⟨_, rfl⟩
                                        have ez536368 : z536368.toInt = g536083.toInt + 1 := gI_inc hz536368 (by decide) bg536083' (by decide) (by decide)
                                        have bz536368 : gB z536368 1 1000000 := ⟨by omega, by omega⟩
                                        refine G_iinc (L' := [(10, .int z536368), (9, .int g536084), (7, .long gl536085), (5, .long u533707), (4, .int g533598), (2, .long ol530773), (0, .ref q410325), (1, .ref q410326)]) z536368 0 dr_cX17_findDepth_288 rfl hz536368.symm (Nat.le_of_ble_eq_true rfl) rfl ?_
                                        refine G_goto 158 dr_cX17_findDepth_291 (by decide +kernel) ?_
                                        exact ih158_536087 z536368 g536084 gl536085 (gB_w bz536368 (by decide) (by decide)) bg536084 (rpop_le gl536085) (by omega) (fun k e1 e2 ht => kt158_536088 k e1 e2 (fun R c1 c2 c3 c4 c5 => c5 g536083 g536084 gl536085 p530742 u536099 u536100 u536106 u536107 z536368 k e1 e2 bg536083 bg536084 x536086 x536087 fq536089 r536098 hu536099 hu536100 lhc536102 hu536106 hu536107 lhc536109 ez536368 (ht R c1 c2 c3 c4 c5))) (mz_up ez536368 (Int.le_trans bg536083'.2 (by decide)) hm158_536087)
                              exact hlp158_536087 (((1000001 : Int) - 0).toNat + 1) 0 0 gl535720 (gB_w (gBl (show Int32.toInt 0 = 0 by decide)) (by decide) (by decide)) (gB_w (gBl (show Int32.toInt 0 = 0 by decide)) (by decide) (by decide)) (rpop_le gl535720) (by have qa0 : Int32.toInt 0 = 0 := (by decide); omega) (fun k e1 e2 ht => ht) (Nat.lt_succ_self _)
                        exact hlp147_535721 ((64 - rpop u535083) + ((1 : Int)).toNat + 1) 1 u535083 (gB_w (gBl (show Int32.toInt 1 = 1 by decide)) (by decide) (by decide)) (rpop_le u535083) (fun k e1 ht => ht) (Nat.lt_succ_self _)
                      · have r536369 : z535079.toInt = 0 := gj_eq hc535080 (show Int32.toInt 0 = 0 by decide)
                        have bz535079' : gB z535079 0 0 := ⟨by omega, by omega⟩
                        have lhc535080 := gC_cmpE hz535079 hc535080
                        refine G_goto 333 dr_cX17_findDepth_132 (by decide +kernel) ?_
                        obtain ⟨z536370, hz536370⟩ : ∃ z : Int32, z = g533598 + Int32.ofInt 1 := ⟨_, rfl⟩
                        have ez536370 : z536370.toInt = g533598.toInt + 1 := gI_inc hz536370 (by decide) bg533598' (by decide) (by decide)
                        have bz536370 : gB z536370 1 1000000 := ⟨by omega, by omega⟩
                        refine G_iinc (L' := [(4, .int z536370), (9, .int g535067), (7, .long gl535068), (5, .long u533707), (2, .long ol530773), (0, .ref q410325), (1, .ref q410326)]) z536370 3 dr_cX17_findDepth_333 rfl hz536370.symm (Nat.le_of_ble_eq_true rfl) rfl ?_
                        refine G_goto 32 dr_cX17_findDepth_336 (by decide +kernel) ?_
                        refine G_lv (L' := [(4, .int z536370), (2, .long ol530773), (0, .ref q410325), (1, .ref q410326)]) [0, 4, 5, 6] rfl ?_
                        exact ih32_533603 F533599 z536370 (gB_w bz536370 (by decide) (by decide)) hT533600 hs533601 x533602 x533603 (fun k e1 ht => kt32_533604 k e1 (fun R c1 c2 c3 c4 => c3 F533599 g533598 p530742 u533694 u533695 ol533704 u533706 u533707 gl535068 z536370 k e1 bg533598 hT533600 hs533601 x533602 x533603 fq533610 r533693 hu533694 hu533695 lhc533697 ht533705 hu533706 hu533707 hx535078 lhc535080 ez536370 (ht R c1 c2 c3 c4))) (mz_up ez536370 (Int.le_trans bg533598'.2 (by decide)) hm32_533603)
                    · have r536371 : g535067.toInt < p530742.toInt := gC_nle hc535076
                      have bg535067' : gB g535067 0 999999 := ⟨by omega, by omega⟩
                      refine G_lload 2 dr_cX17_findDepth_84 rfl ?_
                      refine G_iload 0 dr_cX17_findDepth_86 rfl ?_
                      refine G_lushr dr_cX17_findDepth_88 (G_namL fun u536372 hu536372 => ?_)
                      refine G_lconst 1 dr_cX17_findDepth_89 rfl ?_
                      refine G_land dr_cX17_findDepth_90 (G_namL fun u536373 hu536373 => ?_)
                      refine G_lconst 0 dr_cX17_findDepth_91 rfl ?_
                      refine G_lcmp dr_cX17_findDepth_92 (G_nam fun z536374 hz536374 => ?_)
                      have bz536374 : gB z536374 (-1) 1 := gB_cmp hz536374
                      refine G_if_eq 119 dr_cX17_findDepth_93 (by decide +kernel) (fun hc536375 => ?_) (fun hc536375 => ?_)
                      · have r536376 : z536374.toInt = 0 := gj_eq hc536375 (show Int32.toInt 0 = 0 by decide)
                        have bz536374' : gB z536374 0 0 := ⟨by omega, by omega⟩
                        have lhc536375 := gC_cmpE hz536374 hc536375
                        obtain ⟨z536377, hz536377⟩ : ∃ z : Int32, z = g535067 + Int32.ofInt 1 := ⟨_, rfl⟩
                        have ez536377 : z536377.toInt = g535067.toInt + 1 := gI_inc hz536377 (by decide) bg535067' (by decide) (by decide)
                        have bz536377 : gB z536377 1 1000000 := ⟨by omega, by omega⟩
                        refine G_iinc (L' := [(9, .int z536377), (7, .long gl535068), (5, .long u533707), (4, .int g533598), (2, .long ol530773), (0, .ref q410325), (1, .ref q410326)]) z536377 0 dr_cX17_findDepth_119 rfl hz536377.symm (Nat.le_of_ble_eq_true rfl) rfl ?_
                        refine G_goto 75 dr_cX17_findDepth_122 (by decide +kernel) ?_
                        exact ih75_535068 z536377 gl535068 (gB_w bz536377 (by decide) (by decide)) (fun k e1 ht => kt75_535069 k e1 (fun R c1 c2 c3 c4 => c2 g535067 gl535068 p530742 u536372 u536373 z536377 k e1 bg535067 fq535070 r536371 hu536372 hu536373 lhc536375 ez536377 (ht R c1 c2 c3 c4))) (mz_up ez536377 (Int.le_trans bg535067'.2 (by decide)) hm75_535068)
                      · have r536378 : z536374.toInt ≠ 0 := gj_neq hc536375 (show Int32.toInt 0 = 0 by decide)
                        have lhc536375 := gC_cmpN hz536374 hc536375
                        refine G_aload_n 6 dr_cX17_findDepth_96 rfl ?_
                        refine G_iload 0 dr_cX17_findDepth_97 rfl ?_
                        have hm536379 : q530739 ∈ P410323 := RS_m hT533600 ht530743 (by decide)
                        obtain ⟨⟨p536381, p536382, q536383, he536380, r536384, r536385, r536386, r536388⟩, r536387⟩ := show rk_4 D I γ el F533599 q530739 from RS_o hT533600 ht530743
                        have bp536381 := gB_any p536381
                        have bp536382 : gB p536382 0 1000000 := ⟨by omega, by omega⟩
                        obtain ⟨r536389, r536390, n536397, f536398, r536391, r536392, r536393, r536394, r536395, r536396⟩ := rLC_n r536386 (by omega)
                        have hm536399 : q536383 ∈ P410323 := RS_m hT533600 r536389 (by decide)
                        obtain ⟨q536400, hx536401⟩ : ∃ x, x = el q530739 g535067.toInt.toNat := ⟨_, rfl⟩
                        have fq536405 : fR (F533599 q410326) 0 = q530739 := by rw [he533606]; rfl
                        have hx536402 : f536398 g535067.toNatClampNeg = some q536400 := (r536395 _ (show g535067.toInt.toNat < γ 2 q530739 by omega)).trans (by rw [hx536401])
                        have ht536406 : rKd γ q536400 2 := by rw [hx536401]; exact (r530754 _ (by omega)).resolve_right (fun z => absurd z.1 (by omega))
                        have ht536407 : rFm γ q536400 q530739 := by rw [hx536401]; exact (r536387 _ (show g535067.toInt.toNat < γ 2 q530739 by omega)).2.1
                        have hm536408 : q536400 ∈ P410323 := RS_m hT533600 ht536406 (by decide)
                        obtain ⟨q536410, q536411, p536412, p536413, he536409, ht536420, ht536414, ht536415, ht536416, ht536417, ht536418, bp536412, bp536413, r536419, r536421, r536422⟩ := show rk_2 γ q536400 (F533599 q536400) from RS_o hT533600 ht536406
                        have fq536423 : fI (F533599 q530739) 2 = p536382 := by rw [he536380]; rfl
                        refine Gw_callV (As := [.int g535067]) (gV_ok D I) (cp_7901_Code_get l hl0 D I P410323 F533599 q410326 q530739 q536383 g535067 q530740 p530741 p530742 p536381 p536382 f536398 n536397 q536400 q536410 q536411 p536412 p536413 hm530737 hm536379 hm536399 hm536408 he533606 he536380 r536391 he536409 (gB_w bg535067' (by decide) (by decide)) (gB_w bp536382 (by decide) (by decide)) (by omega) (by omega) (by assumption) (by omega)) dr_cX17_findDepth_99 ⟨wr_10_161, wr_1_15, wr_10_141, by decide, rfl, (Nat.le_of_ble_eq_true rfl), (Nat.le_of_ble_eq_true rfl)⟩ wr_10_139 wr_10_140 hm530737 he533606 rfl (show 0 + 0 ≤ 0 by first | omega | decide) (show 0 + 0 ≤ 0 by first | omega | decide) (Nat.le_of_ble_eq_true rfl) (fun r536427 w536428 dc536424 ds536425 hp536426 => ?_) (fun _ _ _ _ _ z => z.elim)
                        obtain ⟨rfl, rfl, hdc, hds, ht536429⟩ := hp536426
                        change G _ _ _ _ _ _ _ (.ref q536400 :: _) _ _ _
                        refine G_widen (cs' := 0) (sl' := 0) (by omega) (by omega) ?_
                        refine G_iload 3 dr_cX17_findDepth_102 rfl ?_
                        refine Gw_callS (As := [.ref q536400, .int g533598]) (gV_ok D I) (ct_7594_SpillForgeModel_leads l hl0 D I γ el P410323 F533599 q536400 g533598 hT533600 ht536406) dr_cX17_findDepth_104 ⟨wr_11_44, wr_1_14, wr_11_46, by decide, rfl, (Nat.le_of_ble_eq_true rfl), (Nat.le_of_ble_eq_true rfl)⟩ wr_11_45 (show 0 + 0 ≤ 0 by first | omega | decide) (show 0 + 0 ≤ 0 by first | omega | decide) (Nat.le_of_ble_eq_true rfl) (fun r536433 w536434 dc536430 ds536431 hp536432 => ?_) (fun _ _ _ _ _ z => z.elim)
                        obtain ⟨o536435, rfl, rfl, hdc, hds, bo536435, ht536436⟩ := hp536432
                        change G _ _ _ _ _ _ _ (.int o536435 :: _) _ _ _
                        refine G_widen (cs' := 0) (sl' := 0) (by omega) (by omega) ?_
                        refine G_if_eq 119 dr_cX17_findDepth_107 (by decide +kernel) (fun hc536437 => ?_) (fun hc536437 => ?_)
                        · have r536438 : o536435.toInt = 0 := gj_eq hc536437 (show Int32.toInt 0 = 0 by decide)
                          have bo536435' : gB o536435 0 0 := gB_t0 r536438
                          obtain ⟨z536439, hz536439⟩ : ∃ z : Int32, z = g535067 + Int32.ofInt 1 := ⟨_, rfl⟩
                          have ez536439 : z536439.toInt = g535067.toInt + 1 := gI_inc hz536439 (by decide) bg535067' (by decide) (by decide)
                          have bz536439 : gB z536439 1 1000000 := ⟨by omega, by omega⟩
                          refine G_iinc (L' := [(9, .int z536439), (7, .long gl535068), (5, .long u533707), (4, .int g533598), (2, .long ol530773), (0, .ref q410325), (1, .ref q410326)]) z536439 0 dr_cX17_findDepth_119 rfl hz536439.symm (Nat.le_of_ble_eq_true rfl) rfl ?_
                          refine G_goto 75 dr_cX17_findDepth_122 (by decide +kernel) ?_
                          exact ih75_535068 z536439 gl535068 (gB_w bz536439 (by decide) (by decide)) (fun k e1 ht => kt75_535069 k e1 (fun R c1 c2 c3 c4 => c3 g535067 gl535068 p530742 u536372 u536373 q530739 q536400 p536382 o536435 z536439 k e1 bg535067 fq535070 r536371 hu536372 hu536373 lhc536375 fq536405 hx536401 fq536423 ht536429 bo536435 ht536436 r536438 ez536439 (ht R c1 c2 c3 c4))) (mz_up ez536439 (Int.le_trans bg535067'.2 (by decide)) hm75_535068)
                        · have r536440 : o536435.toInt ≠ 0 := gj_neq hc536437 (show Int32.toInt 0 = 0 by decide)
                          have bo536435' : gB o536435 1 1 := gB_t1 bo536435 r536440
                          refine G_lload 1 dr_cX17_findDepth_110 rfl ?_
                          refine G_lconst 1 dr_cX17_findDepth_112 rfl ?_
                          refine G_iload 0 dr_cX17_findDepth_113 rfl ?_
                          refine G_lshl dr_cX17_findDepth_115 (G_namL fun u536441 hu536441 => ?_)
                          have qu536441 : lb_Q u536441 (g535067.toInt % 64 + 1) := lb_Qshl hu536441 (by omega)
                          refine G_lor dr_cX17_findDepth_116 (G_namL fun u536442 hu536442 => ?_)
                          have pmu536442 : rpop gl535068 ≤ rpop u536442 := rpop_or hu536442
                          refine G_lstore (L' := [(7, .long u536442), (9, .int g535067), (5, .long u533707), (4, .int g533598), (2, .long ol530773), (0, .ref q410325), (1, .ref q410326)]) dr_cX17_findDepth_117 (Nat.le_of_ble_eq_true rfl) rfl ?_
                          obtain ⟨z536443, hz536443⟩ : ∃ z : Int32, z = g535067 + Int32.ofInt 1 := ⟨_, rfl⟩
                          have ez536443 : z536443.toInt = g535067.toInt + 1 := gI_inc hz536443 (by decide) bg535067' (by decide) (by decide)
                          have bz536443 : gB z536443 1 1000000 := ⟨by omega, by omega⟩
                          refine G_iinc (L' := [(9, .int z536443), (7, .long u536442), (5, .long u533707), (4, .int g533598), (2, .long ol530773), (0, .ref q410325), (1, .ref q410326)]) z536443 1 dr_cX17_findDepth_119 rfl hz536443.symm (Nat.le_of_ble_eq_true rfl) rfl ?_
                          refine G_goto 75 dr_cX17_findDepth_122 (by decide +kernel) ?_
                          exact ih75_535068 z536443 u536442 (gB_w bz536443 (by decide) (by decide)) (fun k e1 ht => kt75_535069 k e1 (fun R c1 c2 c3 c4 => c4 g535067 gl535068 p530742 u536372 u536373 q530739 q536400 p536382 o536435 u536441 u536442 z536443 k e1 bg535067 fq535070 r536371 hu536372 hu536373 lhc536375 fq536405 hx536401 fq536423 ht536429 bo536435 ht536436 r536440 hu536441 hu536442 ez536443 (ht R c1 c2 c3 c4))) (mz_up ez536443 (Int.le_trans bg535067'.2 (by decide)) hm75_535068)
                exact hlp75_535068 (((1000001 : Int) - 0).toNat + 1) 0 0 (gB_w (gBl (show Int32.toInt 0 = 0 by decide)) (by decide) (by decide)) (fun k e1 ht => ht) (Nat.lt_succ_self _)
              · have r536444 : z533696.toInt = 0 := gj_eq hc533697 (show Int32.toInt 0 = 0 by decide)
                have bz533696' : gB z533696 0 0 := ⟨by omega, by omega⟩
                have lhc533697 := gC_cmpE hz533696 hc533697
                refine G_goto 333 dr_cX17_findDepth_52 (by decide +kernel) ?_
                obtain ⟨z536445, hz536445⟩ : ∃ z : Int32, z = g533598 + Int32.ofInt 1 := ⟨_, rfl⟩
                have ez536445 : z536445.toInt = g533598.toInt + 1 := gI_inc hz536445 (by decide) bg533598' (by decide) (by decide)
                have bz536445 : gB z536445 1 1000000 := ⟨by omega, by omega⟩
                refine G_iinc (L' := [(4, .int z536445), (2, .long ol530773), (0, .ref q410325), (1, .ref q410326)]) z536445 0 dr_cX17_findDepth_333 rfl hz536445.symm (Nat.le_of_ble_eq_true rfl) rfl ?_
                refine G_goto 32 dr_cX17_findDepth_336 (by decide +kernel) ?_
                exact ih32_533603 F533599 z536445 (gB_w bz536445 (by decide) (by decide)) hT533600 hs533601 x533602 x533603 (fun k e1 ht => kt32_533604 k e1 (fun R c1 c2 c3 c4 => c4 F533599 g533598 p530742 u533694 u533695 z536445 k e1 bg533598 hT533600 hs533601 x533602 x533603 fq533610 r533693 hu533694 hu533695 lhc533697 ez536445 (ht R c1 c2 c3 c4))) (mz_up ez536445 (Int.le_trans bg533598'.2 (by decide)) hm32_533603)
        exact hlp32_533603 (((1000001 : Int) - 0).toNat + 1) F530727 0 (gB_w (gBl (show Int32.toInt 0 = 0 by decide)) (by decide) (by decide)) hT530728 hs530729 x530730 x530731 (fun k e1 ht => ht) (Nat.lt_succ_self _)
      · have r536446 : g530726.toInt < p530742.toInt := gC_nle hc530765
        have bg530726' : gB g530726 0 999999 := ⟨by omega, by omega⟩
        have bp530742' : gB p530742 1 1000000 := ⟨by omega, by omega⟩
        refine G_aload_n 1 dr_cX17_findDepth_10 rfl ?_
        have fq536447 : fR (F530727 q410325) 4 = (γ 9 4) := by rw [he530735]; rfl
        refine Gp_get 4 hm530736 he530735 dr_cX17_findDepth_11 (gk_X17 D I) (Nat.le_of_ble_eq_true rfl) wr_7_78 rfl ?_
        refine G_iload_n 0 dr_cX17_findDepth_14 rfl ?_
        refine G_iconst 0 dr_cX17_findDepth_15 (by decide +kernel) ?_
        have hm536448 : (γ 9 4) ∈ P410323 := RS_m hT530728 ht410354 (by decide)
        obtain ⟨f536450, he536449⟩ := show rk_16 I (F530727 (γ 9 4)) from RS_o hT530728 ht410354
        refine Gp_iast 0 hm536448 he536449 dr_cX17_findDepth_16 rfl (gB_inr (by omega) (by omega)) (fun F536451 e536452 n536453 => ?_)
        obtain ⟨f536454, hf536454⟩ : ∃ z, z = upd f536450 g530726.toNatClampNeg 0 := ⟨_, rfl⟩
        rw [← hf536454] at e536452
        have he536455 : F536451 q410325 = .inr (22, [.ref (γ 9 0), .ref (γ 9 1), .ref (γ 9 2), .ref (γ 9 3), .ref (γ 9 4), .ref (γ 9 5), .ref (γ 9 6), .ref (γ 9 7), .ref (γ 9 8), .int p410333, .int p410334, .int p410335, .int p410336, .int p410337, .int p410338, .ref (γ 9 15), .ref (γ 9 16), .ref (γ 9 17), .ref (γ 9 18), .ref (γ 9 19), .ref (γ 9 20), .ref (γ 9 21), .ref (γ 9 22), .int p410339, .int p410340, .int p410341, .int p410342, .int p410343, .ref q410331, .ref (γ 9 29), .int p410344, .ref (γ 9 31), .int p410345, .int p410346, .int p410347, .ref q410332]) := (n536453 q410325 (rn_oa he530735 he536449)).trans he530735
        have he536456 : F536451 q410326 = .inr (18, [.ref q530739, .ref q530740, .int p530741, .int p530742]) := (n536453 q410326 (rn_oa he530738 he536449)).trans he530738
        have he536457 : F536451 (γ 9 4) = .inl (I .int, 40, .inl f536454) := e536452
        have hs536458 : rStr γ [] F410324 F536451 := rStr_put hs530729 n536453 ht410354 (by decide)
        have kp536459 : F536451 q410325 = F410324 q410325 := (n536453 q410325 (rn_ty htq410325 ht410354 (by decide))).trans x530730
        have kp536460 : F536451 (γ 9 3) = F410324 (γ 9 3) := (n536453 (γ 9 3) (rn_ty ht410353 ht410354 (by decide))).trans x530731
        obtain ⟨z536461, hz536461⟩ : ∃ z : Int32, z = g530726 + Int32.ofInt 1 := ⟨_, rfl⟩
        have ez536461 : z536461.toInt = g530726.toInt + 1 := gI_inc hz536461 (by decide) bg530726' (by decide) (by decide)
        have bz536461 : gB z536461 1 1000000 := ⟨by omega, by omega⟩
        refine G_iinc (L' := [(2, .int z536461), (0, .ref q410325), (1, .ref q410326)]) z536461 0 dr_cX17_findDepth_17 rfl hz536461.symm (Nat.le_of_ble_eq_true rfl) rfl ?_
        refine G_goto 2 dr_cX17_findDepth_20 (by decide +kernel) ?_
        have hT536462 : RS D I P410323 F536451 γ el := RS_set hT530728 n536453 ht410354 (by decide) ⟨f536454, he536457⟩
        exact ih2_530731 F536451 z536461 (gB_w bz536461 (by decide) (by decide)) hT536462 hs536458 kp536459 kp536460 (fun k e1 ht => kt2_530732 k e1 (fun R c1 c2 => c2 F530727 g530726 p530742 f536450 f536454 F536451 z536461 k e1 bg530726 hT530728 hs530729 x530730 x530731 fq530759 r536446 fq536447 he536449 hf536454 n536453 he536457 ez536461 (ht R c1 c2))) (mz_up ez536461 (Int.le_trans bg530726'.2 (by decide)) hm2_530731)
  exact hlp2_530731 (((1000001 : Int) - 0).toNat + 1) F410324 0 (gB_w (gBl (show Int32.toInt 0 = 0 by decide)) (by decide) (by decide)) hT (rStr_rf (γ := γ) (W := []) (F := F410324)) rfl rfl (fun k e1 ht => ht) (Nat.lt_succ_self _)
/- tl_RModel_weigh_74: F, l5; out: F -/
def tl_RModel_weigh_74 (D : va_G) (I : FieldType → ClassId) (γ el : Nat → Nat → Nat) (P : List Nat) (F : Nat → va_E) (q0 : Nat) (c1 : Nat) (l3_2 : Int32) (s1 : Nat → va_E) (s2 : Int32) (k : Nat) (e1 : Nat → va_E) : Prop := ∀ R : (Nat → va_E) → (Int32) → Nat → (Nat → va_E) → Prop,
  (∀ (F_2 : Nat → va_E) (l5_2 : Int32) (x1 : Nat) (x2 : Int32), gB l5_2 0 1000001 → RS D I P F_2 γ el → rStr γ [] F F_2 → (F_2 q0 = F q0) → (F_2 (γ 9 3) = F (γ 9 3)) → fR (F_2 c1) 0 = x1 → x2.toInt = (γ 2 x1 : Int) → fI (F_2 x1) 2 = x2 → x2.toInt < l5_2.toInt → R F_2 l5_2 195 F_2) →
  (∀ (F_2 : Nat → va_E) (l5_2 : Int32) (x1 : Nat) (x2 : Int32) (x3 : Nat) (x4 : Int32) (x5 : Int32) (x6 : Int32) (x7 : Int32) (x8 : Int32) (x9 : Int32) (x10 : Int32) (k : Nat) (e1 : Nat → va_E), gB l5_2 0 1000001 → RS D I P F_2 γ el → rStr γ [] F F_2 → (F_2 q0 = F q0) → (F_2 (γ 9 3) = F (γ 9 3)) → fR (F_2 c1) 0 = x1 → x2.toInt = (γ 2 x1 : Int) → fI (F_2 x1) 2 = x2 → l5_2.toInt ≤ x2.toInt → x2.toInt = (γ 2 x1 : Int) → x2.toInt ≤ l5_2.toInt → fR (F_2 c1) 1 = x3 → fI (F_2 x3) 0 = x4 → gB x5 0 1 → tr_RRow_sets x4 x5 → x5.toInt = 0 → fI (F_2 x3) 5 = x6 → gB x7 0 1 → tr_RRow_usesA x4 x6 x7 → x7.toInt = 0 → fI (F_2 x3) 6 = x8 → gB x9 0 1 → tr_RRow_usesB x4 x8 x9 → x9.toInt = 0 → x10.toInt = l5_2.toInt + 1 → R F_2 x10 k e1 → R F_2 l5_2 k e1) →
  (∀ (F_2 : Nat → va_E) (l5_2 : Int32) (x1 : Nat) (x2 : Int32) (x3 : Nat) (x4 : Int32) (x5 : Int32) (x6 : Int32) (x7 : Int32) (x8 : Int32) (x9 : Int32) (x10 : Int32) (x11 : Nat → Int32) (x12 : Int32) (x13 : Int32) (x14 : Nat → Int32) (x15 : Nat → va_E) (x16 : Int32) (k : Nat) (e1 : Nat → va_E), gB l5_2 0 1000001 → RS D I P F_2 γ el → rStr γ [] F F_2 → (F_2 q0 = F q0) → (F_2 (γ 9 3) = F (γ 9 3)) → fR (F_2 c1) 0 = x1 → x2.toInt = (γ 2 x1 : Int) → fI (F_2 x1) 2 = x2 → l5_2.toInt ≤ x2.toInt → x2.toInt = (γ 2 x1 : Int) → x2.toInt ≤ l5_2.toInt → fR (F_2 c1) 1 = x3 → fI (F_2 x3) 0 = x4 → gB x5 0 1 → tr_RRow_sets x4 x5 → x5.toInt = 0 → fI (F_2 x3) 5 = x6 → gB x7 0 1 → tr_RRow_usesA x4 x6 x7 → x7.toInt = 0 → fI (F_2 x3) 6 = x8 → gB x9 0 1 → tr_RRow_usesB x4 x8 x9 → x9.toInt ≠ 0 → fR (F_2 q0) 5 = (γ 9 5) → fI (F_2 x3) 3 = x10 → F_2 (γ 9 5) = .inl (I .int, 2000, .inl x11) → x12 = x11 x10.toNatClampNeg → x13 = x12 + l3_2 → x14 = upd x11 x10.toNatClampNeg x13 → (∀ b, b ≠ (γ 9 5) → x15 b = F_2 b) → x15 (γ 9 5) = .inl (I .int, 2000, .inl x14) → x16.toInt = l5_2.toInt + 1 → R x15 x16 k e1 → R F_2 l5_2 k e1) →
  (∀ (F_2 : Nat → va_E) (l5_2 : Int32) (x1 : Nat) (x2 : Int32) (x3 : Nat) (x4 : Int32) (x5 : Int32) (x6 : Int32) (x7 : Int32) (x8 : Int32) (x9 : Nat → Int32) (x10 : Int32) (x11 : Int32) (x12 : Nat → Int32) (x13 : Nat → va_E) (x14 : Int32) (x15 : Int32) (x16 : Int32) (k : Nat) (e1 : Nat → va_E), gB l5_2 0 1000001 → RS D I P F_2 γ el → rStr γ [] F F_2 → (F_2 q0 = F q0) → (F_2 (γ 9 3) = F (γ 9 3)) → fR (F_2 c1) 0 = x1 → x2.toInt = (γ 2 x1 : Int) → fI (F_2 x1) 2 = x2 → l5_2.toInt ≤ x2.toInt → x2.toInt = (γ 2 x1 : Int) → x2.toInt ≤ l5_2.toInt → fR (F_2 c1) 1 = x3 → fI (F_2 x3) 0 = x4 → gB x5 0 1 → tr_RRow_sets x4 x5 → x5.toInt = 0 → fI (F_2 x3) 5 = x6 → gB x7 0 1 → tr_RRow_usesA x4 x6 x7 → x7.toInt ≠ 0 → fR (F_2 q0) 5 = (γ 9 5) → fI (F_2 x3) 2 = x8 → F_2 (γ 9 5) = .inl (I .int, 2000, .inl x9) → x10 = x9 x8.toNatClampNeg → x11 = x10 + l3_2 → x12 = upd x9 x8.toNatClampNeg x11 → (∀ b, b ≠ (γ 9 5) → x13 b = F_2 b) → x13 (γ 9 5) = .inl (I .int, 2000, .inl x12) → fI (x13 x3) 0 = x4 → fI (x13 x3) 6 = x14 → gB x15 0 1 → tr_RRow_usesB x4 x14 x15 → x15.toInt = 0 → x16.toInt = l5_2.toInt + 1 → R x13 x16 k e1 → R F_2 l5_2 k e1) →
  (∀ (F_2 : Nat → va_E) (l5_2 : Int32) (x1 : Nat) (x2 : Int32) (x3 : Nat) (x4 : Int32) (x5 : Int32) (x6 : Int32) (x7 : Int32) (x8 : Int32) (x9 : Nat → Int32) (x10 : Int32) (x11 : Int32) (x12 : Nat → Int32) (x13 : Nat → va_E) (x14 : Int32) (x15 : Int32) (x16 : Int32) (x17 : Int32) (x18 : Int32) (x19 : Nat → Int32) (x20 : Nat → va_E) (x21 : Int32) (k : Nat) (e1 : Nat → va_E), gB l5_2 0 1000001 → RS D I P F_2 γ el → rStr γ [] F F_2 → (F_2 q0 = F q0) → (F_2 (γ 9 3) = F (γ 9 3)) → fR (F_2 c1) 0 = x1 → x2.toInt = (γ 2 x1 : Int) → fI (F_2 x1) 2 = x2 → l5_2.toInt ≤ x2.toInt → x2.toInt = (γ 2 x1 : Int) → x2.toInt ≤ l5_2.toInt → fR (F_2 c1) 1 = x3 → fI (F_2 x3) 0 = x4 → gB x5 0 1 → tr_RRow_sets x4 x5 → x5.toInt = 0 → fI (F_2 x3) 5 = x6 → gB x7 0 1 → tr_RRow_usesA x4 x6 x7 → x7.toInt ≠ 0 → fR (F_2 q0) 5 = (γ 9 5) → fI (F_2 x3) 2 = x8 → F_2 (γ 9 5) = .inl (I .int, 2000, .inl x9) → x10 = x9 x8.toNatClampNeg → x11 = x10 + l3_2 → x12 = upd x9 x8.toNatClampNeg x11 → (∀ b, b ≠ (γ 9 5) → x13 b = F_2 b) → x13 (γ 9 5) = .inl (I .int, 2000, .inl x12) → fI (x13 x3) 0 = x4 → fI (x13 x3) 6 = x14 → gB x15 0 1 → tr_RRow_usesB x4 x14 x15 → x15.toInt ≠ 0 → fR (x13 q0) 5 = (γ 9 5) → fI (x13 x3) 3 = x16 → x13 (γ 9 5) = .inl (I .int, 2000, .inl x12) → x17 = x12 x16.toNatClampNeg → x18 = x17 + l3_2 → x19 = upd x12 x16.toNatClampNeg x18 → (∀ b, b ≠ (γ 9 5) → x20 b = x13 b) → x20 (γ 9 5) = .inl (I .int, 2000, .inl x19) → x21.toInt = l5_2.toInt + 1 → R x20 x21 k e1 → R F_2 l5_2 k e1) →
  (∀ (F_2 : Nat → va_E) (l5_2 : Int32) (x1 : Nat) (x2 : Int32) (x3 : Nat) (x4 : Int32) (x5 : Int32) (x6 : Int32) (x7 : Nat → Int32) (x8 : Int32) (x9 : Int32) (x10 : Nat → Int32) (x11 : Nat → va_E) (x12 : Int32) (x13 : Int32) (x14 : Int32) (x15 : Int32) (x16 : Int32) (k : Nat) (e1 : Nat → va_E), gB l5_2 0 1000001 → RS D I P F_2 γ el → rStr γ [] F F_2 → (F_2 q0 = F q0) → (F_2 (γ 9 3) = F (γ 9 3)) → fR (F_2 c1) 0 = x1 → x2.toInt = (γ 2 x1 : Int) → fI (F_2 x1) 2 = x2 → l5_2.toInt ≤ x2.toInt → x2.toInt = (γ 2 x1 : Int) → x2.toInt ≤ l5_2.toInt → fR (F_2 c1) 1 = x3 → fI (F_2 x3) 0 = x4 → gB x5 0 1 → tr_RRow_sets x4 x5 → x5.toInt ≠ 0 → fR (F_2 q0) 5 = (γ 9 5) → fI (F_2 x3) 1 = x6 → F_2 (γ 9 5) = .inl (I .int, 2000, .inl x7) → x8 = x7 x6.toNatClampNeg → x9 = x8 + l3_2 → x10 = upd x7 x6.toNatClampNeg x9 → (∀ b, b ≠ (γ 9 5) → x11 b = F_2 b) → x11 (γ 9 5) = .inl (I .int, 2000, .inl x10) → fI (x11 x3) 0 = x4 → fI (x11 x3) 5 = x12 → gB x13 0 1 → tr_RRow_usesA x4 x12 x13 → x13.toInt = 0 → fI (x11 x3) 6 = x14 → gB x15 0 1 → tr_RRow_usesB x4 x14 x15 → x15.toInt = 0 → x16.toInt = l5_2.toInt + 1 → R x11 x16 k e1 → R F_2 l5_2 k e1) →
  (∀ (F_2 : Nat → va_E) (l5_2 : Int32) (x1 : Nat) (x2 : Int32) (x3 : Nat) (x4 : Int32) (x5 : Int32) (x6 : Int32) (x7 : Nat → Int32) (x8 : Int32) (x9 : Int32) (x10 : Nat → Int32) (x11 : Nat → va_E) (x12 : Int32) (x13 : Int32) (x14 : Int32) (x15 : Int32) (x16 : Int32) (x17 : Int32) (x18 : Int32) (x19 : Nat → Int32) (x20 : Nat → va_E) (x21 : Int32) (k : Nat) (e1 : Nat → va_E), gB l5_2 0 1000001 → RS D I P F_2 γ el → rStr γ [] F F_2 → (F_2 q0 = F q0) → (F_2 (γ 9 3) = F (γ 9 3)) → fR (F_2 c1) 0 = x1 → x2.toInt = (γ 2 x1 : Int) → fI (F_2 x1) 2 = x2 → l5_2.toInt ≤ x2.toInt → x2.toInt = (γ 2 x1 : Int) → x2.toInt ≤ l5_2.toInt → fR (F_2 c1) 1 = x3 → fI (F_2 x3) 0 = x4 → gB x5 0 1 → tr_RRow_sets x4 x5 → x5.toInt ≠ 0 → fR (F_2 q0) 5 = (γ 9 5) → fI (F_2 x3) 1 = x6 → F_2 (γ 9 5) = .inl (I .int, 2000, .inl x7) → x8 = x7 x6.toNatClampNeg → x9 = x8 + l3_2 → x10 = upd x7 x6.toNatClampNeg x9 → (∀ b, b ≠ (γ 9 5) → x11 b = F_2 b) → x11 (γ 9 5) = .inl (I .int, 2000, .inl x10) → fI (x11 x3) 0 = x4 → fI (x11 x3) 5 = x12 → gB x13 0 1 → tr_RRow_usesA x4 x12 x13 → x13.toInt = 0 → fI (x11 x3) 6 = x14 → gB x15 0 1 → tr_RRow_usesB x4 x14 x15 → x15.toInt ≠ 0 → fR (x11 q0) 5 = (γ 9 5) → fI (x11 x3) 3 = x16 → x11 (γ 9 5) = .inl (I .int, 2000, .inl x10) → x17 = x10 x16.toNatClampNeg → x18 = x17 + l3_2 → x19 = upd x10 x16.toNatClampNeg x18 → (∀ b, b ≠ (γ 9 5) → x20 b = x11 b) → x20 (γ 9 5) = .inl (I .int, 2000, .inl x19) → x21.toInt = l5_2.toInt + 1 → R x20 x21 k e1 → R F_2 l5_2 k e1) →
  (∀ (F_2 : Nat → va_E) (l5_2 : Int32) (x1 : Nat) (x2 : Int32) (x3 : Nat) (x4 : Int32) (x5 : Int32) (x6 : Int32) (x7 : Nat → Int32) (x8 : Int32) (x9 : Int32) (x10 : Nat → Int32) (x11 : Nat → va_E) (x12 : Int32) (x13 : Int32) (x14 : Int32) (x15 : Int32) (x16 : Int32) (x17 : Nat → Int32) (x18 : Nat → va_E) (x19 : Int32) (x20 : Int32) (x21 : Int32) (k : Nat) (e1 : Nat → va_E), gB l5_2 0 1000001 → RS D I P F_2 γ el → rStr γ [] F F_2 → (F_2 q0 = F q0) → (F_2 (γ 9 3) = F (γ 9 3)) → fR (F_2 c1) 0 = x1 → x2.toInt = (γ 2 x1 : Int) → fI (F_2 x1) 2 = x2 → l5_2.toInt ≤ x2.toInt → x2.toInt = (γ 2 x1 : Int) → x2.toInt ≤ l5_2.toInt → fR (F_2 c1) 1 = x3 → fI (F_2 x3) 0 = x4 → gB x5 0 1 → tr_RRow_sets x4 x5 → x5.toInt ≠ 0 → fR (F_2 q0) 5 = (γ 9 5) → fI (F_2 x3) 1 = x6 → F_2 (γ 9 5) = .inl (I .int, 2000, .inl x7) → x8 = x7 x6.toNatClampNeg → x9 = x8 + l3_2 → x10 = upd x7 x6.toNatClampNeg x9 → (∀ b, b ≠ (γ 9 5) → x11 b = F_2 b) → x11 (γ 9 5) = .inl (I .int, 2000, .inl x10) → fI (x11 x3) 0 = x4 → fI (x11 x3) 5 = x12 → gB x13 0 1 → tr_RRow_usesA x4 x12 x13 → x13.toInt ≠ 0 → fR (x11 q0) 5 = (γ 9 5) → fI (x11 x3) 2 = x14 → x11 (γ 9 5) = .inl (I .int, 2000, .inl x10) → x15 = x10 x14.toNatClampNeg → x16 = x15 + l3_2 → x17 = upd x10 x14.toNatClampNeg x16 → (∀ b, b ≠ (γ 9 5) → x18 b = x11 b) → x18 (γ 9 5) = .inl (I .int, 2000, .inl x17) → fI (x18 x3) 0 = x4 → fI (x18 x3) 6 = x19 → gB x20 0 1 → tr_RRow_usesB x4 x19 x20 → x20.toInt = 0 → x21.toInt = l5_2.toInt + 1 → R x18 x21 k e1 → R F_2 l5_2 k e1) →
  (∀ (F_2 : Nat → va_E) (l5_2 : Int32) (x1 : Nat) (x2 : Int32) (x3 : Nat) (x4 : Int32) (x5 : Int32) (x6 : Int32) (x7 : Nat → Int32) (x8 : Int32) (x9 : Int32) (x10 : Nat → Int32) (x11 : Nat → va_E) (x12 : Int32) (x13 : Int32) (x14 : Int32) (x15 : Int32) (x16 : Int32) (x17 : Nat → Int32) (x18 : Nat → va_E) (x19 : Int32) (x20 : Int32) (x21 : Int32) (x22 : Int32) (x23 : Int32) (x24 : Nat → Int32) (x25 : Nat → va_E) (x26 : Int32) (k : Nat) (e1 : Nat → va_E), gB l5_2 0 1000001 → RS D I P F_2 γ el → rStr γ [] F F_2 → (F_2 q0 = F q0) → (F_2 (γ 9 3) = F (γ 9 3)) → fR (F_2 c1) 0 = x1 → x2.toInt = (γ 2 x1 : Int) → fI (F_2 x1) 2 = x2 → l5_2.toInt ≤ x2.toInt → x2.toInt = (γ 2 x1 : Int) → x2.toInt ≤ l5_2.toInt → fR (F_2 c1) 1 = x3 → fI (F_2 x3) 0 = x4 → gB x5 0 1 → tr_RRow_sets x4 x5 → x5.toInt ≠ 0 → fR (F_2 q0) 5 = (γ 9 5) → fI (F_2 x3) 1 = x6 → F_2 (γ 9 5) = .inl (I .int, 2000, .inl x7) → x8 = x7 x6.toNatClampNeg → x9 = x8 + l3_2 → x10 = upd x7 x6.toNatClampNeg x9 → (∀ b, b ≠ (γ 9 5) → x11 b = F_2 b) → x11 (γ 9 5) = .inl (I .int, 2000, .inl x10) → fI (x11 x3) 0 = x4 → fI (x11 x3) 5 = x12 → gB x13 0 1 → tr_RRow_usesA x4 x12 x13 → x13.toInt ≠ 0 → fR (x11 q0) 5 = (γ 9 5) → fI (x11 x3) 2 = x14 → x11 (γ 9 5) = .inl (I .int, 2000, .inl x10) → x15 = x10 x14.toNatClampNeg → x16 = x15 + l3_2 → x17 = upd x10 x14.toNatClampNeg x16 → (∀ b, b ≠ (γ 9 5) → x18 b = x11 b) → x18 (γ 9 5) = .inl (I .int, 2000, .inl x17) → fI (x18 x3) 0 = x4 → fI (x18 x3) 6 = x19 → gB x20 0 1 → tr_RRow_usesB x4 x19 x20 → x20.toInt ≠ 0 → fR (x18 q0) 5 = (γ 9 5) → fI (x18 x3) 3 = x21 → x18 (γ 9 5) = .inl (I .int, 2000, .inl x17) → x22 = x17 x21.toNatClampNeg → x23 = x22 + l3_2 → x24 = upd x17 x21.toNatClampNeg x23 → (∀ b, b ≠ (γ 9 5) → x25 b = x18 b) → x25 (γ 9 5) = .inl (I .int, 2000, .inl x24) → x26.toInt = l5_2.toInt + 1 → R x25 x26 k e1 → R F_2 l5_2 k e1) →
  (∀ (F_2 : Nat → va_E) (l5_2 : Int32) (x1 : Nat) (x2 : Int32) (x3 : Nat) (x4 : Int32) (x5 : Int32) (x6 : Int32) (x7 : Int32) (x8 : Int32) (x9 : Int32) (x10 : Int32) (k : Nat) (e1 : Nat → va_E), gB l5_2 0 1000001 → RS D I P F_2 γ el → rStr γ [] F F_2 → (F_2 q0 = F q0) → (F_2 (γ 9 3) = F (γ 9 3)) → fR (F_2 c1) 0 = x1 → x2.toInt = (γ 2 x1 : Int) → fI (F_2 x1) 2 = x2 → l5_2.toInt ≤ x2.toInt → x2.toInt = (γ 2 x1 : Int) → l5_2.toInt < x2.toInt → x3 = el x1 l5_2.toInt.toNat → tr_RArrayList_get l5_2 x2 → fI (F_2 x3) 0 = x4 → gB x5 0 1 → tr_RRow_sets x4 x5 → x5.toInt = 0 → fI (F_2 x3) 5 = x6 → gB x7 0 1 → tr_RRow_usesA x4 x6 x7 → x7.toInt = 0 → fI (F_2 x3) 6 = x8 → gB x9 0 1 → tr_RRow_usesB x4 x8 x9 → x9.toInt = 0 → x10.toInt = l5_2.toInt + 1 → R F_2 x10 k e1 → R F_2 l5_2 k e1) →
  (∀ (F_2 : Nat → va_E) (l5_2 : Int32) (x1 : Nat) (x2 : Int32) (x3 : Nat) (x4 : Int32) (x5 : Int32) (x6 : Int32) (x7 : Int32) (x8 : Int32) (x9 : Int32) (x10 : Int32) (x11 : Nat → Int32) (x12 : Int32) (x13 : Int32) (x14 : Nat → Int32) (x15 : Nat → va_E) (x16 : Int32) (k : Nat) (e1 : Nat → va_E), gB l5_2 0 1000001 → RS D I P F_2 γ el → rStr γ [] F F_2 → (F_2 q0 = F q0) → (F_2 (γ 9 3) = F (γ 9 3)) → fR (F_2 c1) 0 = x1 → x2.toInt = (γ 2 x1 : Int) → fI (F_2 x1) 2 = x2 → l5_2.toInt ≤ x2.toInt → x2.toInt = (γ 2 x1 : Int) → l5_2.toInt < x2.toInt → x3 = el x1 l5_2.toInt.toNat → tr_RArrayList_get l5_2 x2 → fI (F_2 x3) 0 = x4 → gB x5 0 1 → tr_RRow_sets x4 x5 → x5.toInt = 0 → fI (F_2 x3) 5 = x6 → gB x7 0 1 → tr_RRow_usesA x4 x6 x7 → x7.toInt = 0 → fI (F_2 x3) 6 = x8 → gB x9 0 1 → tr_RRow_usesB x4 x8 x9 → x9.toInt ≠ 0 → fR (F_2 q0) 5 = (γ 9 5) → fI (F_2 x3) 3 = x10 → F_2 (γ 9 5) = .inl (I .int, 2000, .inl x11) → x12 = x11 x10.toNatClampNeg → x13 = x12 + l3_2 → x14 = upd x11 x10.toNatClampNeg x13 → (∀ b, b ≠ (γ 9 5) → x15 b = F_2 b) → x15 (γ 9 5) = .inl (I .int, 2000, .inl x14) → x16.toInt = l5_2.toInt + 1 → R x15 x16 k e1 → R F_2 l5_2 k e1) →
  (∀ (F_2 : Nat → va_E) (l5_2 : Int32) (x1 : Nat) (x2 : Int32) (x3 : Nat) (x4 : Int32) (x5 : Int32) (x6 : Int32) (x7 : Int32) (x8 : Int32) (x9 : Nat → Int32) (x10 : Int32) (x11 : Int32) (x12 : Nat → Int32) (x13 : Nat → va_E) (x14 : Int32) (x15 : Int32) (x16 : Int32) (k : Nat) (e1 : Nat → va_E), gB l5_2 0 1000001 → RS D I P F_2 γ el → rStr γ [] F F_2 → (F_2 q0 = F q0) → (F_2 (γ 9 3) = F (γ 9 3)) → fR (F_2 c1) 0 = x1 → x2.toInt = (γ 2 x1 : Int) → fI (F_2 x1) 2 = x2 → l5_2.toInt ≤ x2.toInt → x2.toInt = (γ 2 x1 : Int) → l5_2.toInt < x2.toInt → x3 = el x1 l5_2.toInt.toNat → tr_RArrayList_get l5_2 x2 → fI (F_2 x3) 0 = x4 → gB x5 0 1 → tr_RRow_sets x4 x5 → x5.toInt = 0 → fI (F_2 x3) 5 = x6 → gB x7 0 1 → tr_RRow_usesA x4 x6 x7 → x7.toInt ≠ 0 → fR (F_2 q0) 5 = (γ 9 5) → fI (F_2 x3) 2 = x8 → F_2 (γ 9 5) = .inl (I .int, 2000, .inl x9) → x10 = x9 x8.toNatClampNeg → x11 = x10 + l3_2 → x12 = upd x9 x8.toNatClampNeg x11 → (∀ b, b ≠ (γ 9 5) → x13 b = F_2 b) → x13 (γ 9 5) = .inl (I .int, 2000, .inl x12) → fI (x13 x3) 0 = x4 → fI (x13 x3) 6 = x14 → gB x15 0 1 → tr_RRow_usesB x4 x14 x15 → x15.toInt = 0 → x16.toInt = l5_2.toInt + 1 → R x13 x16 k e1 → R F_2 l5_2 k e1) →
  (∀ (F_2 : Nat → va_E) (l5_2 : Int32) (x1 : Nat) (x2 : Int32) (x3 : Nat) (x4 : Int32) (x5 : Int32) (x6 : Int32) (x7 : Int32) (x8 : Int32) (x9 : Nat → Int32) (x10 : Int32) (x11 : Int32) (x12 : Nat → Int32) (x13 : Nat → va_E) (x14 : Int32) (x15 : Int32) (x16 : Int32) (x17 : Int32) (x18 : Int32) (x19 : Nat → Int32) (x20 : Nat → va_E) (x21 : Int32) (k : Nat) (e1 : Nat → va_E), gB l5_2 0 1000001 → RS D I P F_2 γ el → rStr γ [] F F_2 → (F_2 q0 = F q0) → (F_2 (γ 9 3) = F (γ 9 3)) → fR (F_2 c1) 0 = x1 → x2.toInt = (γ 2 x1 : Int) → fI (F_2 x1) 2 = x2 → l5_2.toInt ≤ x2.toInt → x2.toInt = (γ 2 x1 : Int) → l5_2.toInt < x2.toInt → x3 = el x1 l5_2.toInt.toNat → tr_RArrayList_get l5_2 x2 → fI (F_2 x3) 0 = x4 → gB x5 0 1 → tr_RRow_sets x4 x5 → x5.toInt = 0 → fI (F_2 x3) 5 = x6 → gB x7 0 1 → tr_RRow_usesA x4 x6 x7 → x7.toInt ≠ 0 → fR (F_2 q0) 5 = (γ 9 5) → fI (F_2 x3) 2 = x8 → F_2 (γ 9 5) = .inl (I .int, 2000, .inl x9) → x10 = x9 x8.toNatClampNeg → x11 = x10 + l3_2 → x12 = upd x9 x8.toNatClampNeg x11 → (∀ b, b ≠ (γ 9 5) → x13 b = F_2 b) → x13 (γ 9 5) = .inl (I .int, 2000, .inl x12) → fI (x13 x3) 0 = x4 → fI (x13 x3) 6 = x14 → gB x15 0 1 → tr_RRow_usesB x4 x14 x15 → x15.toInt ≠ 0 → fR (x13 q0) 5 = (γ 9 5) → fI (x13 x3) 3 = x16 → x13 (γ 9 5) = .inl (I .int, 2000, .inl x12) → x17 = x12 x16.toNatClampNeg → x18 = x17 + l3_2 → x19 = upd x12 x16.toNatClampNeg x18 → (∀ b, b ≠ (γ 9 5) → x20 b = x13 b) → x20 (γ 9 5) = .inl (I .int, 2000, .inl x19) → x21.toInt = l5_2.toInt + 1 → R x20 x21 k e1 → R F_2 l5_2 k e1) →
  (∀ (F_2 : Nat → va_E) (l5_2 : Int32) (x1 : Nat) (x2 : Int32) (x3 : Nat) (x4 : Int32) (x5 : Int32) (x6 : Int32) (x7 : Nat → Int32) (x8 : Int32) (x9 : Int32) (x10 : Nat → Int32) (x11 : Nat → va_E) (x12 : Int32) (x13 : Int32) (x14 : Int32) (x15 : Int32) (x16 : Int32) (k : Nat) (e1 : Nat → va_E), gB l5_2 0 1000001 → RS D I P F_2 γ el → rStr γ [] F F_2 → (F_2 q0 = F q0) → (F_2 (γ 9 3) = F (γ 9 3)) → fR (F_2 c1) 0 = x1 → x2.toInt = (γ 2 x1 : Int) → fI (F_2 x1) 2 = x2 → l5_2.toInt ≤ x2.toInt → x2.toInt = (γ 2 x1 : Int) → l5_2.toInt < x2.toInt → x3 = el x1 l5_2.toInt.toNat → tr_RArrayList_get l5_2 x2 → fI (F_2 x3) 0 = x4 → gB x5 0 1 → tr_RRow_sets x4 x5 → x5.toInt ≠ 0 → fR (F_2 q0) 5 = (γ 9 5) → fI (F_2 x3) 1 = x6 → F_2 (γ 9 5) = .inl (I .int, 2000, .inl x7) → x8 = x7 x6.toNatClampNeg → x9 = x8 + l3_2 → x10 = upd x7 x6.toNatClampNeg x9 → (∀ b, b ≠ (γ 9 5) → x11 b = F_2 b) → x11 (γ 9 5) = .inl (I .int, 2000, .inl x10) → fI (x11 x3) 0 = x4 → fI (x11 x3) 5 = x12 → gB x13 0 1 → tr_RRow_usesA x4 x12 x13 → x13.toInt = 0 → fI (x11 x3) 6 = x14 → gB x15 0 1 → tr_RRow_usesB x4 x14 x15 → x15.toInt = 0 → x16.toInt = l5_2.toInt + 1 → R x11 x16 k e1 → R F_2 l5_2 k e1) →
  (∀ (F_2 : Nat → va_E) (l5_2 : Int32) (x1 : Nat) (x2 : Int32) (x3 : Nat) (x4 : Int32) (x5 : Int32) (x6 : Int32) (x7 : Nat → Int32) (x8 : Int32) (x9 : Int32) (x10 : Nat → Int32) (x11 : Nat → va_E) (x12 : Int32) (x13 : Int32) (x14 : Int32) (x15 : Int32) (x16 : Int32) (x17 : Int32) (x18 : Int32) (x19 : Nat → Int32) (x20 : Nat → va_E) (x21 : Int32) (k : Nat) (e1 : Nat → va_E), gB l5_2 0 1000001 → RS D I P F_2 γ el → rStr γ [] F F_2 → (F_2 q0 = F q0) → (F_2 (γ 9 3) = F (γ 9 3)) → fR (F_2 c1) 0 = x1 → x2.toInt = (γ 2 x1 : Int) → fI (F_2 x1) 2 = x2 → l5_2.toInt ≤ x2.toInt → x2.toInt = (γ 2 x1 : Int) → l5_2.toInt < x2.toInt → x3 = el x1 l5_2.toInt.toNat → tr_RArrayList_get l5_2 x2 → fI (F_2 x3) 0 = x4 → gB x5 0 1 → tr_RRow_sets x4 x5 → x5.toInt ≠ 0 → fR (F_2 q0) 5 = (γ 9 5) → fI (F_2 x3) 1 = x6 → F_2 (γ 9 5) = .inl (I .int, 2000, .inl x7) → x8 = x7 x6.toNatClampNeg → x9 = x8 + l3_2 → x10 = upd x7 x6.toNatClampNeg x9 → (∀ b, b ≠ (γ 9 5) → x11 b = F_2 b) → x11 (γ 9 5) = .inl (I .int, 2000, .inl x10) → fI (x11 x3) 0 = x4 → fI (x11 x3) 5 = x12 → gB x13 0 1 → tr_RRow_usesA x4 x12 x13 → x13.toInt = 0 → fI (x11 x3) 6 = x14 → gB x15 0 1 → tr_RRow_usesB x4 x14 x15 → x15.toInt ≠ 0 → fR (x11 q0) 5 = (γ 9 5) → fI (x11 x3) 3 = x16 → x11 (γ 9 5) = .inl (I .int, 2000, .inl x10) → x17 = x10 x16.toNatClampNeg → x18 = x17 + l3_2 → x19 = upd x10 x16.toNatClampNeg x18 → (∀ b, b ≠ (γ 9 5) → x20 b = x11 b) → x20 (γ 9 5) = .inl (I .int, 2000, .inl x19) → x21.toInt = l5_2.toInt + 1 → R x20 x21 k e1 → R F_2 l5_2 k e1) →
  (∀ (F_2 : Nat → va_E) (l5_2 : Int32) (x1 : Nat) (x2 : Int32) (x3 : Nat) (x4 : Int32) (x5 : Int32) (x6 : Int32) (x7 : Nat → Int32) (x8 : Int32) (x9 : Int32) (x10 : Nat → Int32) (x11 : Nat → va_E) (x12 : Int32) (x13 : Int32) (x14 : Int32) (x15 : Int32) (x16 : Int32) (x17 : Nat → Int32) (x18 : Nat → va_E) (x19 : Int32) (x20 : Int32) (x21 : Int32) (k : Nat) (e1 : Nat → va_E), gB l5_2 0 1000001 → RS D I P F_2 γ el → rStr γ [] F F_2 → (F_2 q0 = F q0) → (F_2 (γ 9 3) = F (γ 9 3)) → fR (F_2 c1) 0 = x1 → x2.toInt = (γ 2 x1 : Int) → fI (F_2 x1) 2 = x2 → l5_2.toInt ≤ x2.toInt → x2.toInt = (γ 2 x1 : Int) → l5_2.toInt < x2.toInt → x3 = el x1 l5_2.toInt.toNat → tr_RArrayList_get l5_2 x2 → fI (F_2 x3) 0 = x4 → gB x5 0 1 → tr_RRow_sets x4 x5 → x5.toInt ≠ 0 → fR (F_2 q0) 5 = (γ 9 5) → fI (F_2 x3) 1 = x6 → F_2 (γ 9 5) = .inl (I .int, 2000, .inl x7) → x8 = x7 x6.toNatClampNeg → x9 = x8 + l3_2 → x10 = upd x7 x6.toNatClampNeg x9 → (∀ b, b ≠ (γ 9 5) → x11 b = F_2 b) → x11 (γ 9 5) = .inl (I .int, 2000, .inl x10) → fI (x11 x3) 0 = x4 → fI (x11 x3) 5 = x12 → gB x13 0 1 → tr_RRow_usesA x4 x12 x13 → x13.toInt ≠ 0 → fR (x11 q0) 5 = (γ 9 5) → fI (x11 x3) 2 = x14 → x11 (γ 9 5) = .inl (I .int, 2000, .inl x10) → x15 = x10 x14.toNatClampNeg → x16 = x15 + l3_2 → x17 = upd x10 x14.toNatClampNeg x16 → (∀ b, b ≠ (γ 9 5) → x18 b = x11 b) → x18 (γ 9 5) = .inl (I .int, 2000, .inl x17) → fI (x18 x3) 0 = x4 → fI (x18 x3) 6 = x19 → gB x20 0 1 → tr_RRow_usesB x4 x19 x20 → x20.toInt = 0 → x21.toInt = l5_2.toInt + 1 → R x18 x21 k e1 → R F_2 l5_2 k e1) →
  (∀ (F_2 : Nat → va_E) (l5_2 : Int32) (x1 : Nat) (x2 : Int32) (x3 : Nat) (x4 : Int32) (x5 : Int32) (x6 : Int32) (x7 : Nat → Int32) (x8 : Int32) (x9 : Int32) (x10 : Nat → Int32) (x11 : Nat → va_E) (x12 : Int32) (x13 : Int32) (x14 : Int32) (x15 : Int32) (x16 : Int32) (x17 : Nat → Int32) (x18 : Nat → va_E) (x19 : Int32) (x20 : Int32) (x21 : Int32) (x22 : Int32) (x23 : Int32) (x24 : Nat → Int32) (x25 : Nat → va_E) (x26 : Int32) (k : Nat) (e1 : Nat → va_E), gB l5_2 0 1000001 → RS D I P F_2 γ el → rStr γ [] F F_2 → (F_2 q0 = F q0) → (F_2 (γ 9 3) = F (γ 9 3)) → fR (F_2 c1) 0 = x1 → x2.toInt = (γ 2 x1 : Int) → fI (F_2 x1) 2 = x2 → l5_2.toInt ≤ x2.toInt → x2.toInt = (γ 2 x1 : Int) → l5_2.toInt < x2.toInt → x3 = el x1 l5_2.toInt.toNat → tr_RArrayList_get l5_2 x2 → fI (F_2 x3) 0 = x4 → gB x5 0 1 → tr_RRow_sets x4 x5 → x5.toInt ≠ 0 → fR (F_2 q0) 5 = (γ 9 5) → fI (F_2 x3) 1 = x6 → F_2 (γ 9 5) = .inl (I .int, 2000, .inl x7) → x8 = x7 x6.toNatClampNeg → x9 = x8 + l3_2 → x10 = upd x7 x6.toNatClampNeg x9 → (∀ b, b ≠ (γ 9 5) → x11 b = F_2 b) → x11 (γ 9 5) = .inl (I .int, 2000, .inl x10) → fI (x11 x3) 0 = x4 → fI (x11 x3) 5 = x12 → gB x13 0 1 → tr_RRow_usesA x4 x12 x13 → x13.toInt ≠ 0 → fR (x11 q0) 5 = (γ 9 5) → fI (x11 x3) 2 = x14 → x11 (γ 9 5) = .inl (I .int, 2000, .inl x10) → x15 = x10 x14.toNatClampNeg → x16 = x15 + l3_2 → x17 = upd x10 x14.toNatClampNeg x16 → (∀ b, b ≠ (γ 9 5) → x18 b = x11 b) → x18 (γ 9 5) = .inl (I .int, 2000, .inl x17) → fI (x18 x3) 0 = x4 → fI (x18 x3) 6 = x19 → gB x20 0 1 → tr_RRow_usesB x4 x19 x20 → x20.toInt ≠ 0 → fR (x18 q0) 5 = (γ 9 5) → fI (x18 x3) 3 = x21 → x18 (γ 9 5) = .inl (I .int, 2000, .inl x17) → x22 = x17 x21.toNatClampNeg → x23 = x22 + l3_2 → x24 = upd x17 x21.toNatClampNeg x23 → (∀ b, b ≠ (γ 9 5) → x25 b = x18 b) → x25 (γ 9 5) = .inl (I .int, 2000, .inl x24) → x26.toInt = l5_2.toInt + 1 → R x25 x26 k e1 → R F_2 l5_2 k e1) →
  R s1 s2 k e1
/- tl_RModel_weigh_42: l4, l3; out: l3 -/
def tl_RModel_weigh_42 (D : va_G) (I : FieldType → ClassId) (γ el : Nat → Nat → Nat) (F_1 : Nat → va_E) (q0 : Nat) (l2_1 : Int32) (s1 : Int32) (s2 : Int32) (k : Nat) (e1 : Int32) : Prop := ∀ R : (Int32) → (Int32) → Nat → (Int32) → Prop,
  (∀ (l4_2 : Int32) (l3_2 : Int32) (x1 : Nat → Int32) (x2 : Int32), gB l4_2 0 2147483647 → fR (F_1 q0) 4 = (γ 9 4) → F_1 (γ 9 4) = .inl (I .int, 40, .inl x1) → x2 = x1 l2_1.toNatClampNeg → x2.toInt ≤ l4_2.toInt → R l4_2 l3_2 64 l3_2) →
  (∀ (l4_2 : Int32) (l3_2 : Int32) (x1 : Nat → Int32) (x2 : Int32) (x3 : Int32) (x4 : Int32) (k : Nat) (e1 : Int32), gB l4_2 0 2147483647 → fR (F_1 q0) 4 = (γ 9 4) → F_1 (γ 9 4) = .inl (I .int, 40, .inl x1) → x2 = x1 l2_1.toNatClampNeg → l4_2.toInt < x2.toInt → x3 = l3_2 * (10 : Int32) → x4.toInt = l4_2.toInt + 1 → R x4 x3 k e1 → R l4_2 l3_2 k e1) →
  R s1 s2 k e1
/- tl_RModel_weigh_29: F, l2; out: F -/
def tl_RModel_weigh_29 (D : va_G) (I : FieldType → ClassId) (γ el : Nat → Nat → Nat) (P : List Nat) (F : Nat → va_E) (q0 : Nat) (q1 : Nat) (s1 : Nat → va_E) (s2 : Int32) (k : Nat) (e1 : Nat → va_E) : Prop := ∀ R : (Nat → va_E) → (Int32) → Nat → (Nat → va_E) → Prop,
  (∀ (F_1 : Nat → va_E) (l2_1 : Int32) (x1 : Int32), gB l2_1 0 1000000 → RS D I P F_1 γ el → rStr γ [] F F_1 → (F_1 q0 = F q0) → (F_1 (γ 9 3) = F (γ 9 3)) → fI (F_1 q1) 3 = x1 → x1.toInt ≤ l2_1.toInt → R F_1 l2_1 201 F_1) →
  (∀ (F_1 : Nat → va_E) (l2_1 : Int32) (x1 : Int32) (x2 : Int32) (x3 : Nat) (x4 : Nat) (x5 : Int32) (x6 : Nat → va_E) (x7 : Int32) (k : Nat) (e1 : Nat → va_E), gB l2_1 0 1000000 → RS D I P F_1 γ el → rStr γ [] F F_1 → (F_1 q0 = F q0) → (F_1 (γ 9 3) = F (γ 9 3)) → fI (F_1 q1) 3 = x1 → l2_1.toInt < x1.toInt → tl_RModel_weigh_42 D I γ el F_1 q0 l2_1 (0 : Int32) (1 : Int32) 64 x2 → fR (F_1 q1) 0 = x3 → x4 = el x3 l2_1.toInt.toNat → fI (F_1 x3) 2 = x5 → tr_RCode_get l2_1 x5 → tl_RModel_weigh_74 D I γ el P F q0 x4 x2 F_1 (0 : Int32) 195 x6 → x7.toInt = l2_1.toInt + 1 → R x6 x7 k e1 → R F_1 l2_1 k e1) →
  R s1 s2 k e1
/- tl_RModel_weigh_7: F, l2; out: F -/
def tl_RModel_weigh_7 (D : va_G) (I : FieldType → ClassId) (γ el : Nat → Nat → Nat) (P : List Nat) (F : Nat → va_E) (q0 : Nat) (s1 : Nat → va_E) (s2 : Int32) (k : Nat) (e1 : Nat → va_E) : Prop := ∀ R : (Nat → va_E) → (Int32) → Nat → (Nat → va_E) → Prop,
  (∀ (F_1 : Nat → va_E) (l2_1 : Int32), gB l2_1 0 2000 → RS D I P F_1 γ el → rStr γ [] F F_1 → (F_1 q0 = F q0) → (F_1 (γ 9 3) = F (γ 9 3)) → 2000 ≤ l2_1.toInt → R F_1 l2_1 27 F_1) →
  (∀ (F_1 : Nat → va_E) (l2_1 : Int32) (x1 : Nat → Int32) (x2 : Nat → Int32) (x3 : Nat → va_E) (x4 : Int32) (k : Nat) (e1 : Nat → va_E), gB l2_1 0 2000 → RS D I P F_1 γ el → rStr γ [] F F_1 → (F_1 q0 = F q0) → (F_1 (γ 9 3) = F (γ 9 3)) → l2_1.toInt < 2000 → fR (F_1 q0) 5 = (γ 9 5) → F_1 (γ 9 5) = .inl (I .int, 2000, .inl x1) → x2 = upd x1 l2_1.toNatClampNeg 0 → (∀ b, b ≠ (γ 9 5) → x3 b = F_1 b) → x3 (γ 9 5) = .inl (I .int, 2000, .inl x2) → x4.toInt = l2_1.toInt + 1 → R x3 x4 k e1 → R F_1 l2_1 k e1) →
  R s1 s2 k e1
/- tr_RModel_weigh: F -/
def tr_RModel_weigh (D : va_G) (I : FieldType → ClassId) (γ el : Nat → Nat → Nat) (P : List Nat) (F : Nat → va_E) (q0 : Nat) (q1 : Nat) (o1 : Nat → va_E) : Prop := ∀ R : (Nat → va_E) → Prop,
  (∀ (x1 : Nat → va_E) (x2 : Nat → va_E) (x3 : Nat → va_E), RS D I P x1 γ el → rStr γ [] F x1 → (x1 q0 = F q0) → (x1 (γ 9 3) = F (γ 9 3)) → tr_RModel_findDepth2 D I γ el P F q0 q1 x1 → tl_RModel_weigh_7 D I γ el P F q0 x1 (0 : Int32) 27 x2 → tl_RModel_weigh_29 D I γ el P F q0 q1 x2 (0 : Int32) 201 x3 → R x3) →
  R o1
