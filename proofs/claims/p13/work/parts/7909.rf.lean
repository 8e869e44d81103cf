theorem dr_cX17_zeros_0 : decode cX17_zeros 0 = .ok (.aload_n 0, 1) := by decide +kernel
theorem dr_cX17_zeros_1 : decode cX17_zeros 1 = .ok (.aload_n 1, 1) := by decide +kernel
theorem dr_cX17_zeros_2 : decode cX17_zeros 2 = .ok (.iconst 0, 1) := by decide +kernel
theorem dr_cX17_zeros_3 : decode cX17_zeros 3 = .ok (.invokevirtual 127, 3) := by decide +kernel
theorem dr_cX17_zeros_6 : decode cX17_zeros 6 = .ok (.iconst 0, 1) := by decide +kernel
theorem dr_cX17_zeros_7 : decode cX17_zeros 7 = .ok (.istore_n 2, 1) := by decide +kernel
theorem dr_cX17_zeros_8 : decode cX17_zeros 8 = .ok (.iconst 0, 1) := by decide +kernel
theorem dr_cX17_zeros_9 : decode cX17_zeros 9 = .ok (.istore_n 3, 1) := by decide +kernel
theorem dr_cX17_zeros_10 : decode cX17_zeros 10 = .ok (.iload_n 3, 1) := by decide +kernel
theorem dr_cX17_zeros_11 : decode cX17_zeros 11 = .ok (.sipush 2000, 3) := by decide +kernel
theorem dr_cX17_zeros_14 : decode cX17_zeros 14 = .ok (.if_icmp .ge 60, 3) := by decide +kernel
theorem dr_cX17_zeros_74 : decode cX17_zeros 74 = .ok (.return_, 1) := by decide +kernel
theorem dr_cX17_zeros_17 : decode cX17_zeros 17 = .ok (.aload_n 0, 1) := by decide +kernel
theorem dr_cX17_zeros_18 : decode cX17_zeros 18 = .ok (.getfield 88, 3) := by decide +kernel
theorem dr_cX17_zeros_21 : decode cX17_zeros 21 = .ok (.iconst 0, 1) := by decide +kernel
theorem dr_cX17_zeros_22 : decode cX17_zeros 22 = .ok (.aaload, 1) := by decide +kernel
theorem dr_cX17_zeros_23 : decode cX17_zeros 23 = .ok (.iload_n 3, 1) := by decide +kernel
theorem dr_cX17_zeros_24 : decode cX17_zeros 24 = .ok (.invokestatic 145, 3) := by decide +kernel
theorem dr_cX17_zeros_27 : decode cX17_zeros 27 = .ok (.ifCond .ne 6, 3) := by decide +kernel
theorem dr_cX17_zeros_30 : decode cX17_zeros 30 = .ok (.goto 38, 3) := by decide +kernel
theorem dr_cX17_zeros_68 : decode cX17_zeros 68 = .ok (.iinc 3 1, 3) := by decide +kernel
theorem dr_cX17_zeros_71 : decode cX17_zeros 71 = .ok (.goto (-61), 3) := by decide +kernel
theorem dr_cX17_zeros_33 : decode cX17_zeros 33 = .ok (.aload_n 1, 1) := by decide +kernel
theorem dr_cX17_zeros_34 : decode cX17_zeros 34 = .ok (.invokevirtual 177, 3) := by decide +kernel
theorem dr_cX17_zeros_37 : decode cX17_zeros 37 = .ok (.astore 4, 2) := by decide +kernel
theorem dr_cX17_zeros_39 : decode cX17_zeros 39 = .ok (.aload 4, 2) := by decide +kernel
theorem dr_cX17_zeros_41 : decode cX17_zeros 41 = .ok (.iconst 0, 1) := by decide +kernel
theorem dr_cX17_zeros_42 : decode cX17_zeros 42 = .ok (.putfield 39, 3) := by decide +kernel
theorem dr_cX17_zeros_45 : decode cX17_zeros 45 = .ok (.aload 4, 2) := by decide +kernel
theorem dr_cX17_zeros_47 : decode cX17_zeros 47 = .ok (.iload_n 3, 1) := by decide +kernel
theorem dr_cX17_zeros_48 : decode cX17_zeros 48 = .ok (.putfield 52, 3) := by decide +kernel
theorem dr_cX17_zeros_51 : decode cX17_zeros 51 = .ok (.aload_n 1, 1) := by decide +kernel
theorem dr_cX17_zeros_52 : decode cX17_zeros 52 = .ok (.iconst 0, 1) := by decide +kernel
theorem dr_cX17_zeros_53 : decode cX17_zeros 53 = .ok (.invokevirtual 101, 3) := by decide +kernel
theorem dr_cX17_zeros_56 : decode cX17_zeros 56 = .ok (.getfield 117, 3) := by decide +kernel
theorem dr_cX17_zeros_59 : decode cX17_zeros 59 = .ok (.iload_n 2, 1) := by decide +kernel
theorem dr_cX17_zeros_60 : decode cX17_zeros 60 = .ok (.aload 4, 2) := by decide +kernel
theorem dr_cX17_zeros_62 : decode cX17_zeros 62 = .ok (.invokevirtual 181, 3) := by decide +kernel
theorem dr_cX17_zeros_65 : decode cX17_zeros 65 = .ok (.iinc 2 1, 3) := by decide +kernel
abbrev ky_366617_SpillForgeModel_zeros : gKey := (cX17_zeros, 5, "SpillForgeModel", none, [], "zeros", fun _ _ => True)
def pg_366617_SpillForgeModel_zeros (D : va_G) (I : FieldType → ClassId) (γ0 el0 : Nat → Nat → Nat) (f : Nat) (B : Nat) (P366611 : List Nat) (F366612 : Nat → va_E) (q366613 : Nat) (q366614 : Nat) : Option Value → va_W → Nat → Nat → Prop := fun r w dc ds => ∃ (P369983 : List Nat) (F369984 : Nat → va_E) (γ el : Nat → Nat → Nat), r = none ∧ w = va_pl P369983 F369984 ∧ rSk f [101] ([1, 3, 5, 6, 8, 9, 101] ++ npk) D I P366611 F366612 γ0 el0 P369983 F369984 γ el ∧ (18 * dc + rPh γ0 el0 f ≤ rPh γ el f ∧ ds + rPh γ0 el0 f ≤ rPh γ el f) ∧ rBd γ el f B ∧ γ 6 f = γ0 6 f ∧ γ 7 f = γ0 7 f ∧ γ 16 f ≤ γ0 16 f + 2000 ∧ γ 18 f = γ0 18 f ∧ (F369984 q366613 = F366612 q366613) ∧ tr_RModel_zeros D I γ0 el0 f P366611 F366612 q366613 q366614 P369983 F369984 γ el
set_option maxRecDepth 100000 in
set_option maxHeartbeats 1500000 in
theorem cg_366617_SpillForgeModel_zeros (l : Launch) (hl0 : l.stackTraces = false) (D : va_G) (I : FieldType → ClassId) (γ0 el0 : Nat → Nat → Nat) (f : Nat) (B : Nat) (P366611 : List Nat) (F366612 : Nat → va_E) (q366613 : Nat) (q366614 : Nat) (hT0 : RS D I P366611 F366612 γ0 el0) (hzq366613 : rKd γ0 q366613 10) (hzq366614 : rKd γ0 q366614 9) (hf0 : γ0 1 q366614 = f) (hB0 : rBd γ0 el0 f B) (hBk : B ≤ 100000) (x366615 : 0 < γ0 6 f) (x366616 : γ0 16 f + 2000 ≤ B) : CtA (gV D I) l yX17_zeros cX17_zeros 5 none 8 170 (((387 * B + 6000) - rPh γ0 el0 f) / 18) ((387 * B + 6000) - rPh γ0 el0 f) [.ref q366613, .ref q366614] (va_pl P366611 F366612) (pg_366617_SpillForgeModel_zeros D I γ0 el0 f B P366611 F366612 q366613 q366614) gNA := by
  refine CtA_of hl0 (by decide) (Nat.le_of_ble_eq_true rfl) ?_
  obtain ⟨gm_0, hγ0⟩ : ∃ z, z = γ0 := ⟨_, rfl⟩
  obtain ⟨el_0, hel0⟩ : ∃ z, z = el0 := ⟨_, rfl⟩
  have hT : RS D I P366611 F366612 gm_0 el_0 := by rw [hγ0, hel0]; exact hT0
  have hst : rSk f [101] ([1, 3, 5, 6, 8, 9, 101] ++ npk) D I P366611 F366612 γ0 el0 P366611 F366612 gm_0 el_0 := by rw [hγ0, hel0]; exact rSk_rf hT0
  have hph : rPh γ0 el0 f ≤ rPh gm_0 el_0 f := by rw [hγ0, hel0]; exact Nat.le_refl _
  have hB : rBd gm_0 el_0 f B := by rw [hγ0, hel0]; exact hB0
  have htq366613 : rKd gm_0 q366613 10 := by rw [hγ0]; exact hzq366613
  have htq366614 : rKd gm_0 q366614 9 := by rw [hγ0]; exact hzq366614
  have hf1 : gm_0 1 q366614 = f := by rw [hγ0]; exact hf0
  have x366615n : 0 < gm_0 6 f := by rw [hγ0]; exact x366615
  have x366616n : gm_0 16 f + 2000 ≤ B := by rw [hγ0]; exact x366616
  have pk366618 : rPh gm_0 el_0 f ≤ 387 * B + 6000 := rm_pk (rM_ge hT htq366614 hf1).1 (rM_bd hB)
  refine G_widen (cs' := ((rPh gm_0 el_0 f - rPh γ0 el0 f) / 18)) (sl' := (rPh gm_0 el_0 f - rPh γ0 el0 f)) (Nat.zero_le _) (Nat.zero_le _) ?_
  have r366619 : 0 < gm_0 6 (gm_0 1 q366614) := by rw [hf1]; omega
  have lz0 : Int32.toInt 0 = 0 := by decide
  have r366620 : gm_0 6 f = γ0 6 f := by rw [hγ0]
  have r366621 : gm_0 7 f = γ0 7 f := by rw [hγ0]
  have r366622 : gm_0 16 f = γ0 16 f := by rw [hγ0]
  have r366623 : gm_0 18 f = γ0 18 f := by rw [hγ0]
  have r366624 : gm_0 19 f = γ0 19 f := by rw [hγ0]
  refine G_aload_n 0 dr_cX17_zeros_0 rfl ?_
  refine G_aload_n 1 dr_cX17_zeros_1 rfl ?_
  refine G_iconst 0 dr_cX17_zeros_2 (by decide +kernel) ?_
  have hm366630 : q366613 ∈ P366611 := RS_m hT htq366613 (by decide)
  obtain ⟨q366632, q366633, p366634, p366635, p366636, p366637, p366638, p366639, p366640, p366641, p366642, p366643, p366644, p366645, p366646, p366647, p366648, he366631, hB366675, ht366649, ht366650, ht366651, ht366652, ht366653, ht366654, ht366655, ht366656, ht366657, ht366658, ht366659, ht366660, ht366661, ht366662, ht366663, ht366664, ht366665, ht366666, ht366667, ht366668, ht366669, ht366670, ht366671, ht366672, hB366676⟩ := show rk_10 gm_0 (F366612 q366613) from RS_o hT htq366613
  refine Gw_callV (As := [.ref q366614, .int 0]) (gV_ok D I) (ct_225959_SpillForgeModel_findLive l hl0 D I gm_0 el_0 P366611 F366612 q366613 q366614 0 hT htq366613 htq366614 (gB_w (gBl (show Int32.toInt 0 = 0 by decide)) (by decide) (by decide)) (by omega)) dr_cX17_zeros_3 ⟨wr_10_156, wr_1_14, wr_10_159, by decide, rfl, (Nat.le_of_ble_eq_true rfl), (Nat.le_of_ble_eq_true rfl)⟩ wr_10_158 wr_p_94 hm366630 he366631 rfl (rm_zc pk366618) (rm_zs pk366618) (Nat.le_of_ble_eq_true rfl) (fun r366628 w366629 dc366625 ds366626 hp366627 => ?_) (fun _ _ _ _ _ z => z.elim)
  obtain ⟨F366679, rfl, rfl, hT366680, hs366681, hdc, hds, x366677, ht366678⟩ := hp366627
  have hs366682 := rSk_str hst hT366680 hs366681 (by decide) (by decide) (by decide)
  have kp366683 : F366679 q366613 = F366612 q366613 := x366677
  have he366684 : F366679 q366613 = .inr (22, [.ref (gm_0 9 0), .ref (gm_0 9 1), .ref (gm_0 9 2), .ref (gm_0 9 3), .ref (gm_0 9 4), .ref (gm_0 9 5), .ref (gm_0 9 6), .ref (gm_0 9 7), .ref (gm_0 9 8), .int p366634, .int p366635, .int p366636, .int p366637, .int p366638, .int p366639, .ref (gm_0 9 15), .ref (gm_0 9 16), .ref (gm_0 9 17), .ref (gm_0 9 18), .ref (gm_0 9 19), .ref (gm_0 9 20), .ref (gm_0 9 21), .ref (gm_0 9 22), .int p366640, .int p366641, .int p366642, .int p366643, .int p366644, .ref q366632, .ref (gm_0 9 29), .int p366645, .ref (gm_0 9 31), .int p366646, .int p366647, .int p366648, .ref q366633]) := (x366677).trans he366631
  change G _ _ _ _ _ _ _ _ _ _ _
  refine G_widen (cs' := ((rPh gm_0 el_0 f - rPh γ0 el0 f) / 18)) (sl' := (rPh gm_0 el_0 f - rPh γ0 el0 f)) (rm_d0 hdc) (rm_d0 hds) ?_
  refine G_iconst 0 dr_cX17_zeros_6 (by decide +kernel) ?_
  refine G_istore_n (L' := [(2, .int 0), (0, .ref q366613), (1, .ref q366614)]) dr_cX17_zeros_7 (Nat.le_of_ble_eq_true rfl) rfl ?_
  refine G_iconst 0 dr_cX17_zeros_8 (by decide +kernel) ?_
  refine G_istore_n (L' := [(3, .int 0), (2, .int 0), (0, .ref q366613), (1, .ref q366614)]) dr_cX17_zeros_9 (Nat.le_of_ble_eq_true rfl) rfl ?_
  have hlp10_369567 : ∀ (n10_369567 : Nat) (P369555 : List Nat) (F369556 : Nat → va_E) (gm_F369556 el_F369556 : Nat → Nat → Nat) (g369553 : Int32) (g369554 : Int32), gB g369553 0 2000 → gB g369554 0 2000 → RS D I P369555 F369556 gm_F369556 el_F369556 → rSk f [101] ([1, 3, 5, 6, 8, 9, 101] ++ npk) D I P366611 F366612 γ0 el0 P369555 F369556 gm_F369556 el_F369556 → rPh γ0 el0 f ≤ rPh gm_F369556 el_F369556 f → rBd gm_F369556 el_F369556 f B → gm_F369556 6 f = γ0 6 f → gm_F369556 7 f = γ0 7 f → gm_F369556 18 f = γ0 18 f → gm_F369556 16 f ≤ γ0 16 f + (g369554.toInt : Int).toNat → g369554.toInt ≤ g369553.toInt → (g369554.toInt : Int) ≤ gm_F369556 2 (gm_F369556 14 (el_F369556 (gm_F369556 14 q366614) (0 : Int32).toInt.toNat)) → (F369556 q366613 = F366612 q366613) → (∀ (k : Nat) (e1 : Nat → va_E) (e2 : List Nat) (e3 : Nat → Nat → Nat) (e4 : Nat → Nat → Nat), tl_RModel_zeros_10 D I γ0 el0 f P366611 F366612 q366614 q366613 P369555 F369556 gm_F369556 el_F369556 g369553 g369554 k e1 e2 e3 e4 → tl_RModel_zeros_10 D I γ0 el0 f P366611 F366612 q366614 q366613 P366611 F366679 gm_0 el_0 (0 : Int32) (0 : Int32) k e1 e2 e3 e4) → ((2001 : Int) - g369553.toInt).toNat < n10_369567 → G (gV D I) l (gRm 8 170 (((387 * B + 6000) - rPh γ0 el0 f) / 18) ((387 * B + 6000) - rPh γ0 el0 f)) (gMA (gV D I) (pg_366617_SpillForgeModel_zeros D I γ0 el0 f B P366611 F366612 q366613 q366614) gNA (((387 * B + 6000) - rPh γ0 el0 f) / 18) ((387 * B + 6000) - rPh γ0 el0 f)) ky_366617_SpillForgeModel_zeros 10 [(3, .int g369553), (2, .int g369554), (0, .ref q366613), (1, .ref q366614)] [] (va_pl P369555 F369556) ((rPh gm_F369556 el_F369556 f - rPh γ0 el0 f) / 18) (rPh gm_F369556 el_F369556 f - rPh γ0 el0 f) := by
    intro n10_369567
    induction n10_369567 with
    | zero => intro P369555 F369556 gm_F369556 el_F369556 g369553 g369554 bg369553 bg369554 hT369557 hs369558 hph369559 hB369560 x369561 x369562 x369563 x369564 x369565 x369566 x369567 kt10_369568 hm10_369567; exact absurd hm10_369567 (Nat.not_lt_zero _)
    | succ n10_369567 ih10_369567 =>
      intro P369555 F369556 gm_F369556 el_F369556 g369553 g369554 bg369553 bg369554 hT369557 hs369558 hph369559 hB369560 x369561 x369562 x369563 x369564 x369565 x369566 x369567 kt10_369568 hm10_369567
      clear r366620 r366621 r366622 r366623 r366624
      have ht369569 : rKd gm_F369556 q366613 10 := rSk_k hs369558 hzq366613 (by decide) (by decide)
      have ht369570 : rKd gm_F369556 q366614 9 := rSk_k hs369558 hzq366614 (by decide) (by decide)
      have hf369571 : gm_F369556 1 q366614 = f := rSk_1 hs369558 hzq366614 (by decide) hf0
      have pk369572 : rPh gm_F369556 el_F369556 f ≤ 387 * B + 6000 := rm_pk (rM_ge hT369557 ht369570 hf369571).1 (rM_bd hB369560)
      have r369573 : 0 < gm_F369556 6 (gm_F369556 1 q366614) := by rw [hf369571]; omega
      refine G_iload_n 0 dr_cX17_zeros_10 rfl ?_
      refine G_sipush 2000 dr_cX17_zeros_11 (by decide +kernel) ?_
      refine G_icmp_ge 74 dr_cX17_zeros_14 (by decide +kernel) (fun hc369574 => ?_) (fun hc369574 => ?_)
      · have r369575 : 2000 ≤ g369553.toInt := gj_leL hc369574 (show Int32.toInt 2000 = 2000 by decide)
        have bg369553' : gB g369553 2000 2000 := ⟨by omega, by omega⟩
        have hx369576 : tl_RModel_zeros_10 D I γ0 el0 f P366611 F366612 q366614 q366613 P366611 F366679 gm_0 el_0 (0 : Int32) (0 : Int32) 74 F369556 P369555 gm_F369556 el_F369556 := kt10_369568 74 F369556 P369555 gm_F369556 el_F369556 (fun R c1 c2 c3 => c1 P369555 F369556 gm_F369556 el_F369556 g369553 g369554 bg369553 bg369554 hT369557 hs369558 x369561 x369562 x369563 x369564 x369565 x369566 x369567 r369575)
        exact G_vretA dr_cX17_zeros_74 rfl (show ((rPh gm_F369556 el_F369556 f - rPh γ0 el0 f) / 18) ≤ (((387 * B + 6000) - rPh γ0 el0 f) / 18) by omega) (show (rPh gm_F369556 el_F369556 f - rPh γ0 el0 f) ≤ ((387 * B + 6000) - rPh γ0 el0 f) by omega) ⟨P369555, F369556, gm_F369556, el_F369556, rfl, rfl, hs369558, ⟨by omega, by omega⟩, hB369560, (by omega), (by omega), (by omega), (by omega), x369567, (fun R c1 => c1 gm_0 el_0 F366679 F369556 P369555 gm_F369556 el_F369556 hγ0 hel0 hT366680 hs366681 x366677 ht366678 hx369576)⟩
      · have r369577 : g369553.toInt < 2000 := gj_nleL hc369574 (show Int32.toInt 2000 = 2000 by decide)
        have bg369553' : gB g369553 0 1999 := ⟨by omega, by omega⟩
        refine G_aload_n 2 dr_cX17_zeros_17 rfl ?_
        have hm369578 : q366613 ∈ P369555 := RS_m hT369557 ht369569 (by decide)
        obtain ⟨q369580, q369581, p369582, p369583, p369584, p369585, p369586, p369587, p369588, p369589, p369590, p369591, p369592, p369593, p369594, p369595, p369596, he369579, hB369623, ht369597, ht369598, ht369599, ht369600, ht369601, ht369602, ht369603, ht369604, ht369605, ht369606, ht369607, ht369608, ht369609, ht369610, ht369611, ht369612, ht369613, ht369614, ht369615, ht369616, ht369617, ht369618, ht369619, ht369620, hB369624⟩ := show rk_10 gm_F369556 (F369556 q366613) from RS_o hT369557 ht369569
        have fq369625 : fR (F369556 q366613) 0 = (gm_F369556 9 0) := by rw [he369579]; rfl
        refine Gp_get 0 hm369578 he369579 dr_cX17_zeros_18 (gk_X17 D I) (Nat.le_of_ble_eq_true rfl) wr_7_74 rfl ?_
        refine G_iconst 0 dr_cX17_zeros_21 (by decide +kernel) ?_
        have hm369626 : (gm_F369556 9 0) ∈ P369555 := RS_m hT369557 ht369599 (by decide)
        obtain ⟨f369628, he369627, hg369629⟩ := show rk_12 I gm_F369556 (F369556 (gm_F369556 9 0)) from RS_o hT369557 ht369599
        obtain ⟨q369630, hx369632⟩ : ∃ x, x = gm_F369556 10 (0 : Int32).toInt.toNat := ⟨_, rfl⟩
        have ht369631 : rKd gm_F369556 q369630 11 := by rw [hx369632]; exact (hg369629 _ (by decide)).2.1
        refine Gp_aald 5 hm369626 he369627 dr_cX17_zeros_22 rfl rfl (gB_in (gBl (show Int32.toInt 0 = 0 by decide)) (by decide) (by decide)) ?_
        rw [show f369628 (0 : Int32).toNatClampNeg = some q369630 from (hg369629 _ (by decide)).1.trans (congrArg some hx369632.symm)]
        change G _ _ _ _ _ _ _ (.ref q369630 :: _) _ _ _
        refine G_iload_n 0 dr_cX17_zeros_23 rfl ?_
        have hm369633 : q369630 ∈ P369555 := RS_m hT369557 ht369631 (by decide)
        obtain ⟨f369635, he369634, wf369635⟩ := show rk_11 I (F369556 q369630) from RS_o hT369557 ht369631
        refine Gw_callS (As := [.ref q369630, .int g369553]) (gV_ok D I) (cp_1845_SpillForgeModel_has l hl0 D I P369555 F369556 q369630 g369553 f369635 hm369633 he369634 (gB_w bg369553' (by decide) (by decide))) dr_cX17_zeros_24 ⟨wr_10_203, wr_1_14, wr_10_205, by decide, rfl, (Nat.le_of_ble_eq_true rfl), (Nat.le_of_ble_eq_true rfl)⟩ wr_10_204 (rm_zc pk369572) (rm_zs pk369572) (Nat.le_of_ble_eq_true rfl) (fun r369639 w369640 dc369636 ds369637 hp369638 => ?_) (fun _ _ _ _ _ z => z.elim)
        rcases hp369638 with ⟨z369641, z369642, rfl, rfl, hdc, hds, r369643, r369644, r369645, r369646, r369647⟩ | ⟨z369648, z369649, rfl, rfl, hdc, hds, r369650, r369651, r369652, r369653, r369654⟩
        · change G _ _ _ _ _ _ _ (.int 0 :: _) _ _ _
          refine G_widen (cs' := ((rPh gm_F369556 el_F369556 f - rPh γ0 el0 f) / 18)) (sl' := (rPh gm_F369556 el_F369556 f - rPh γ0 el0 f)) (rm_d0 hdc) (rm_d0 hds) ?_
          refine G_if_ne 33 dr_cX17_zeros_27 (by decide +kernel) (fun hc => absurd hc (by decide)) (fun _ => ?_)
          refine G_goto 68 dr_cX17_zeros_30 (by decide +kernel) ?_
          obtain ⟨z369656, hz369656⟩ : ∃ z : Int32, z = g369553 + Int32.ofInt 1 := ⟨_, rfl⟩
          have ez369656 : z369656.toInt = g369553.toInt + 1 := gI_inc hz369656 (by decide) bg369553' (by decide) (by decide)
          have bz369656 : gB z369656 1 2000 := ⟨by omega, by omega⟩
          refine G_iinc (L' := [(3, .int z369656), (2, .int g369554), (0, .ref q366613), (1, .ref q366614)]) z369656 0 dr_cX17_zeros_68 rfl hz369656.symm (Nat.le_of_ble_eq_true rfl) rfl ?_
          refine G_goto 10 dr_cX17_zeros_71 (by decide +kernel) ?_
          exact ih10_369567 P369555 F369556 gm_F369556 el_F369556 z369656 g369554 (gB_w bz369656 (by decide) (by decide)) bg369554 hT369557 hs369558 hph369559 hB369560 (by omega) (by omega) (by omega) (by omega) (by omega) (by omega) x369567 (fun k e1 e2 e3 e4 ht => kt10_369568 k e1 e2 e3 e4 (fun R c1 c2 c3 => c2 P369555 F369556 gm_F369556 el_F369556 g369553 g369554 q369630 f369635 z369656 k e1 e2 e3 e4 bg369553 bg369554 hT369557 hs369558 x369561 x369562 x369563 x369564 x369565 x369566 x369567 r369577 fq369625 hx369632 he369634 r369647 ez369656 (ht R c1 c2 c3))) (by omega)
        · change G _ _ _ _ _ _ _ (.int 1 :: _) _ _ _
          refine G_widen (cs' := ((rPh gm_F369556 el_F369556 f - rPh γ0 el0 f) / 18)) (sl' := (rPh gm_F369556 el_F369556 f - rPh γ0 el0 f)) (rm_d0 hdc) (rm_d0 hds) ?_
          refine G_if_ne 33 dr_cX17_zeros_27 (by decide +kernel) (fun _ => ?_) (fun hc => absurd hc (by decide))
          have hm369657 : q366614 ∈ P369555 := RS_m hT369557 ht369570 (by decide)
          obtain ⟨q369659, q369660, p369661, p369662, he369658, ht369678, ht369663, ht369664, ht369665, ht369666, r369667, r369668, r369669, r369670, r369671, r369672, r369673, r369674, r369675, r369676, r369677⟩ := show rk_9 gm_F369556 el_F369556 q366614 (F369556 q366614) from RS_o hT369557 ht369570
          have bp369661 : gB p369661 0 1000000 := ⟨by omega, by omega⟩
          have bp369662 : gB p369662 0 1000000 := ⟨by omega, by omega⟩
          have hf369679 : gm_F369556 1 q369659 = f := (show gm_F369556 1 q369659 = gm_F369556 1 q366614 from ht369664).trans hf369571
          have hf369680 : gm_F369556 1 q369660 = f := (show gm_F369556 1 q369660 = gm_F369556 1 q366614 from ht369666).trans hf369571
          have r369681 : gm_F369556 6 (gm_F369556 1 q366614) = gm_F369556 6 f := by rw [hf369571]
          have r369682 : gm_F369556 16 (gm_F369556 1 q366614) = gm_F369556 16 f := by rw [hf369571]
          have r369683 : p369662.toInt = gm_F369556 6 f ∧ p369662.toInt ≤ 40 := by omega
          clear r369673
          have hm369684 : q369659 ∈ P369555 := RS_m hT369557 ht369663 (by decide)
          obtain ⟨⟨p369686, p369687, q369688, he369685, r369689, r369690, r369691, r369693⟩, r369692⟩ := show rk_4 D I gm_F369556 el_F369556 F369556 q369659 from RS_o hT369557 ht369663
          have bp369686 := gB_any p369686
          have bp369687 : gB p369687 0 1000000 := ⟨by omega, by omega⟩
          obtain ⟨r369694, r369695, n369702, f369703, r369696, r369697, r369698, r369699, r369700, r369701⟩ := rLC_n r369691 (by omega)
          have hm369704 : q369688 ∈ P369555 := RS_m hT369557 r369694 (by decide)
          obtain ⟨q369705, hx369706⟩ : ∃ x, x = el_F369556 q369659 (0 : Int32).toInt.toNat := ⟨_, rfl⟩
          have fq369710 : fR (F369556 q366614) 0 = q369659 := by rw [he369658]; rfl
          have hx369707 : f369703 (0 : Int32).toNatClampNeg = some q369705 := (r369700 _ (show (0 : Int32).toInt.toNat < gm_F369556 2 q369659 by first | assumption | omega)).trans (congrArg some hx369706.symm)
          have ht369711 : rKd gm_F369556 q369705 2 := by rw [hx369706]; exact (r369674 _ (by omega)).resolve_right (fun z => absurd z.1 (by omega))
          have ht369712 : rFm gm_F369556 q369705 q369659 := by rw [hx369706]; exact (r369692 _ (show (0 : Int32).toInt.toNat < gm_F369556 2 q369659 by omega)).2.1
          have hm369713 : q369705 ∈ P369555 := RS_m hT369557 ht369711 (by decide)
          obtain ⟨q369715, q369716, p369717, p369718, he369714, ht369725, ht369719, ht369720, ht369721, ht369722, ht369723, bp369717, bp369718, r369724, r369726, r369727⟩ := show rk_2 gm_F369556 q369705 (F369556 q369705) from RS_o hT369557 ht369711
          have hf369728 : gm_F369556 1 q369705 = f := (show gm_F369556 1 q369705 = gm_F369556 1 q369659 from ht369712).trans ((show gm_F369556 1 q369659 = gm_F369556 1 q366614 from ht369664).trans hf369571)
          have hf369729 : gm_F369556 1 q369715 = f := (show gm_F369556 1 q369715 = gm_F369556 1 q369705 from ht369720).trans hf369728
          have hf369730 : gm_F369556 1 q369716 = f := (show gm_F369556 1 q369716 = gm_F369556 1 q369705 from ht369722).trans hf369728
          have r369731 : gm_F369556 6 (gm_F369556 1 q369705) = gm_F369556 6 f := by rw [hf369728]
          have r369732 : gm_F369556 7 (gm_F369556 1 q369705) = gm_F369556 7 f := by rw [hf369728]
          have r369733 : gm_F369556 19 (gm_F369556 1 q369705) = gm_F369556 19 f := by rw [hf369728]
          have r369734 := r369724.resolve_left (by omega)
          clear r369724
          have r369735 : gm_F369556 2 (gm_F369556 14 q369705) = gm_F369556 2 q369715 := by rw [ht369725.1]
          have r369736 : (0 : Int32).toInt.toNat < gm_F369556 2 (gm_F369556 14 q366614) := by rw [ht369678.1]; omega
          have r369737 : el_F369556 (gm_F369556 14 q366614) (0 : Int32).toInt.toNat = q369705 := by rw [ht369678.1, hx369706]
          have sz369738 : gm_F369556 2 (gm_F369556 14 (el_F369556 (gm_F369556 14 q366614) (0 : Int32).toInt.toNat)) = gm_F369556 2 (gm_F369556 14 q369705) := by rw [r369737]
          refine G_aload_n 3 dr_cX17_zeros_33 rfl ?_
          have rg369739 := rM_ge hT369557 ht369570 hf369571
          have rm369740 := rM_bd hB369560
          have bd369741 := rBd_c hT369557 ht369570 hf369571 hB369560
          have rc369742 := rc_at hT369557 ht369570 hf369571
          obtain ⟨q369749, hl369750⟩ : ∃ z, z = gm_F369556 14 q369705 := ⟨_, rfl⟩
          have hl369751 : gm_F369556 0 q369749 = 3 ∨ gm_F369556 0 q369749 = 103 := by rw [hl369750, ← r369737]; exact (RS_lst hT369557 rc369742.2.1 r369736).1
          refine Gt_row (c := q366614) (f := f) hl0 dr_cX17_zeros_34 ⟨wr_10_206, wr_1_15, wr_10_82, by decide, rfl, (Nat.le_of_ble_eq_true rfl), (Nat.le_of_ble_eq_true rfl)⟩ wr_10_80 wr_10_81 hT369557 ht369570 hf369571 (Nat.le_trans bd369741.2.2.1 (Nat.le_trans hBk (by decide))) (rm_cs hph369559 rg369739.2.1 rm369740 (by decide)) (rm_sl hph369559 rg369739.2.1 rm369740 rm_s18) (Nat.le_of_ble_eq_true rfl) (fun P369743 F369744 gm_F369744 el_F369744 q369745 dc369746 ds369747 hq369748 => ?_)
          have hq369752 := hq369748
          obtain ⟨hk369753, x0369754, x1369755, x22369756, x8369757, h16369758, h18369759, hnu369760, hot369761, h45369762, hf0369763, ⟨hr1369764, hr2369765⟩, hM369766, hBB369767⟩ := hq369748
          have hk369768 := rSk_of hk369753
          obtain ⟨nu369769, nu369770, nu369771, nu369772⟩ := hnu369760
          have hT369773 := hk369768.1
          have hs369774 := rSk_tr hs369558 hk369768 (by decide) (by decide) (by decide)
          have kp369775 : F369744 q366613 = F366612 q366613 := (rSk_F hk369768 ht369569 (by decide) (by decide)).trans x369567
          have r369776 := rSk_F hk369768 ht369569 (by decide) (by decide)
          have ht369777 : rKd gm_F369744 q366613 10 := rSk_k hk369768 ht369569 (by decide) (by decide)
          have ht369778 : rKd gm_F369744 q366614 9 := rSk_k hk369768 ht369570 (by decide) (by decide)
          have hf369779 : gm_F369744 1 q366614 = f := rSk_1 hk369768 ht369570 (by decide) hf369571
          have ht369780 : rKd gm_F369744 q369705 2 := rSk_k hk369768 ht369711 (by decide) (by decide)
          have hf369781 : gm_F369744 1 q369705 = f := rSk_1 hk369768 ht369711 (by decide) hf369728
          have ht369782 : rKd gm_F369744 q369715 3 := rSk_k hk369768 ht369719 (by decide) (by decide)
          have hf369783 : gm_F369744 1 q369715 = f := rSk_1 hk369768 ht369719 (by decide) hf369729
          have r369784 := (rSk_s hk369768 ht369570 (by decide)).2.1
          have r369785 := hot369761 _ (by rw [rc369742.2.1]; decide) (by rw [rc369742.2.1]; decide)
          have r369786 : (0 : Int32).toInt.toNat < gm_F369744 2 (gm_F369744 14 q366614) := by rw [r369784, r369785.1]; exact r369736
          have r369787 : el_F369744 (gm_F369744 14 q366614) (0 : Int32).toInt.toNat = q369705 := by rw [r369784, r369785.2]; exact r369737
          clear r369667 r369668 r369669 r369670 r369671 r369672 r369674 r369675 r369676 r369677 bp369661 bp369662 bp369717 bp369718 r369726 r369727 rg369739 rm369740 bd369741 rc369742
          have r369788 : 0 < gm_F369744 6 (gm_F369744 1 q366614) := by rw [hf369779]; omega
          have sz369789 := (rSk_s hk369768 ht369711 (by decide)).2.1
          have sz369790 := congrArg (gm_F369744 2) sz369789
          have sz369791 := (hot369761 q369749 (by omega) (by omega)).1
          rw [hl369750] at sz369791
          clear hl369751
          have sz369792 := (hot369761 q369715 (rT0 ht369719 (by decide)) (by rw [show _ = 3 from ht369719]; decide)).1
          have r369793 := hf0369763.2.2
          have hB369794 : rBd gm_F369744 el_F369744 f B := hBB369767 B (by omega) hB369560
          have ht369795 : rKd gm_F369744 q369745 101 := x0369754
          have r369796 : gm_F369744 8 q369745 < gm_F369744 16 f := rm_x8 x8369757 h16369758 rfl
          have hph369797 : rPh γ0 el0 f ≤ rPh gm_F369744 el_F369744 f := rm_ph hph369559 hr2369765
          have pk369798 : rPh gm_F369744 el_F369744 f ≤ 387 * B + 6000 := rm_pk (rM_ge hT369773 ht369778 hf369779).1 (rM_bd hB369794)
          have hm369799 : q369745 ∈ P369743 := RS_m hT369773 ht369795 (by decide)
          obtain ⟨p369801, p369802, p369803, p369804, p369805, p369806, p369807, he369800, bp369801, bp369802, bp369805, bp369806, bp369807, r369808, r369809, r369810⟩ := show rkR (F369744 q369745) from RS_o hT369773 ht369795
          have bp369803 := gB_any p369803
          have bp369804 := gB_any p369804
          have r369811 : gm_F369744 7 (gm_F369744 1 q369745) = gm_F369744 7 f := by rw [x1369755]
          have r369812 : p369806.toInt = 0 := by have z := hf0369763.1; rw [he369800] at z; exact z
          have bp369806' : gB p369806 0 0 := ⟨by omega, by omega⟩
          have r369813 : p369807.toInt = 0 := by have z := hf0369763.2.1; rw [he369800] at z; exact z
          have bp369807' : gB p369807 0 0 := ⟨by omega, by omega⟩
          refine G_widen (cs' := ((rPh gm_F369744 el_F369744 f - rPh γ0 el0 f) / 18)) (sl' := (rPh gm_F369744 el_F369744 f - rPh γ0 el0 f)) (rm_wc hph369559 hr1369764) (rm_ws hph369559 hr2369765) ?_
          refine G_astore (L' := [(4, .ref q369745), (3, .int g369553), (2, .int g369554), (0, .ref q366613), (1, .ref q366614)]) dr_cX17_zeros_37 (Nat.le_of_ble_eq_true rfl) rfl ?_
          refine G_aload 0 dr_cX17_zeros_39 rfl ?_
          refine G_iconst 0 dr_cX17_zeros_41 (by decide +kernel) ?_
          refine Gp_put 0 hm369799 he369800 dr_cX17_zeros_42 (gk_X15 D I) (Nat.le_of_ble_eq_true rfl) wr_9_177 rfl rfl rfl (Nat.le_of_ble_eq_true rfl) (fun F369814 e369815 n369816 => ?_)
          have he369817 : F369814 q369745 = .inr (20, [.int 0, .int p369802, .int p369803, .int p369804, .int p369805, .int p369806, .int p369807]) := e369815
          have kp369818 : F369814 q366613 = F366612 q366613 := (n369816 q366613 (rn_ty ht369777 ht369795 (by decide))).trans kp369775
          have fq369819 : F369814 q369745 = cF (F369744 q369745) 0 (.int 0) := by rw [he369817, he369800]; rfl
          refine G_aload 0 dr_cX17_zeros_45 rfl ?_
          refine G_iload_n 1 dr_cX17_zeros_47 rfl ?_
          refine Gp_put 1 hm369799 he369817 dr_cX17_zeros_48 (gk_X15 D I) (Nat.le_of_ble_eq_true rfl) wr_9_182 rfl rfl rfl (Nat.le_of_ble_eq_true rfl) (fun F369820 e369821 n369822 => ?_)
          have he369823 : F369820 q369745 = .inr (20, [.int 0, .int g369553, .int p369803, .int p369804, .int p369805, .int p369806, .int p369807]) := e369821
          have n369824 : ∀ b, b ≠ q369745 → F369820 b = F369744 b := fun b hb => (n369822 b hb).trans (n369816 b hb)
          have kp369825 : F369820 q366613 = F366612 q366613 := (n369822 q366613 (rn_ty ht369777 ht369795 (by decide))).trans kp369818
          have fq369826 : F369820 q369745 = cF (F369814 q369745) 1 (.int g369553) := by rw [he369823, he369817]; rfl
          refine G_aload_n 4 dr_cX17_zeros_51 rfl ?_
          refine G_iconst 0 dr_cX17_zeros_52 (by decide +kernel) ?_
          have hT369827 : RS D I P369743 F369820 gm_F369744 el_F369744 := RS_set hT369773 n369824 ht369795 (by decide) ⟨0, g369553, p369803, p369804, p369805, p369806, p369807, he369823, (gB_w (gBl (show Int32.toInt 0 = 0 by decide)) (by decide) (by decide)), bg369553', bp369805, (gB_w bp369806' (by decide) (by decide)), (gB_w bp369807' (by decide) (by decide)), (Or.inl (by decide)), r369809, r369810⟩
          have hs369828 := rSk_put hs369774 hT369827 n369824 ht369795 (by decide) (by decide) (Or.inr (Or.inl x1369755))
          have hm369829 : q366614 ∈ P369743 := RS_m hT369827 ht369778 (by decide)
          obtain ⟨q369831, q369832, p369833, p369834, he369830, ht369850, ht369835, ht369836, ht369837, ht369838, r369839, r369840, r369841, r369842, r369843, r369844, r369845, r369846, r369847, r369848, r369849⟩ := show rk_9 gm_F369744 el_F369744 q366614 (F369820 q366614) from RS_o hT369827 ht369778
          have bp369833 : gB p369833 0 1000000 := ⟨by omega, by omega⟩
          have bp369834 : gB p369834 0 1000000 := ⟨by omega, by omega⟩
          have hf369851 : gm_F369744 1 q369831 = f := (show gm_F369744 1 q369831 = gm_F369744 1 q366614 from ht369836).trans hf369779
          have hf369852 : gm_F369744 1 q369832 = f := (show gm_F369744 1 q369832 = gm_F369744 1 q366614 from ht369838).trans hf369779
          have r369853 : gm_F369744 6 (gm_F369744 1 q366614) = gm_F369744 6 f := by rw [hf369779]
          have r369854 : gm_F369744 16 (gm_F369744 1 q366614) = gm_F369744 16 f := by rw [hf369779]
          have r369855 : p369834.toInt = gm_F369744 6 f ∧ p369834.toInt ≤ 40 := by omega
          clear r369845
          have hm369856 : q369831 ∈ P369743 := RS_m hT369827 ht369835 (by decide)
          obtain ⟨⟨p369858, p369859, q369860, he369857, r369861, r369862, r369863, r369865⟩, r369864⟩ := show rk_4 D I gm_F369744 el_F369744 F369820 q369831 from RS_o hT369827 ht369835
          have bp369858 := gB_any p369858
          have bp369859 : gB p369859 0 1000000 := ⟨by omega, by omega⟩
          obtain ⟨r369866, r369867, n369874, f369875, r369868, r369869, r369870, r369871, r369872, r369873⟩ := rLC_n r369863 (by omega)
          have hm369876 : q369860 ∈ P369743 := RS_m hT369827 r369866 (by decide)
          obtain ⟨q369877, hx369878⟩ : ∃ x, x = el_F369744 q369831 (0 : Int32).toInt.toNat := ⟨_, rfl⟩
          have fq369882 : fR (F369820 q366614) 0 = q369831 := by rw [he369830]; rfl
          have hx369879 : f369875 (0 : Int32).toNatClampNeg = some q369877 := (r369872 _ (show (0 : Int32).toInt.toNat < gm_F369744 2 q369831 by first | assumption | omega)).trans (congrArg some hx369878.symm)
          have ht369883 : rKd gm_F369744 q369877 2 := by rw [hx369878]; exact (r369846 _ (by omega)).resolve_right (fun z => absurd z.1 (by omega))
          have ht369884 : rFm gm_F369744 q369877 q369831 := by rw [hx369878]; exact (r369864 _ (show (0 : Int32).toInt.toNat < gm_F369744 2 q369831 by omega)).2.1
          have hm369885 : q369877 ∈ P369743 := RS_m hT369827 ht369883 (by decide)
          obtain ⟨q369887, q369888, p369889, p369890, he369886, ht369897, ht369891, ht369892, ht369893, ht369894, ht369895, bp369889, bp369890, r369896, r369898, r369899⟩ := show rk_2 gm_F369744 q369877 (F369820 q369877) from RS_o hT369827 ht369883
          have fq369900 : fI (F369820 q369831) 2 = p369859 := by rw [he369857]; rfl
          refine Gw_callV (As := [.int 0]) (gV_ok D I) (cp_7901_Code_get l hl0 D I P369743 F369820 q366614 q369831 q369860 0 q369832 p369833 p369834 p369858 p369859 f369875 n369874 q369877 q369887 q369888 p369889 p369890 hm369829 hm369856 hm369876 hm369885 he369830 he369857 r369868 he369886 (gB_w (gBl (show Int32.toInt 0 = 0 by decide)) (by decide) (by decide)) (gB_w bp369859 (by decide) (by decide)) (by have qa0 : Int32.toInt 0 = 0 := (by decide); omega) (by have qa0 : Int32.toInt 0 = 0 := (by decide); omega) (by assumption) (by have qa0 : Int32.toInt 0 = 0 := (by decide); omega)) dr_cX17_zeros_53 ⟨wr_10_161, wr_1_15, wr_10_141, by decide, rfl, (Nat.le_of_ble_eq_true rfl), (Nat.le_of_ble_eq_true rfl)⟩ wr_10_139 wr_10_140 hm369829 he369830 rfl (show ((rPh gm_F369744 el_F369744 f - rPh γ0 el0 f) / 18) + 0 + 0 ≤ (((387 * B + 6000) - rPh γ0 el0 f) / 18) by first | omega | decide) (show (rPh gm_F369744 el_F369744 f - rPh γ0 el0 f) + 0 + 0 ≤ ((387 * B + 6000) - rPh γ0 el0 f) by first | omega | decide) (Nat.le_of_ble_eq_true rfl) (fun r369904 w369905 dc369901 ds369902 hp369903 => ?_) (fun _ _ _ _ _ z => z.elim)
          obtain ⟨rfl, rfl, hdc, hds, ht369906⟩ := hp369903
          change G _ _ _ _ _ _ _ (.ref q369877 :: _) _ _ _
          refine G_widen (cs' := ((rPh gm_F369744 el_F369744 f - rPh γ0 el0 f) / 18) + 0 + 0) (sl' := (rPh gm_F369744 el_F369744 f - rPh γ0 el0 f) + 0 + 0) (by omega) (by omega) ?_
          have hf369907 : gm_F369744 1 q369877 = f := (show gm_F369744 1 q369877 = gm_F369744 1 q369831 from ht369884).trans ((show gm_F369744 1 q369831 = gm_F369744 1 q366614 from ht369836).trans hf369779)
          have hf369908 : gm_F369744 1 q369887 = f := (show gm_F369744 1 q369887 = gm_F369744 1 q369877 from ht369892).trans hf369907
          have hf369909 : gm_F369744 1 q369888 = f := (show gm_F369744 1 q369888 = gm_F369744 1 q369877 from ht369894).trans hf369907
          have r369910 : gm_F369744 6 (gm_F369744 1 q369877) = gm_F369744 6 f := by rw [hf369907]
          have r369911 : gm_F369744 7 (gm_F369744 1 q369877) = gm_F369744 7 f := by rw [hf369907]
          have r369912 : gm_F369744 19 (gm_F369744 1 q369877) = gm_F369744 19 f := by rw [hf369907]
          have r369913 := r369896.resolve_left (by omega)
          clear r369896
          have r369914 : gm_F369744 2 (gm_F369744 14 q369877) = gm_F369744 2 q369887 := by rw [ht369897.1]
          have r369915 : (0 : Int32).toInt.toNat < gm_F369744 2 (gm_F369744 14 q366614) := by rw [ht369850.1]; omega
          have r369916 : el_F369744 (gm_F369744 14 q366614) (0 : Int32).toInt.toNat = q369877 := by rw [ht369850.1, hx369878]
          have r369917 : q369877 = q369705 := r369916.symm.trans r369787
          have sz369918 : gm_F369744 2 (gm_F369744 14 q369877) = gm_F369744 2 (gm_F369744 14 q369705) := by rw [r369917]
          have fq369919 : fR (F369820 q369877) 0 = q369887 := by rw [he369886]; rfl
          refine Gp_get 0 hm369885 he369886 dr_cX17_zeros_56 (gk_X12 D I) (Nat.le_of_ble_eq_true rfl) wr_9_220 rfl ?_
          refine G_iload_n 2 dr_cX17_zeros_59 rfl ?_
          refine G_aload 0 dr_cX17_zeros_60 rfl ?_
          have rg369920 := rM_ge hT369827 ht369778 hf369779
          have rm369921 := rM_bd hB369794
          have bd369922 := rBd_c hT369827 ht369778 hf369779 hB369794
          have rc369923 := rc_at hT369827 ht369778 hf369779
          have r369925 : gm_F369744 14 (el_F369744 (gm_F369744 14 q366614) (0 : Int32).toInt.toNat) = q369887 := by rw [r369916]; exact ht369897.1
          have r369926 := rg369920.2.2 _ r369915
          rw [r369925] at r369926
          have r369927 := bd369922.2.2.2 _ r369915
          rw [r369925] at r369927
          have r369928 : gm_F369744 7 (gm_F369744 1 q369745) = gm_F369744 7 f := by rw [x1369755]
          have hx369929 : rk_1 gm_F369744 q369745 (F369820 q369745) := ⟨0, g369553, p369803, p369804, p369805, p369806, p369807, he369823, (gB_w (gBl (show Int32.toInt 0 = 0 by decide)) (by decide) (by decide)), bg369553', bp369805, (gB_w bp369806' (by decide) (by decide)), (gB_w bp369807' (by decide) (by decide)), (Or.inl (by decide)), r369809, r369810, (Or.inl ⟨by decide, by decide⟩), (Or.inl x22369756)⟩
          refine Gt_ins (c := q366614) (f := f) hl0 dr_cX17_zeros_62 ⟨wr_10_207, wr_1_18, wr_10_210, by decide, rfl, (Nat.le_of_ble_eq_true rfl), (Nat.le_of_ble_eq_true rfl)⟩ wr_10_208 wr_10_209 hT369827 ht369891 hf369908 ht369795 x1369755 x22369756 r369796 (by omega) ht369778 hf369779 r369915 r369925 hx369929 (by omega) (by omega) (Nat.le_trans r369927 (Nat.le_trans hBk (by decide))) (rm_cs hph369797 r369926 rm369921 (by decide)) (rm_sl hph369797 r369926 rm369921 rm_s11) (Nat.le_of_ble_eq_true rfl) (fun P369930 F369924 gm_F369924 el_F369924 dc369931 ds369932 hq369933 => ?_)
          have hq369934 := hq369933
          obtain ⟨hk369935, x0369936, h2369937, hel369938, hot369939, h16369940, h18369941, hnu369942, hFx369943, hr369944, hM369945, hBB369946⟩ := hq369933
          have hk369947 := rSk_of hk369935
          have r369948 : (fI (F369924 q366614) 3).toInt = (fI (F369820 q366614) 3).toInt := by rw [rSk_F hk369947 ht369778 (by decide) (by decide)]
          obtain ⟨nu369949, nu369950, nu369951, nu369952⟩ := hnu369942
          have hT369953 := hk369947.1
          have hs369954 := rSk_tr hs369828 hk369947 (by decide) (by decide) (by decide)
          have kp369955 : F369924 q366613 = F366612 q366613 := (rSk_F hk369947 ht369777 (by decide) (by decide)).trans kp369825
          have ht369956 : rKd gm_F369924 q366613 10 := rSk_k hk369947 ht369777 (by decide) (by decide)
          have ht369957 : rKd gm_F369924 q366614 9 := rSk_k hk369947 ht369778 (by decide) (by decide)
          have hf369958 : gm_F369924 1 q366614 = f := rSk_1 hk369947 ht369778 (by decide) hf369779
          have ht369959 : rKd gm_F369924 q369705 2 := rSk_k hk369947 ht369780 (by decide) (by decide)
          have hf369960 : gm_F369924 1 q369705 = f := rSk_1 hk369947 ht369780 (by decide) hf369781
          have ht369961 : rKd gm_F369924 q369715 3 := rSk_k hk369947 ht369782 (by decide) (by decide)
          have hf369962 : gm_F369924 1 q369715 = f := rSk_1 hk369947 ht369782 (by decide) hf369783
          have ht369963 : rKd gm_F369924 q369877 2 := rSk_k hk369947 ht369883 (by decide) (by decide)
          have hf369964 : gm_F369924 1 q369877 = f := rSk_1 hk369947 ht369883 (by decide) hf369907
          have ht369965 : rKd gm_F369924 q369887 3 := rSk_k hk369947 ht369891 (by decide) (by decide)
          have hf369966 : gm_F369924 1 q369887 = f := rSk_1 hk369947 ht369891 (by decide) hf369908
          have r369967 := (rSk_s hk369947 ht369778 (by decide)).2.1
          have r369968 := hot369939 _ (by rw [rc369923.2.1]; decide) (fun q => by rw [q, show _ = 3 from ht369891] at rc369923; exact absurd rc369923.2.1 (by decide))
          have r369969 : (0 : Int32).toInt.toNat < gm_F369924 2 (gm_F369924 14 q366614) := by rw [r369967, r369968.1]; exact r369786
          have r369970 : el_F369924 (gm_F369924 14 q366614) (0 : Int32).toInt.toNat = q369705 := by rw [r369967, r369968.2]; exact r369787
          have r369971 : (0 : Int32).toInt.toNat < gm_F369924 2 (gm_F369924 14 q366614) := by rw [r369967, r369968.1]; exact r369915
          have r369972 : el_F369924 (gm_F369924 14 q366614) (0 : Int32).toInt.toNat = q369877 := by rw [r369967, r369968.2]; exact r369916
          clear bp369801 bp369802 bp369805 bp369806 bp369807 bp369803 bp369804 r369839 r369840 r369841 r369842 r369843 r369844 r369846 r369847 r369848 r369849 bp369833 bp369834 bp369889 bp369890 r369898 r369899 rg369920 rm369921 bd369922 rc369923 r369926 r369927
          clear r369808 r369809 r369810
          have r369973 : 0 < gm_F369924 6 (gm_F369924 1 q366614) := by rw [hf369958]; omega
          first | have sz369974 := (hot369939 q369715 (rT0 ht369782 (by decide)) (by assumption)).1 | skip
          have ht369975 : rKd gm_F369924 q369745 1 := x0369936
          have hB369976 : rBd gm_F369924 el_F369924 f B := hBB369946 B hB369794
          have hph369977 : rPh γ0 el0 f ≤ rPh gm_F369924 el_F369924 f := rm_ph hph369797 hr369944.2
          have pk369978 : rPh gm_F369924 el_F369924 f ≤ 387 * B + 6000 := rm_pk (rM_ge hT369953 ht369957 hf369958).1 (rM_bd hB369976)
          refine G_widen (cs' := ((rPh gm_F369924 el_F369924 f - rPh γ0 el0 f) / 18)) (sl' := (rPh gm_F369924 el_F369924 f - rPh γ0 el0 f)) (rm_wc hph369797 hr369944.1) (rm_ws hph369797 hr369944.2) ?_
          have r369979 : gm_F369924 14 q369877 = q369887 := ((rSk_s (rSk_of hk369935) ht369883 (by decide)).2.1).trans ht369897.1
          have sz369980 : gm_F369924 2 (gm_F369924 14 q369877) = gm_F369924 2 q369887 := by rw [r369979]
          have bg369554' : gB g369554 0 1999 := ⟨by omega, by omega⟩
          obtain ⟨z369981, hz369981⟩ : ∃ z : Int32, z = g369554 + Int32.ofInt 1 := ⟨_, rfl⟩
          have ez369981 : z369981.toInt = g369554.toInt + 1 := gI_inc hz369981 (by decide) bg369554' (by decide) (by decide)
          have bz369981 : gB z369981 1 2000 := ⟨by omega, by omega⟩
          refine G_iinc (L' := [(2, .int z369981), (4, .ref q369745), (3, .int g369553), (0, .ref q366613), (1, .ref q366614)]) z369981 2 dr_cX17_zeros_65 rfl hz369981.symm (Nat.le_of_ble_eq_true rfl) rfl ?_
          obtain ⟨z369982, hz369982⟩ : ∃ z : Int32, z = g369553 + Int32.ofInt 1 := ⟨_, rfl⟩
          have ez369982 : z369982.toInt = g369553.toInt + 1 := gI_inc hz369982 (by decide) bg369553' (by decide) (by decide)
          have bz369982 : gB z369982 1 2000 := ⟨by omega, by omega⟩
          refine G_iinc (L' := [(3, .int z369982), (2, .int z369981), (4, .ref q369745), (0, .ref q366613), (1, .ref q366614)]) z369982 2 dr_cX17_zeros_68 rfl hz369982.symm (Nat.le_of_ble_eq_true rfl) rfl ?_
          refine G_goto 10 dr_cX17_zeros_71 (by decide +kernel) ?_
          refine G_lv (L' := [(3, .int z369982), (2, .int z369981), (0, .ref q366613), (1, .ref q366614)]) [0, 1, 3, 4] rfl ?_
          exact ih10_369567 P369930 F369924 gm_F369924 el_F369924 z369982 z369981 (gB_w bz369982 (by decide) (by decide)) (gB_w bz369981 (by decide) (by decide)) hT369953 hs369954 hph369977 hB369976 (by omega) (by omega) (by omega) (by omega) (by omega) (by rw [r369972]; omega) kp369955 (fun k e1 e2 e3 e4 ht => kt10_369568 k e1 e2 e3 e4 (fun R c1 c2 c3 => c3 P369555 F369556 gm_F369556 el_F369556 g369553 g369554 q369630 f369635 q369659 q369705 P369743 F369744 gm_F369744 el_F369744 q369745 dc369746 ds369747 F369814 F369820 q369831 q369877 p369859 q369887 P369930 F369924 gm_F369924 el_F369924 dc369931 ds369932 z369981 z369982 k e1 e2 e3 e4 bg369553 bg369554 hT369557 hs369558 x369561 x369562 x369563 x369564 x369565 x369566 x369567 r369577 fq369625 hx369632 he369634 r369654 fq369710 hx369706 hq369752 n369816 fq369819 n369822 fq369826 fq369882 hx369878 fq369900 ht369906 fq369919 hq369934 ez369981 ez369982 (ht R c1 c2 c3))) (by omega)
  exact hlp10_369567 (((2001 : Int) - 0).toNat + 1) P366611 F366679 gm_0 el_0 0 0 (gB_w (gBl (show Int32.toInt 0 = 0 by decide)) (by decide) (by decide)) (gB_w (gBl (show Int32.toInt 0 = 0 by decide)) (by decide) (by decide)) hT366680 hs366682 hph hB (by have qa0 : Int32.toInt 0 = 0 := (by decide); omega) (by have qa0 : Int32.toInt 0 = 0 := (by decide); omega) (by have qa0 : Int32.toInt 0 = 0 := (by decide); omega) (by have qa0 : Int32.toInt 0 = 0 := (by decide); omega) (by have qa0 : Int32.toInt 0 = 0 := (by decide); omega) (by have qa : Int32.toInt 0 = 0 := (by decide); omega) kp366683 (fun k e1 e2 e3 e4 ht => ht) (Nat.lt_succ_self _)
