theorem dr_cX17_zeros_0 : decode cX17_zeros 0 = .ok (.aload_n 0, 1) := by decide +kernel
theorem dr_cX17_zeros_1 : decode cX17_zeros 1 = .ok (.aload_n 1, 1) := by decide +kernel
theorem dr_cX17_zeros_2 : decode cX17_zeros 2 = .ok (.iconst 0, 1) := by decide +kernel
theorem dr_cX17_zeros_3 : decode cX17_zeros 3 = .ok (.invokevirtual 127, 3) := by decide +kernel
theorem dr_cX17_zeros_6 : decode cX17_zeros 6 = .ok (.iconst 0, 1) := by decide +kernel
theorem dr_cX17_zeros_7 : decode cX17_zeros 7 = .ok (.istore_n 2, 1) := by decide +kernel
theorem dr_cX17_zeros_8 : decode cX17_zeros 8 = .ok (.iconst 0, 1) := by decide +kernel
theorem dr_cX17_zeros_9 : decode cX17_zeros 9 = .ok (.istore_n 3, 1) := by decide +kernel
theorem dr_cX17_zeros_10 : decode cX17_zeros 10 = .ok (.iload_n 3, 1) := by decide +kernel
theorem dr_cX17_zeros_11 : decode cX17_zeros 11 = .ok (.sipush 2000, 3) := by decide +kernel
theorem dr_cX17_zeros_14 : decode cX17_zeros 14 = .ok (.if_icmp .ge 60, 3) := by decide +kernel
theorem dr_cX17_zeros_74 : decode cX17_zeros 74 = .ok (.return_, 1) := by decide +kernel
theorem dr_cX17_zeros_17 : decode cX17_zeros 17 = .ok (.aload_n 0, 1) := by decide +kernel
theorem dr_cX17_zeros_18 : decode cX17_zeros 18 = .ok (.getfield 88, 3) := by decide +kernel
theorem dr_cX17_zeros_21 : decode cX17_zeros 21 = .ok (.iconst 0, 1) := by decide +kernel
theorem dr_cX17_zeros_22 : decode cX17_zeros 22 = .ok (.aaload, 1) := by decide +kernel
theorem dr_cX17_zeros_23 : decode cX17_zeros 23 = .ok (.iload_n 3, 1) := by decide +kernel
theorem dr_cX17_zeros_24 : decode cX17_zeros 24 = .ok (.invokestatic 145, 3) := by decide +kernel
theorem dr_cX17_zeros_27 : decode cX17_zeros 27 = .ok (.ifCond .ne 6, 3) := by decide +kernel
theorem dr_cX17_zeros_30 : decode cX17_zeros 30 = .ok (.goto 38, 3) := by decide +kernel
theorem dr_cX17_zeros_68 : decode cX17_zeros 68 = .ok (.iinc 3 1, 3) := by decide +kernel
theorem dr_cX17_zeros_71 : decode cX17_zeros 71 = .ok (.goto (-61), 3) := by decide +kernel
theorem dr_cX17_zeros_33 : decode cX17_zeros 33 = .ok (.aload_n 1, 1) := by decide +kernel
theorem dr_cX17_zeros_34 : decode cX17_zeros 34 = .ok (.invokevirtual 177, 3) := by decide +kernel
theorem dr_cX17_zeros_37 : decode cX17_zeros 37 = .ok (.astore 4, 2) := by decide +kernel
theorem dr_cX17_zeros_39 : decode cX17_zeros 39 = .ok (.aload 4, 2) := by decide +kernel
theorem dr_cX17_zeros_41 : decode cX17_zeros 41 = .ok (.iconst 0, 1) := by decide +kernel
theorem dr_cX17_zeros_42 : decode cX17_zeros 42 = .ok (.putfield 39, 3) := by decide +kernel
theorem dr_cX17_zeros_45 : decode cX17_zeros 45 = .ok (.aload 4, 2) := by decide +kernel
theorem dr_cX17_zeros_47 : decode cX17_zeros 47 = .ok (.iload_n 3, 1) := by decide +kernel
theorem dr_cX17_zeros_48 : decode cX17_zeros 48 = .ok (.putfield 52, 3) := by decide +kernel
theorem dr_cX17_zeros_51 : decode cX17_zeros 51 = .ok (.aload_n 1, 1) := by decide +kernel
theorem dr_cX17_zeros_52 : decode cX17_zeros 52 = .ok (.iconst 0, 1) := by decide +kernel
theorem dr_cX17_zeros_53 : decode cX17_zeros 53 = .ok (.invokevirtual 101, 3) := by decide +kernel
theorem dr_cX17_zeros_56 : decode cX17_zeros 56 = .ok (.getfield 117, 3) := by decide +kernel
theorem dr_cX17_zeros_59 : decode cX17_zeros 59 = .ok (.iload_n 2, 1) := by decide +kernel
theorem dr_cX17_zeros_60 : decode cX17_zeros 60 = .ok (.aload 4, 2) := by decide +kernel
theorem dr_cX17_zeros_62 : decode cX17_zeros 62 = .ok (.invokevirtual 181, 3) := by decide +kernel
theorem dr_cX17_zeros_65 : decode cX17_zeros 65 = .ok (.iinc 2 1, 3) := by decide +kernel
abbrev ky_366570_SpillForgeModel_zeros : gKey := (cX17_zeros, 5, "SpillForgeModel", none, [], "zeros", fun _ _ => True)
def pg_366570_SpillForgeModel_zeros (D : va_G) (I : FieldType → ClassId) (γ0 el0 : Nat → Nat → Nat) (f : Nat) (B : Nat) (P366564 : List Nat) (F366565 : Nat → va_E) (q366566 : Nat) (q366567 : Nat) : Option Value → va_W → Nat → Nat → Prop := fun r w dc ds => ∃ (P369936 : List Nat) (F369937 : Nat → va_E) (γ el : Nat → Nat → Nat), r = none ∧ w = va_pl P369936 F369937 ∧ rSk f [101] ([1, 3, 5, 6, 8, 9, 101] ++ npk) D I P366564 F366565 γ0 el0 P369936 F369937 γ el ∧ (18 * dc + rPh γ0 el0 f ≤ rPh γ el f ∧ ds + rPh γ0 el0 f ≤ rPh γ el f) ∧ rBd γ el f B ∧ γ 6 f = γ0 6 f ∧ γ 7 f = γ0 7 f ∧ γ 16 f ≤ γ0 16 f + 2000 ∧ γ 18 f = γ0 18 f ∧ (F369937 q366566 = F366565 q366566) ∧ tr_RModel_zeros D I γ0 el0 f P366564 F366565 q366566 q366567 P369936 F369937 γ el
set_option maxRecDepth 100000 in
set_option maxHeartbeats 1500000 in
theorem cg_366570_SpillForgeModel_zeros (l : Launch) (hl0 : l.stackTraces = false) (D : va_G) (I : FieldType → ClassId) (γ0 el0 : Nat → Nat → Nat) (f : Nat) (B : Nat) (P366564 : List Nat) (F366565 : Nat → va_E) (q366566 : Nat) (q366567 : Nat) (hT0 : RS D I P366564 F366565 γ0 el0) (hzq366566 : rKd γ0 q366566 10) (hzq366567 : rKd γ0 q366567 9) (hf0 : γ0 1 q366567 = f) (hB0 : rBd γ0 el0 f B) (hBk : B ≤ 100000) (x366568 : 0 < γ0 6 f) (x366569 : γ0 16 f + 2000 ≤ B) : CtA (gV D I) l yX17_zeros cX17_zeros 5 none 8 170 (((387 * B + 6000) - rPh γ0 el0 f) / 18) ((387 * B + 6000) - rPh γ0 el0 f) [.ref q366566, .ref q366567] (va_pl P366564 F366565) (pg_366570_SpillForgeModel_zeros D I γ0 el0 f B P366564 F366565 q366566 q366567) gNA := by
  refine CtA_of hl0 (by decide) (Nat.le_of_ble_eq_true rfl) ?_
  obtain ⟨gm_0, hγ0⟩ : ∃ z, z = γ0 := ⟨_, rfl⟩
  obtain ⟨el_0, hel0⟩ : ∃ z, z = el0 := ⟨_, rfl⟩
  have hT : RS D I P366564 F366565 gm_0 el_0 := by rw [hγ0, hel0]; exact hT0
  have hst : rSk f [101] ([1, 3, 5, 6, 8, 9, 101] ++ npk) D I P366564 F366565 γ0 el0 P366564 F366565 gm_0 el_0 := by rw [hγ0, hel0]; exact rSk_rf hT0
  have hph : rPh γ0 el0 f ≤ rPh gm_0 el_0 f := by rw [hγ0, hel0]; exact Nat.le_refl _
  have hB : rBd gm_0 el_0 f B := by rw [hγ0, hel0]; exact hB0
  have htq366566 : rKd gm_0 q366566 10 := by rw [hγ0]; exact hzq366566
  have htq366567 : rKd gm_0 q366567 9 := by rw [hγ0]; exact hzq366567
  have hf1 : gm_0 1 q366567 = f := by rw [hγ0]; exact hf0
  have x366568n : 0 < gm_0 6 f := by rw [hγ0]; exact x366568
  have x366569n : gm_0 16 f + 2000 ≤ B := by rw [hγ0]; exact x366569
  have pk366571 : rPh gm_0 el_0 f ≤ 387 * B + 6000 := rm_pk (rM_ge hT htq366567 hf1).1 (rM_bd hB)
  refine G_widen (cs' := ((rPh gm_0 el_0 f - rPh γ0 el0 f) / 18)) (sl' := (rPh gm_0 el_0 f - rPh γ0 el0 f)) (Nat.zero_le _) (Nat.zero_le _) ?_
  have r366572 : 0 < gm_0 6 (gm_0 1 q366567) := by rw [hf1]; omega
  have lz0 : Int32.toInt 0 = 0 := by decide
  have r366573 : gm_0 6 f = γ0 6 f := by rw [hγ0]
  have r366574 : gm_0 7 f = γ0 7 f := by rw [hγ0]
  have r366575 : gm_0 16 f = γ0 16 f := by rw [hγ0]
  have r366576 : gm_0 18 f = γ0 18 f := by rw [hγ0]
  have r366577 : gm_0 19 f = γ0 19 f := by rw [hγ0]
  refine G_aload_n 0 dr_cX17_zeros_0 rfl ?_
  refine G_aload_n 1 dr_cX17_zeros_1 rfl ?_
  refine G_iconst 0 dr_cX17_zeros_2 (by decide +kernel) ?_
  have hm366583 : q366566 ∈ P366564 := RS_m hT htq366566 (by decide)
  obtain ⟨q366585, q366586, p366587, p366588, p366589, p366590, p366591, p366592, p366593, p366594, p366595, p366596, p366597, p366598, p366599, p366600, p366601, he366584, hB366628, ht366602, ht366603, ht366604, ht366605, ht366606, ht366607, ht366608, ht366609, ht366610, ht366611, ht366612, ht366613, ht366614, ht366615, ht366616, ht366617, ht366618, ht366619, ht366620, ht366621, ht366622, ht366623, ht366624, ht366625, hB366629⟩ := show rk_10 gm_0 (F366565 q366566) from RS_o hT htq366566
  refine Gw_callV (As := [.ref q366567, .int 0]) (gV_ok D I) (ct_225912_SpillForgeModel_findLive l hl0 D I gm_0 el_0 P366564 F366565 q366566 q366567 0 hT htq366566 htq366567 (gB_w (gBl (show Int32.toInt 0 = 0 by decide)) (by decide) (by decide)) (by omega)) dr_cX17_zeros_3 ⟨wr_10_156, wr_1_14, wr_10_159, by decide, rfl, (Nat.le_of_ble_eq_true rfl), (Nat.le_of_ble_eq_true rfl)⟩ wr_10_158 wr_p_94 hm366583 he366584 rfl (rm_zc pk366571) (rm_zs pk366571) (Nat.le_of_ble_eq_true rfl) (fun r366581 w366582 dc366578 ds366579 hp366580 => ?_) (fun _ _ _ _ _ z => z.elim)
  obtain ⟨F366632, rfl, rfl, hT366633, hs366634, hdc, hds, x366630, ht366631⟩ := hp366580
  have hs366635 := rSk_str hst hT366633 hs366634 (by decide) (by decide) (by decide)
  have kp366636 : F366632 q366566 = F366565 q366566 := x366630
  have he366637 : F366632 q366566 = .inr (22, [.ref (gm_0 9 0), .ref (gm_0 9 1), .ref (gm_0 9 2), .ref (gm_0 9 3), .ref (gm_0 9 4), .ref (gm_0 9 5), .ref (gm_0 9 6), .ref (gm_0 9 7), .ref (gm_0 9 8), .int p366587, .int p366588, .int p366589, .int p366590, .int p366591, .int p366592, .ref (gm_0 9 15), .ref (gm_0 9 16), .ref (gm_0 9 17), .ref (gm_0 9 18), .ref (gm_0 9 19), .ref (gm_0 9 20), .ref (gm_0 9 21), .ref (gm_0 9 22), .int p366593, .int p366594, .int p366595, .int p366596, .int p366597, .ref q366585, .ref (gm_0 9 29), .int p366598, .ref (gm_0 9 31), .int p366599, .int p366600, .int p366601, .ref q366586]) := (x366630).trans he366584
  change G _ _ _ _ _ _ _ _ _ _ _
  refine G_widen (cs' := ((rPh gm_0 el_0 f - rPh γ0 el0 f) / 18)) (sl' := (rPh gm_0 el_0 f - rPh γ0 el0 f)) (rm_d0 hdc) (rm_d0 hds) ?_
  refine G_iconst 0 dr_cX17_zeros_6 (by decide +kernel) ?_
  refine G_istore_n (L' := [(2, .int 0), (0, .ref q366566), (1, .ref q366567)]) dr_cX17_zeros_7 (Nat.le_of_ble_eq_true rfl) rfl ?_
  refine G_iconst 0 dr_cX17_zeros_8 (by decide +kernel) ?_
  refine G_istore_n (L' := [(3, .int 0), (2, .int 0), (0, .ref q366566), (1, .ref q366567)]) dr_cX17_zeros_9 (Nat.le_of_ble_eq_true rfl) rfl ?_
  have hlp10_369520 : ∀ (n10_369520 : Nat) (P369508 : List Nat) (F369509 : Nat → va_E) (gm_F369509 el_F369509 : Nat → Nat → Nat) (g369506 : Int32) (g369507 : Int32), gB g369506 0 2000 → gB g369507 0 2000 → RS D I P369508 F369509 gm_F369509 el_F369509 → rSk f [101] ([1, 3, 5, 6, 8, 9, 101] ++ npk) D I P366564 F366565 γ0 el0 P369508 F369509 gm_F369509 el_F369509 → rPh γ0 el0 f ≤ rPh gm_F369509 el_F369509 f → rBd gm_F369509 el_F369509 f B → gm_F369509 6 f = γ0 6 f → gm_F369509 7 f = γ0 7 f → gm_F369509 18 f = γ0 18 f → gm_F369509 16 f ≤ γ0 16 f + (g369507.toInt : Int).toNat → g369507.toInt ≤ g369506.toInt → (g369507.toInt : Int) ≤ gm_F369509 2 (gm_F369509 14 (el_F369509 (gm_F369509 14 q366567) (0 : Int32).toInt.toNat)) → (F369509 q366566 = F366565 q366566) → (∀ (k : Nat) (e1 : Nat → va_E) (e2 : List Nat) (e3 : Nat → Nat → Nat) (e4 : Nat → Nat → Nat), tl_RModel_zeros_10 D I γ0 el0 f P366564 F366565 q366567 q366566 P369508 F369509 gm_F369509 el_F369509 g369506 g369507 k e1 e2 e3 e4 → tl_RModel_zeros_10 D I γ0 el0 f P366564 F366565 q366567 q366566 P366564 F366632 gm_0 el_0 (0 : Int32) (0 : Int32) k e1 e2 e3 e4) → ((2001 : Int) - g369506.toInt).toNat < n10_369520 → G (gV D I) l (gRm 8 170 (((387 * B + 6000) - rPh γ0 el0 f) / 18) ((387 * B + 6000) - rPh γ0 el0 f)) (gMA (gV D I) (pg_366570_SpillForgeModel_zeros D I γ0 el0 f B P366564 F366565 q366566 q366567) gNA (((387 * B + 6000) - rPh γ0 el0 f) / 18) ((387 * B + 6000) - rPh γ0 el0 f)) ky_366570_SpillForgeModel_zeros 10 [(3, .int g369506), (2, .int g369507), (0, .ref q366566), (1, .ref q366567)] [] (va_pl P369508 F369509) ((rPh gm_F369509 el_F369509 f - rPh γ0 el0 f) / 18) (rPh gm_F369509 el_F369509 f - rPh γ0 el0 f) := by
    intro n10_369520
    induction n10_369520 with
    | zero => intro P369508 F369509 gm_F369509 el_F369509 g369506 g369507 bg369506 bg369507 hT369510 hs369511 hph369512 hB369513 x369514 x369515 x369516 x369517 x369518 x369519 x369520 kt10_369521 hm10_369520; exact absurd hm10_369520 (Nat.not_lt_zero _)
    | succ n10_369520 ih10_369520 =>
      intro P369508 F369509 gm_F369509 el_F369509 g369506 g369507 bg369506 bg369507 hT369510 hs369511 hph369512 hB369513 x369514 x369515 x369516 x369517 x369518 x369519 x369520 kt10_369521 hm10_369520
      clear r366573 r366574 r366575 r366576 r366577
      have ht369522 : rKd gm_F369509 q366566 10 := rSk_k hs369511 hzq366566 (by decide) (by decide)
      have ht369523 : rKd gm_F369509 q366567 9 := rSk_k hs369511 hzq366567 (by decide) (by decide)
      have hf369524 : gm_F369509 1 q366567 = f := rSk_1 hs369511 hzq366567 (by decide) hf0
      have pk369525 : rPh gm_F369509 el_F369509 f ≤ 387 * B + 6000 := rm_pk (rM_ge hT369510 ht369523 hf369524).1 (rM_bd hB369513)
      have r369526 : 0 < gm_F369509 6 (gm_F369509 1 q366567) := by rw [hf369524]; omega
      refine G_iload_n 0 dr_cX17_zeros_10 rfl ?_
      refine G_sipush 2000 dr_cX17_zeros_11 (by decide +kernel) ?_
      refine G_icmp_ge 74 dr_cX17_zeros_14 (by decide +kernel) (fun hc369527 => ?_) (fun hc369527 => ?_)
      · have r369528 : 2000 ≤ g369506.toInt := gj_leL hc369527 (show Int32.toInt 2000 = 2000 by decide)
        have bg369506' : gB g369506 2000 2000 := ⟨by omega, by omega⟩
        have hx369529 : tl_RModel_zeros_10 D I γ0 el0 f P366564 F366565 q366567 q366566 P366564 F366632 gm_0 el_0 (0 : Int32) (0 : Int32) 74 F369509 P369508 gm_F369509 el_F369509 := kt10_369521 74 F369509 P369508 gm_F369509 el_F369509 (fun R c1 c2 c3 => c1 P369508 F369509 gm_F369509 el_F369509 g369506 g369507 bg369506 bg369507 hT369510 hs369511 x369514 x369515 x369516 x369517 x369518 x369519 x369520 r369528)
        exact G_vretA dr_cX17_zeros_74 rfl (show ((rPh gm_F369509 el_F369509 f - rPh γ0 el0 f) / 18) ≤ (((387 * B + 6000) - rPh γ0 el0 f) / 18) by omega) (show (rPh gm_F369509 el_F369509 f - rPh γ0 el0 f) ≤ ((387 * B + 6000) - rPh γ0 el0 f) by omega) ⟨P369508, F369509, gm_F369509, el_F369509, rfl, rfl, hs369511, ⟨by omega, by omega⟩, hB369513, (by omega), (by omega), (by omega), (by omega), x369520, (fun R c1 => c1 gm_0 el_0 F366632 F369509 P369508 gm_F369509 el_F369509 hγ0 hel0 hT366633 hs366634 x366630 ht366631 hx369529)⟩
      · have r369530 : g369506.toInt < 2000 := gj_nleL hc369527 (show Int32.toInt 2000 = 2000 by decide)
        have bg369506' : gB g369506 0 1999 := ⟨by omega, by omega⟩
        refine G_aload_n 2 dr_cX17_zeros_17 rfl ?_
        have hm369531 : q366566 ∈ P369508 := RS_m hT369510 ht369522 (by decide)
        obtain ⟨q369533, q369534, p369535, p369536, p369537, p369538, p369539, p369540, p369541, p369542, p369543, p369544, p369545, p369546, p369547, p369548, p369549, he369532, hB369576, ht369550, ht369551, ht369552, ht369553, ht369554, ht369555, ht369556, ht369557, ht369558, ht369559, ht369560, ht369561, ht369562, ht369563, ht369564, ht369565, ht369566, ht369567, ht369568, ht369569, ht369570, ht369571, ht369572, ht369573, hB369577⟩ := show rk_10 gm_F369509 (F369509 q366566) from RS_o hT369510 ht369522
        have fq369578 : fR (F369509 q366566) 0 = (gm_F369509 9 0) := by rw [he369532]; rfl
        refine Gp_get 0 hm369531 he369532 dr_cX17_zeros_18 (gk_X17 D I) (Nat.le_of_ble_eq_true rfl) wr_7_74 rfl ?_
        refine G_iconst 0 dr_cX17_zeros_21 (by decide +kernel) ?_
        have hm369579 : (gm_F369509 9 0) ∈ P369508 := RS_m hT369510 ht369552 (by decide)
        obtain ⟨f369581, he369580, hg369582⟩ := show rk_12 I gm_F369509 (F369509 (gm_F369509 9 0)) from RS_o hT369510 ht369552
        obtain ⟨q369583, hx369585⟩ : ∃ x, x = gm_F369509 10 (0 : Int32).toInt.toNat := ⟨_, rfl⟩
        have ht369584 : rKd gm_F369509 q369583 11 := by rw [hx369585]; exact (hg369582 _ (by decide)).2.1
        refine Gp_aald 5 hm369579 he369580 dr_cX17_zeros_22 rfl rfl (gB_in (gBl (show Int32.toInt 0 = 0 by decide)) (by decide) (by decide)) ?_
        rw [show f369581 (0 : Int32).toNatClampNeg = some q369583 from (hg369582 _ (by decide)).1.trans (congrArg some hx369585.symm)]
        change G _ _ _ _ _ _ _ (.ref q369583 :: _) _ _ _
        refine G_iload_n 0 dr_cX17_zeros_23 rfl ?_
        have hm369586 : q369583 ∈ P369508 := RS_m hT369510 ht369584 (by decide)
        obtain ⟨f369588, he369587, wf369588⟩ := show rk_11 I (F369509 q369583) from RS_o hT369510 ht369584
        refine Gw_callS (As := [.ref q369583, .int g369506]) (gV_ok D I) (cp_1845_SpillForgeModel_has l hl0 D I P369508 F369509 q369583 g369506 f369588 hm369586 he369587 (gB_w bg369506' (by decide) (by decide))) dr_cX17_zeros_24 ⟨wr_10_203, wr_1_14, wr_10_205, by decide, rfl, (Nat.le_of_ble_eq_true rfl), (Nat.le_of_ble_eq_true rfl)⟩ wr_10_204 (rm_zc pk369525) (rm_zs pk369525) (Nat.le_of_ble_eq_true rfl) (fun r369592 w369593 dc369589 ds369590 hp369591 => ?_) (fun _ _ _ _ _ z => z.elim)
        rcases hp369591 with ⟨z369594, z369595, rfl, rfl, hdc, hds, r369596, r369597, r369598, r369599, r369600⟩ | ⟨z369601, z369602, rfl, rfl, hdc, hds, r369603, r369604, r369605, r369606, r369607⟩
        · change G _ _ _ _ _ _ _ (.int 0 :: _) _ _ _
          refine G_widen (cs' := ((rPh gm_F369509 el_F369509 f - rPh γ0 el0 f) / 18)) (sl' := (rPh gm_F369509 el_F369509 f - rPh γ0 el0 f)) (rm_d0 hdc) (rm_d0 hds) ?_
          refine G_if_ne 33 dr_cX17_zeros_27 (by decide +kernel) (fun hc => absurd hc (by decide)) (fun _ => ?_)
          refine G_goto 68 dr_cX17_zeros_30 (by decide +kernel) ?_
          obtain ⟨z369609, hz369609⟩ : ∃ z : Int32, z = g369506 + Int32.ofInt 1 := ⟨_, rfl⟩
          have ez369609 : z369609.toInt = g369506.toInt + 1 := gI_inc hz369609 (by decide) bg369506' (by decide) (by decide)
          have bz369609 : gB z369609 1 2000 := ⟨by omega, by omega⟩
          refine G_iinc (L' := [(3, .int z369609), (2, .int g369507), (0, .ref q366566), (1, .ref q366567)]) z369609 0 dr_cX17_zeros_68 rfl hz369609.symm (Nat.le_of_ble_eq_true rfl) rfl ?_
          refine G_goto 10 dr_cX17_zeros_71 (by decide +kernel) ?_
          exact ih10_369520 P369508 F369509 gm_F369509 el_F369509 z369609 g369507 (gB_w bz369609 (by decide) (by decide)) bg369507 hT369510 hs369511 hph369512 hB369513 (by omega) (by omega) (by omega) (by omega) (by omega) (by omega) x369520 (fun k e1 e2 e3 e4 ht => kt10_369521 k e1 e2 e3 e4 (fun R c1 c2 c3 => c2 P369508 F369509 gm_F369509 el_F369509 g369506 g369507 q369583 f369588 z369609 k e1 e2 e3 e4 bg369506 bg369507 hT369510 hs369511 x369514 x369515 x369516 x369517 x369518 x369519 x369520 r369530 fq369578 hx369585 he369587 r369600 ez369609 (ht R c1 c2 c3))) (by omega)
        · change G _ _ _ _ _ _ _ (.int 1 :: _) _ _ _
          refine G_widen (cs' := ((rPh gm_F369509 el_F369509 f - rPh γ0 el0 f) / 18)) (sl' := (rPh gm_F369509 el_F369509 f - rPh γ0 el0 f)) (rm_d0 hdc) (rm_d0 hds) ?_
          refine G_if_ne 33 dr_cX17_zeros_27 (by decide +kernel) (fun _ => ?_) (fun hc => absurd hc (by decide))
          have hm369610 : q366567 ∈ P369508 := RS_m hT369510 ht369523 (by decide)
          obtain ⟨q369612, q369613, p369614, p369615, he369611, ht369631, ht369616, ht369617, ht369618, ht369619, r369620, r369621, r369622, r369623, r369624, r369625, r369626, r369627, r369628, r369629, r369630⟩ := show rk_9 gm_F369509 el_F369509 q366567 (F369509 q366567) from RS_o hT369510 ht369523
          have bp369614 : gB p369614 0 1000000 := ⟨by omega, by omega⟩
          have bp369615 : gB p369615 0 1000000 := ⟨by omega, by omega⟩
          have hf369632 : gm_F369509 1 q369612 = f := (show gm_F369509 1 q369612 = gm_F369509 1 q366567 from ht369617).trans hf369524
          have hf369633 : gm_F369509 1 q369613 = f := (show gm_F369509 1 q369613 = gm_F369509 1 q366567 from ht369619).trans hf369524
          have r369634 : gm_F369509 6 (gm_F369509 1 q366567) = gm_F369509 6 f := by rw [hf369524]
          have r369635 : gm_F369509 16 (gm_F369509 1 q366567) = gm_F369509 16 f := by rw [hf369524]
          have r369636 : p369615.toInt = gm_F369509 6 f ∧ p369615.toInt ≤ 40 := by omega
          clear r369626
          have hm369637 : q369612 ∈ P369508 := RS_m hT369510 ht369616 (by decide)
          obtain ⟨⟨p369639, p369640, q369641, he369638, r369642, r369643, r369644, r369646⟩, r369645⟩ := show rk_4 D I gm_F369509 el_F369509 F369509 q369612 from RS_o hT369510 ht369616
          have bp369639 := gB_any p369639
          have bp369640 : gB p369640 0 1000000 := ⟨by omega, by omega⟩
          obtain ⟨r369647, r369648, n369655, f369656, r369649, r369650, r369651, r369652, r369653, r369654⟩ := rLC_n r369644 (by omega)
          have hm369657 : q369641 ∈ P369508 := RS_m hT369510 r369647 (by decide)
          obtain ⟨q369658, hx369659⟩ : ∃ x, x = el_F369509 q369612 (0 : Int32).toInt.toNat := ⟨_, rfl⟩
          have fq369663 : fR (F369509 q366567) 0 = q369612 := by rw [he369611]; rfl
          have hx369660 : f369656 (0 : Int32).toNatClampNeg = some q369658 := (r369653 _ (show (0 : Int32).toInt.toNat < gm_F369509 2 q369612 by first | assumption | omega)).trans (congrArg some hx369659.symm)
          have ht369664 : rKd gm_F369509 q369658 2 := by rw [hx369659]; exact (r369627 _ (by omega)).resolve_right (fun z => absurd z.1 (by omega))
          have ht369665 : rFm gm_F369509 q369658 q369612 := by rw [hx369659]; exact (r369645 _ (show (0 : Int32).toInt.toNat < gm_F369509 2 q369612 by omega)).2.1
          have hm369666 : q369658 ∈ P369508 := RS_m hT369510 ht369664 (by decide)
          obtain ⟨q369668, q369669, p369670, p369671, he369667, ht369678, ht369672, ht369673, ht369674, ht369675, ht369676, bp369670, bp369671, r369677, r369679, r369680⟩ := show rk_2 gm_F369509 q369658 (F369509 q369658) from RS_o hT369510 ht369664
          have hf369681 : gm_F369509 1 q369658 = f := (show gm_F369509 1 q369658 = gm_F369509 1 q369612 from ht369665).trans ((show gm_F369509 1 q369612 = gm_F369509 1 q366567 from ht369617).trans hf369524)
          have hf369682 : gm_F369509 1 q369668 = f := (show gm_F369509 1 q369668 = gm_F369509 1 q369658 from ht369673).trans hf369681
          have hf369683 : gm_F369509 1 q369669 = f := (show gm_F369509 1 q369669 = gm_F369509 1 q369658 from ht369675).trans hf369681
          have r369684 : gm_F369509 6 (gm_F369509 1 q369658) = gm_F369509 6 f := by rw [hf369681]
          have r369685 : gm_F369509 7 (gm_F369509 1 q369658) = gm_F369509 7 f := by rw [hf369681]
          have r369686 : gm_F369509 19 (gm_F369509 1 q369658) = gm_F369509 19 f := by rw [hf369681]
          have r369687 := r369677.resolve_left (by omega)
          clear r369677
          have r369688 : gm_F369509 2 (gm_F369509 14 q369658) = gm_F369509 2 q369668 := by rw [ht369678.1]
          have r369689 : (0 : Int32).toInt.toNat < gm_F369509 2 (gm_F369509 14 q366567) := by rw [ht369631.1]; omega
          have r369690 : el_F369509 (gm_F369509 14 q366567) (0 : Int32).toInt.toNat = q369658 := by rw [ht369631.1, hx369659]
          have sz369691 : gm_F369509 2 (gm_F369509 14 (el_F369509 (gm_F369509 14 q366567) (0 : Int32).toInt.toNat)) = gm_F369509 2 (gm_F369509 14 q369658) := by rw [r369690]
          refine G_aload_n 3 dr_cX17_zeros_33 rfl ?_
          have rg369692 := rM_ge hT369510 ht369523 hf369524
          have rm369693 := rM_bd hB369513
          have bd369694 := rBd_c hT369510 ht369523 hf369524 hB369513
          have rc369695 := rc_at hT369510 ht369523 hf369524
          obtain ⟨q369702, hl369703⟩ : ∃ z, z = gm_F369509 14 q369658 := ⟨_, rfl⟩
          have hl369704 : gm_F369509 0 q369702 = 3 ∨ gm_F369509 0 q369702 = 103 := by rw [hl369703, ← r369690]; exact (RS_lst hT369510 rc369695.2.1 r369689).1
          refine Gt_row (c := q366567) (f := f) hl0 dr_cX17_zeros_34 ⟨wr_10_206, wr_1_15, wr_10_82, by decide, rfl, (Nat.le_of_ble_eq_true rfl), (Nat.le_of_ble_eq_true rfl)⟩ wr_10_80 wr_10_81 hT369510 ht369523 hf369524 (Nat.le_trans bd369694.2.2.1 (Nat.le_trans hBk (by decide))) (rm_cs hph369512 rg369692.2.1 rm369693 (by decide)) (rm_sl hph369512 rg369692.2.1 rm369693 rm_s18) (Nat.le_of_ble_eq_true rfl) (fun P369696 F369697 gm_F369697 el_F369697 q369698 dc369699 ds369700 hq369701 => ?_)
          have hq369705 := hq369701
          obtain ⟨hk369706, x0369707, x1369708, x22369709, x8369710, h16369711, h18369712, hnu369713, hot369714, h45369715, hf0369716, ⟨hr1369717, hr2369718⟩, hM369719, hBB369720⟩ := hq369701
          have hk369721 := rSk_of hk369706
          obtain ⟨nu369722, nu369723, nu369724, nu369725⟩ := hnu369713
          have hT369726 := hk369721.1
          have hs369727 := rSk_tr hs369511 hk369721 (by decide) (by decide) (by decide)
          have kp369728 : F369697 q366566 = F366565 q366566 := (rSk_F hk369721 ht369522 (by decide) (by decide)).trans x369520
          have r369729 := rSk_F hk369721 ht369522 (by decide) (by decide)
          have ht369730 : rKd gm_F369697 q366566 10 := rSk_k hk369721 ht369522 (by decide) (by decide)
          have ht369731 : rKd gm_F369697 q366567 9 := rSk_k hk369721 ht369523 (by decide) (by decide)
          have hf369732 : gm_F369697 1 q366567 = f := rSk_1 hk369721 ht369523 (by decide) hf369524
          have ht369733 : rKd gm_F369697 q369658 2 := rSk_k hk369721 ht369664 (by decide) (by decide)
          have hf369734 : gm_F369697 1 q369658 = f := rSk_1 hk369721 ht369664 (by decide) hf369681
          have ht369735 : rKd gm_F369697 q369668 3 := rSk_k hk369721 ht369672 (by decide) (by decide)
          have hf369736 : gm_F369697 1 q369668 = f := rSk_1 hk369721 ht369672 (by decide) hf369682
          have r369737 := (rSk_s hk369721 ht369523 (by decide)).2.1
          have r369738 := hot369714 _ (by rw [rc369695.2.1]; decide) (by rw [rc369695.2.1]; decide)
          have r369739 : (0 : Int32).toInt.toNat < gm_F369697 2 (gm_F369697 14 q366567) := by rw [r369737, r369738.1]; exact r369689
          have r369740 : el_F369697 (gm_F369697 14 q366567) (0 : Int32).toInt.toNat = q369658 := by rw [r369737, r369738.2]; exact r369690
          clear r369620 r369621 r369622 r369623 r369624 r369625 r369627 r369628 r369629 r369630 bp369614 bp369615 bp369670 bp369671 r369679 r369680 rg369692 rm369693 bd369694 rc369695
          have r369741 : 0 < gm_F369697 6 (gm_F369697 1 q366567) := by rw [hf369732]; omega
          have sz369742 := (rSk_s hk369721 ht369664 (by decide)).2.1
          have sz369743 := congrArg (gm_F369697 2) sz369742
          have sz369744 := (hot369714 q369702 (by omega) (by omega)).1
          rw [hl369703] at sz369744
          clear hl369704
          have sz369745 := (hot369714 q369668 (rT0 ht369672 (by decide)) (by rw [show _ = 3 from ht369672]; decide)).1
          have r369746 := hf0369716.2.2
          have hB369747 : rBd gm_F369697 el_F369697 f B := hBB369720 B (by omega) hB369513
          have ht369748 : rKd gm_F369697 q369698 101 := x0369707
          have r369749 : gm_F369697 8 q369698 < gm_F369697 16 f := rm_x8 x8369710 h16369711 rfl
          have hph369750 : rPh γ0 el0 f ≤ rPh gm_F369697 el_F369697 f := rm_ph hph369512 hr2369718
          have pk369751 : rPh gm_F369697 el_F369697 f ≤ 387 * B + 6000 := rm_pk (rM_ge hT369726 ht369731 hf369732).1 (rM_bd hB369747)
          have hm369752 : q369698 ∈ P369696 := RS_m hT369726 ht369748 (by decide)
          obtain ⟨p369754, p369755, p369756, p369757, p369758, p369759, p369760, he369753, bp369754, bp369755, bp369758, bp369759, bp369760, r369761, r369762, r369763⟩ := show rkR (F369697 q369698) from RS_o hT369726 ht369748
          have bp369756 := gB_any p369756
          have bp369757 := gB_any p369757
          have r369764 : gm_F369697 7 (gm_F369697 1 q369698) = gm_F369697 7 f := by rw [x1369708]
          have r369765 : p369759.toInt = 0 := by have z := hf0369716.1; rw [he369753] at z; exact z
          have bp369759' : gB p369759 0 0 := ⟨by omega, by omega⟩
          have r369766 : p369760.toInt = 0 := by have z := hf0369716.2.1; rw [he369753] at z; exact z
          have bp369760' : gB p369760 0 0 := ⟨by omega, by omega⟩
          refine G_widen (cs' := ((rPh gm_F369697 el_F369697 f - rPh γ0 el0 f) / 18)) (sl' := (rPh gm_F369697 el_F369697 f - rPh γ0 el0 f)) (rm_wc hph369512 hr1369717) (rm_ws hph369512 hr2369718) ?_
          refine G_astore (L' := [(4, .ref q369698), (3, .int g369506), (2, .int g369507), (0, .ref q366566), (1, .ref q366567)]) dr_cX17_zeros_37 (Nat.le_of_ble_eq_true rfl) rfl ?_
          refine G_aload 0 dr_cX17_zeros_39 rfl ?_
          refine G_iconst 0 dr_cX17_zeros_41 (by decide +kernel) ?_
          refine Gp_put 0 hm369752 he369753 dr_cX17_zeros_42 (gk_X15 D I) (Nat.le_of_ble_eq_true rfl) wr_9_177 rfl rfl rfl (Nat.le_of_ble_eq_true rfl) (fun F369767 e369768 n369769 => ?_)
          have he369770 : F369767 q369698 = .inr (20, [.int 0, .int p369755, .int p369756, .int p369757, .int p369758, .int p369759, .int p369760]) := e369768
          have kp369771 : F369767 q366566 = F366565 q366566 := (n369769 q366566 (rn_ty ht369730 ht369748 (by decide))).trans kp369728
          have fq369772 : F369767 q369698 = cF (F369697 q369698) 0 (.int 0) := by rw [he369770, he369753]; rfl
          refine G_aload 0 dr_cX17_zeros_45 rfl ?_
          refine G_iload_n 1 dr_cX17_zeros_47 rfl ?_
          refine Gp_put 1 hm369752 he369770 dr_cX17_zeros_48 (gk_X15 D I) (Nat.le_of_ble_eq_true rfl) wr_9_182 rfl rfl rfl (Nat.le_of_ble_eq_true rfl) (fun F369773 e369774 n369775 => ?_)
          have he369776 : F369773 q369698 = .inr (20, [.int 0, .int g369506, .int p369756, .int p369757, .int p369758, .int p369759, .int p369760]) := e369774
          have n369777 : ∀ b, b ≠ q369698 → F369773 b = F369697 b := fun b hb => (n369775 b hb).trans (n369769 b hb)
          have kp369778 : F369773 q366566 = F366565 q366566 := (n369775 q366566 (rn_ty ht369730 ht369748 (by decide))).trans kp369771
          have fq369779 : F369773 q369698 = cF (F369767 q369698) 1 (.int g369506) := by rw [he369776, he369770]; rfl
          refine G_aload_n 4 dr_cX17_zeros_51 rfl ?_
          refine G_iconst 0 dr_cX17_zeros_52 (by decide +kernel) ?_
          have hT369780 : RS D I P369696 F369773 gm_F369697 el_F369697 := RS_set hT369726 n369777 ht369748 (by decide) ⟨0, g369506, p369756, p369757, p369758, p369759, p369760, he369776, (gB_w (gBl (show Int32.toInt 0 = 0 by decide)) (by decide) (by decide)), bg369506', bp369758, (gB_w bp369759' (by decide) (by decide)), (gB_w bp369760' (by decide) (by decide)), (Or.inl (by decide)), r369762, r369763⟩
          have hs369781 := rSk_put hs369727 hT369780 n369777 ht369748 (by decide) (by decide) (Or.inr (Or.inl x1369708))
          have hm369782 : q366567 ∈ P369696 := RS_m hT369780 ht369731 (by decide)
          obtain ⟨q369784, q369785, p369786, p369787, he369783, ht369803, ht369788, ht369789, ht369790, ht369791, r369792, r369793, r369794, r369795, r369796, r369797, r369798, r369799, r369800, r369801, r369802⟩ := show rk_9 gm_F369697 el_F369697 q366567 (F369773 q366567) from RS_o hT369780 ht369731
          have bp369786 : gB p369786 0 1000000 := ⟨by omega, by omega⟩
          have bp369787 : gB p369787 0 1000000 := ⟨by omega, by omega⟩
          have hf369804 : gm_F369697 1 q369784 = f := (show gm_F369697 1 q369784 = gm_F369697 1 q366567 from ht369789).trans hf369732
          have hf369805 : gm_F369697 1 q369785 = f := (show gm_F369697 1 q369785 = gm_F369697 1 q366567 from ht369791).trans hf369732
          have r369806 : gm_F369697 6 (gm_F369697 1 q366567) = gm_F369697 6 f := by rw [hf369732]
          have r369807 : gm_F369697 16 (gm_F369697 1 q366567) = gm_F369697 16 f := by rw [hf369732]
          have r369808 : p369787.toInt = gm_F369697 6 f ∧ p369787.toInt ≤ 40 := by omega
          clear r369798
          have hm369809 : q369784 ∈ P369696 := RS_m hT369780 ht369788 (by decide)
          obtain ⟨⟨p369811, p369812, q369813, he369810, r369814, r369815, r369816, r369818⟩, r369817⟩ := show rk_4 D I gm_F369697 el_F369697 F369773 q369784 from RS_o hT369780 ht369788
          have bp369811 := gB_any p369811
          have bp369812 : gB p369812 0 1000000 := ⟨by omega, by omega⟩
          obtain ⟨r369819, r369820, n369827, f369828, r369821, r369822, r369823, r369824, r369825, r369826⟩ := rLC_n r369816 (by omega)
          have hm369829 : q369813 ∈ P369696 := RS_m hT369780 r369819 (by decide)
          obtain ⟨q369830, hx369831⟩ : ∃ x, x = el_F369697 q369784 (0 : Int32).toInt.toNat := ⟨_, rfl⟩
          have fq369835 : fR (F369773 q366567) 0 = q369784 := by rw [he369783]; rfl
          have hx369832 : f369828 (0 : Int32).toNatClampNeg = some q369830 := (r369825 _ (show (0 : Int32).toInt.toNat < gm_F369697 2 q369784 by first | assumption | omega)).trans (congrArg some hx369831.symm)
          have ht369836 : rKd gm_F369697 q369830 2 := by rw [hx369831]; exact (r369799 _ (by omega)).resolve_right (fun z => absurd z.1 (by omega))
          have ht369837 : rFm gm_F369697 q369830 q369784 := by rw [hx369831]; exact (r369817 _ (show (0 : Int32).toInt.toNat < gm_F369697 2 q369784 by omega)).2.1
          have hm369838 : q369830 ∈ P369696 := RS_m hT369780 ht369836 (by decide)
          obtain ⟨q369840, q369841, p369842, p369843, he369839, ht369850, ht369844, ht369845, ht369846, ht369847, ht369848, bp369842, bp369843, r369849, r369851, r369852⟩ := show rk_2 gm_F369697 q369830 (F369773 q369830) from RS_o hT369780 ht369836
          have fq369853 : fI (F369773 q369784) 2 = p369812 := by rw [he369810]; rfl
          refine Gw_callV (As := [.int 0]) (gV_ok D I) (cp_7901_Code_get l hl0 D I P369696 F369773 q366567 q369784 q369813 0 q369785 p369786 p369787 p369811 p369812 f369828 n369827 q369830 q369840 q369841 p369842 p369843 hm369782 hm369809 hm369829 hm369838 he369783 he369810 r369821 he369839 (gB_w (gBl (show Int32.toInt 0 = 0 by decide)) (by decide) (by decide)) (gB_w bp369812 (by decide) (by decide)) (by have qa0 : Int32.toInt 0 = 0 := (by decide); omega) (by have qa0 : Int32.toInt 0 = 0 := (by decide); omega) (by assumption) (by have qa0 : Int32.toInt 0 = 0 := (by decide); omega)) dr_cX17_zeros_53 ⟨wr_10_161, wr_1_15, wr_10_141, by decide, rfl, (Nat.le_of_ble_eq_true rfl), (Nat.le_of_ble_eq_true rfl)⟩ wr_10_139 wr_10_140 hm369782 he369783 rfl (show ((rPh gm_F369697 el_F369697 f - rPh γ0 el0 f) / 18) + 0 + 0 ≤ (((387 * B + 6000) - rPh γ0 el0 f) / 18) by first | omega | decide) (show (rPh gm_F369697 el_F369697 f - rPh γ0 el0 f) + 0 + 0 ≤ ((387 * B + 6000) - rPh γ0 el0 f) by first | omega | decide) (Nat.le_of_ble_eq_true rfl) (fun r369857 w369858 dc369854 ds369855 hp369856 => ?_) (fun _ _ _ _ _ z => z.elim)
          obtain ⟨rfl, rfl, hdc, hds, ht369859⟩ := hp369856
          change G _ _ _ _ _ _ _ (.ref q369830 :: _) _ _ _
          refine G_widen (cs' := ((rPh gm_F369697 el_F369697 f - rPh γ0 el0 f) / 18) + 0 + 0) (sl' := (rPh gm_F369697 el_F369697 f - rPh γ0 el0 f) + 0 + 0) (by omega) (by omega) ?_
          have hf369860 : gm_F369697 1 q369830 = f := (show gm_F369697 1 q369830 = gm_F369697 1 q369784 from ht369837).trans ((show gm_F369697 1 q369784 = gm_F369697 1 q366567 from ht369789).trans hf369732)
          have hf369861 : gm_F369697 1 q369840 = f := (show gm_F369697 1 q369840 = gm_F369697 1 q369830 from ht369845).trans hf369860
          have hf369862 : gm_F369697 1 q369841 = f := (show gm_F369697 1 q369841 = gm_F369697 1 q369830 from ht369847).trans hf369860
          have r369863 : gm_F369697 6 (gm_F369697 1 q369830) = gm_F369697 6 f := by rw [hf369860]
          have r369864 : gm_F369697 7 (gm_F369697 1 q369830) = gm_F369697 7 f := by rw [hf369860]
          have r369865 : gm_F369697 19 (gm_F369697 1 q369830) = gm_F369697 19 f := by rw [hf369860]
          have r369866 := r369849.resolve_left (by omega)
          clear r369849
          have r369867 : gm_F369697 2 (gm_F369697 14 q369830) = gm_F369697 2 q369840 := by rw [ht369850.1]
          have r369868 : (0 : Int32).toInt.toNat < gm_F369697 2 (gm_F369697 14 q366567) := by rw [ht369803.1]; omega
          have r369869 : el_F369697 (gm_F369697 14 q366567) (0 : Int32).toInt.toNat = q369830 := by rw [ht369803.1, hx369831]
          have r369870 : q369830 = q369658 := r369869.symm.trans r369740
          have sz369871 : gm_F369697 2 (gm_F369697 14 q369830) = gm_F369697 2 (gm_F369697 14 q369658) := by rw [r369870]
          have fq369872 : fR (F369773 q369830) 0 = q369840 := by rw [he369839]; rfl
          refine Gp_get 0 hm369838 he369839 dr_cX17_zeros_56 (gk_X12 D I) (Nat.le_of_ble_eq_true rfl) wr_9_220 rfl ?_
          refine G_iload_n 2 dr_cX17_zeros_59 rfl ?_
          refine G_aload 0 dr_cX17_zeros_60 rfl ?_
          have rg369873 := rM_ge hT369780 ht369731 hf369732
          have rm369874 := rM_bd hB369747
          have bd369875 := rBd_c hT369780 ht369731 hf369732 hB369747
          have rc369876 := rc_at hT369780 ht369731 hf369732
          have r369878 : gm_F369697 14 (el_F369697 (gm_F369697 14 q366567) (0 : Int32).toInt.toNat) = q369840 := by rw [r369869]; exact ht369850.1
          have r369879 := rg369873.2.2 _ r369868
          rw [r369878] at r369879
          have r369880 := bd369875.2.2.2 _ r369868
          rw [r369878] at r369880
          have r369881 : gm_F369697 7 (gm_F369697 1 q369698) = gm_F369697 7 f := by rw [x1369708]
          have hx369882 : rk_1 gm_F369697 q369698 (F369773 q369698) := ⟨0, g369506, p369756, p369757, p369758, p369759, p369760, he369776, (gB_w (gBl (show Int32.toInt 0 = 0 by decide)) (by decide) (by decide)), bg369506', bp369758, (gB_w bp369759' (by decide) (by decide)), (gB_w bp369760' (by decide) (by decide)), (Or.inl (by decide)), r369762, r369763, (Or.inl ⟨by decide, by decide⟩), (Or.inl x22369709)⟩
          refine Gt_ins (c := q366567) (f := f) hl0 dr_cX17_zeros_62 ⟨wr_10_207, wr_1_18, wr_10_210, by decide, rfl, (Nat.le_of_ble_eq_true rfl), (Nat.le_of_ble_eq_true rfl)⟩ wr_10_208 wr_10_209 hT369780 ht369844 hf369861 ht369748 x1369708 x22369709 r369749 (by omega) ht369731 hf369732 r369868 r369878 hx369882 (by omega) (by omega) (Nat.le_trans r369880 (Nat.le_trans hBk (by decide))) (rm_cs hph369750 r369879 rm369874 (by decide)) (rm_sl hph369750 r369879 rm369874 rm_s11) (Nat.le_of_ble_eq_true rfl) (fun P369883 F369877 gm_F369877 el_F369877 dc369884 ds369885 hq369886 => ?_)
          have hq369887 := hq369886
          obtain ⟨hk369888, x0369889, h2369890, hel369891, hot369892, h16369893, h18369894, hnu369895, hFx369896, hr369897, hM369898, hBB369899⟩ := hq369886
          have hk369900 := rSk_of hk369888
          have r369901 : (fI (F369877 q366567) 3).toInt = (fI (F369773 q366567) 3).toInt := by rw [rSk_F hk369900 ht369731 (by decide) (by decide)]
          obtain ⟨nu369902, nu369903, nu369904, nu369905⟩ := hnu369895
          have hT369906 := hk369900.1
          have hs369907 := rSk_tr hs369781 hk369900 (by decide) (by decide) (by decide)
          have kp369908 : F369877 q366566 = F366565 q366566 := (rSk_F hk369900 ht369730 (by decide) (by decide)).trans kp369778
          have ht369909 : rKd gm_F369877 q366566 10 := rSk_k hk369900 ht369730 (by decide) (by decide)
          have ht369910 : rKd gm_F369877 q366567 9 := rSk_k hk369900 ht369731 (by decide) (by decide)
          have hf369911 : gm_F369877 1 q366567 = f := rSk_1 hk369900 ht369731 (by decide) hf369732
          have ht369912 : rKd gm_F369877 q369658 2 := rSk_k hk369900 ht369733 (by decide) (by decide)
          have hf369913 : gm_F369877 1 q369658 = f := rSk_1 hk369900 ht369733 (by decide) hf369734
          have ht369914 : rKd gm_F369877 q369668 3 := rSk_k hk369900 ht369735 (by decide) (by decide)
          have hf369915 : gm_F369877 1 q369668 = f := rSk_1 hk369900 ht369735 (by decide) hf369736
          have ht369916 : rKd gm_F369877 q369830 2 := rSk_k hk369900 ht369836 (by decide) (by decide)
          have hf369917 : gm_F369877 1 q369830 = f := rSk_1 hk369900 ht369836 (by decide) hf369860
          have ht369918 : rKd gm_F369877 q369840 3 := rSk_k hk369900 ht369844 (by decide) (by decide)
          have hf369919 : gm_F369877 1 q369840 = f := rSk_1 hk369900 ht369844 (by decide) hf369861
          have r369920 := (rSk_s hk369900 ht369731 (by decide)).2.1
          have r369921 := hot369892 _ (by rw [rc369876.2.1]; decide) (fun q => by rw [q, show _ = 3 from ht369844] at rc369876; exact absurd rc369876.2.1 (by decide))
          have r369922 : (0 : Int32).toInt.toNat < gm_F369877 2 (gm_F369877 14 q366567) := by rw [r369920, r369921.1]; exact r369739
          have r369923 : el_F369877 (gm_F369877 14 q366567) (0 : Int32).toInt.toNat = q369658 := by rw [r369920, r369921.2]; exact r369740
          have r369924 : (0 : Int32).toInt.toNat < gm_F369877 2 (gm_F369877 14 q366567) := by rw [r369920, r369921.1]; exact r369868
          have r369925 : el_F369877 (gm_F369877 14 q366567) (0 : Int32).toInt.toNat = q369830 := by rw [r369920, r369921.2]; exact r369869
          clear bp369754 bp369755 bp369758 bp369759 bp369760 bp369756 bp369757 r369792 r369793 r369794 r369795 r369796 r369797 r369799 r369800 r369801 r369802 bp369786 bp369787 bp369842 bp369843 r369851 r369852 rg369873 rm369874 bd369875 rc369876 r369879 r369880
          clear r369761 r369762 r369763
          have r369926 : 0 < gm_F369877 6 (gm_F369877 1 q366567) := by rw [hf369911]; omega
          first | have sz369927 := (hot369892 q369668 (rT0 ht369735 (by decide)) (by assumption)).1 | skip
          have ht369928 : rKd gm_F369877 q369698 1 := x0369889
          have hB369929 : rBd gm_F369877 el_F369877 f B := hBB369899 B hB369747
          have hph369930 : rPh γ0 el0 f ≤ rPh gm_F369877 el_F369877 f := rm_ph hph369750 hr369897.2
          have pk369931 : rPh gm_F369877 el_F369877 f ≤ 387 * B + 6000 := rm_pk (rM_ge hT369906 ht369910 hf369911).1 (rM_bd hB369929)
          refine G_widen (cs' := ((rPh gm_F369877 el_F369877 f - rPh γ0 el0 f) / 18)) (sl' := (rPh gm_F369877 el_F369877 f - rPh γ0 el0 f)) (rm_wc hph369750 hr369897.1) (rm_ws hph369750 hr369897.2) ?_
          have r369932 : gm_F369877 14 q369830 = q369840 := ((rSk_s (rSk_of hk369888) ht369836 (by decide)).2.1).trans ht369850.1
          have sz369933 : gm_F369877 2 (gm_F369877 14 q369830) = gm_F369877 2 q369840 := by rw [r369932]
          have bg369507' : gB g369507 0 1999 := ⟨by omega, by omega⟩
          obtain ⟨z369934, hz369934⟩ : ∃ z : Int32, z = g369507 + Int32.ofInt 1 := ⟨_, rfl⟩
          have ez369934 : z369934.toInt = g369507.toInt + 1 := gI_inc hz369934 (by decide) bg369507' (by decide) (by decide)
          have bz369934 : gB z369934 1 2000 := ⟨by omega, by omega⟩
          refine G_iinc (L' := [(2, .int z369934), (4, .ref q369698), (3, .int g369506), (0, .ref q366566), (1, .ref q366567)]) z369934 2 dr_cX17_zeros_65 rfl hz369934.symm (Nat.le_of_ble_eq_true rfl) rfl ?_
          obtain ⟨z369935, hz369935⟩ : ∃ z : Int32, z = g369506 + Int32.ofInt 1 := ⟨_, rfl⟩
          have ez369935 : z369935.toInt = g369506.toInt + 1 := gI_inc hz369935 (by decide) bg369506' (by decide) (by decide)
          have bz369935 : gB z369935 1 2000 := ⟨by omega, by omega⟩
          refine G_iinc (L' := [(3, .int z369935), (2, .int z369934), (4, .ref q369698), (0, .ref q366566), (1, .ref q366567)]) z369935 2 dr_cX17_zeros_68 rfl hz369935.symm (Nat.le_of_ble_eq_true rfl) rfl ?_
          refine G_goto 10 dr_cX17_zeros_71 (by decide +kernel) ?_
          refine G_lv (L' := [(3, .int z369935), (2, .int z369934), (0, .ref q366566), (1, .ref q366567)]) [0, 1, 3, 4] rfl ?_
          exact ih10_369520 P369883 F369877 gm_F369877 el_F369877 z369935 z369934 (gB_w bz369935 (by decide) (by decide)) (gB_w bz369934 (by decide) (by decide)) hT369906 hs369907 hph369930 hB369929 (by omega) (by omega) (by omega) (by omega) (by omega) (by rw [r369925]; omega) kp369908 (fun k e1 e2 e3 e4 ht => kt10_369521 k e1 e2 e3 e4 (fun R c1 c2 c3 => c3 P369508 F369509 gm_F369509 el_F369509 g369506 g369507 q369583 f369588 q369612 q369658 P369696 F369697 gm_F369697 el_F369697 q369698 dc369699 ds369700 F369767 F369773 q369784 q369830 p369812 q369840 P369883 F369877 gm_F369877 el_F369877 dc369884 ds369885 z369934 z369935 k e1 e2 e3 e4 bg369506 bg369507 hT369510 hs369511 x369514 x369515 x369516 x369517 x369518 x369519 x369520 r369530 fq369578 hx369585 he369587 r369607 fq369663 hx369659 hq369705 n369769 fq369772 n369775 fq369779 fq369835 hx369831 fq369853 ht369859 fq369872 hq369887 ez369934 ez369935 (ht R c1 c2 c3))) (by omega)
  exact hlp10_369520 (((2001 : Int) - 0).toNat + 1) P366564 F366632 gm_0 el_0 0 0 (gB_w (gBl (show Int32.toInt 0 = 0 by decide)) (by decide) (by decide)) (gB_w (gBl (show Int32.toInt 0 = 0 by decide)) (by decide) (by decide)) hT366633 hs366635 hph hB (by have qa0 : Int32.toInt 0 = 0 := (by decide); omega) (by have qa0 : Int32.toInt 0 = 0 := (by decide); omega) (by have qa0 : Int32.toInt 0 = 0 := (by decide); omega) (by have qa0 : Int32.toInt 0 = 0 := (by decide); omega) (by have qa0 : Int32.toInt 0 = 0 := (by decide); omega) (by have qa : Int32.toInt 0 = 0 := (by decide); omega) kp366636 (fun k e1 e2 e3 e4 ht => ht) (Nat.lt_succ_self _)
