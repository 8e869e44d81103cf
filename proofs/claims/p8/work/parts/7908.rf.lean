theorem dr_cX17_zeros_0 : decode cX17_zeros 0 = .ok (.aload_n 0, 1) := by decide +kernel
theorem dr_cX17_zeros_1 : decode cX17_zeros 1 = .ok (.aload_n 1, 1) := by decide +kernel
theorem dr_cX17_zeros_2 : decode cX17_zeros 2 = .ok (.iconst 0, 1) := by decide +kernel
theorem dr_cX17_zeros_3 : decode cX17_zeros 3 = .ok (.invokevirtual 127, 3) := by decide +kernel
theorem dr_cX17_zeros_6 : decode cX17_zeros 6 = .ok (.iconst 0, 1) := by decide +kernel
theorem dr_cX17_zeros_7 : decode cX17_zeros 7 = .ok (.istore_n 2, 1) := by decide +kernel
theorem dr_cX17_zeros_8 : decode cX17_zeros 8 = .ok (.iconst 0, 1) := by decide +kernel
theorem dr_cX17_zeros_9 : decode cX17_zeros 9 = .ok (.istore_n 3, 1) := by decide +kernel
theorem dr_cX17_zeros_10 : decode cX17_zeros 10 = .ok (.iload_n 3, 1) := by decide +kernel
theorem dr_cX17_zeros_11 : decode cX17_zeros 11 = .ok (.sipush 2000, 3) := by decide +kernel
theorem dr_cX17_zeros_14 : decode cX17_zeros 14 = .ok (.if_icmp .ge 60, 3) := by decide +kernel
theorem dr_cX17_zeros_74 : decode cX17_zeros 74 = .ok (.return_, 1) := by decide +kernel
theorem dr_cX17_zeros_17 : decode cX17_zeros 17 = .ok (.aload_n 0, 1) := by decide +kernel
theorem dr_cX17_zeros_18 : decode cX17_zeros 18 = .ok (.getfield 88, 3) := by decide +kernel
theorem dr_cX17_zeros_21 : decode cX17_zeros 21 = .ok (.iconst 0, 1) := by decide +kernel
theorem dr_cX17_zeros_22 : decode cX17_zeros 22 = .ok (.aaload, 1) := by decide +kernel
theorem dr_cX17_zeros_23 : decode cX17_zeros 23 = .ok (.iload_n 3, 1) := by decide +kernel
theorem dr_cX17_zeros_24 : decode cX17_zeros 24 = .ok (.invokestatic 145, 3) := by decide +kernel
theorem dr_cX17_zeros_27 : decode cX17_zeros 27 = .ok (.ifCond .ne 6, 3) := by decide +kernel
theorem dr_cX17_zeros_30 : decode cX17_zeros 30 = .ok (.goto 38, 3) := by decide +kernel
theorem dr_cX17_zeros_68 : decode cX17_zeros 68 = .ok (.iinc 3 1, 3) := by decide +kernel
theorem dr_cX17_zeros_71 : decode cX17_zeros 71 = .ok (.goto (-61), 3) := by decide +kernel
theorem dr_cX17_zeros_33 : decode cX17_zeros 33 = .ok (.aload_n 1, 1) := by decide +kernel
theorem dr_cX17_zeros_34 : decode cX17_zeros 34 = .ok (.invokevirtual 177, 3) := by decide +kernel
theorem dr_cX17_zeros_37 : decode cX17_zeros 37 = .ok (.astore 4, 2) := by decide +kernel
theorem dr_cX17_zeros_39 : decode cX17_zeros 39 = .ok (.aload 4, 2) := by decide +kernel
theorem dr_cX17_zeros_41 : decode cX17_zeros 41 = .ok (.iconst 0, 1) := by decide +kernel
theorem dr_cX17_zeros_42 : decode cX17_zeros 42 = .ok (.putfield 39, 3) := by decide +kernel
theorem dr_cX17_zeros_45 : decode cX17_zeros 45 = .ok (.aload 4, 2) := by decide +kernel
theorem dr_cX17_zeros_47 : decode cX17_zeros 47 = .ok (.iload_n 3, 1) := by decide +kernel
theorem dr_cX17_zeros_48 : decode cX17_zeros 48 = .ok (.putfield 52, 3) := by decide +kernel
theorem dr_cX17_zeros_51 : decode cX17_zeros 51 = .ok (.aload_n 1, 1) := by decide +kernel
theorem dr_cX17_zeros_52 : decode cX17_zeros 52 = .ok (.iconst 0, 1) := by decide +kernel
theorem dr_cX17_zeros_53 : decode cX17_zeros 53 = .ok (.invokevirtual 101, 3) := by decide +kernel
theorem dr_cX17_zeros_56 : decode cX17_zeros 56 = .ok (.getfield 117, 3) := by decide +kernel
theorem dr_cX17_zeros_59 : decode cX17_zeros 59 = .ok (.iload_n 2, 1) := by decide +kernel
theorem dr_cX17_zeros_60 : decode cX17_zeros 60 = .ok (.aload 4, 2) := by decide +kernel
theorem dr_cX17_zeros_62 : decode cX17_zeros 62 = .ok (.invokevirtual 181, 3) := by decide +kernel
theorem dr_cX17_zeros_65 : decode cX17_zeros 65 = .ok (.iinc 2 1, 3) := by decide +kernel
abbrev ky_366456_SpillForgeModel_zeros : gKey := (cX17_zeros, 5, "SpillForgeModel", none, [], "zeros", fun _ _ => True)
def pg_366456_SpillForgeModel_zeros (D : va_G) (I : FieldType → ClassId) (γ0 el0 : Nat → Nat → Nat) (f : Nat) (B : Nat) (P366450 : List Nat) (F366451 : Nat → va_E) (q366452 : Nat) (q366453 : Nat) : Option Value → va_W → Nat → Nat → Prop := fun r w dc ds => ∃ (P369822 : List Nat) (F369823 : Nat → va_E) (γ el : Nat → Nat → Nat), r = none ∧ w = va_pl P369822 F369823 ∧ rSk f [101] ([1, 3, 5, 6, 8, 9, 101] ++ npk) D I P366450 F366451 γ0 el0 P369822 F369823 γ el ∧ (18 * dc + rPh γ0 el0 f ≤ rPh γ el f ∧ ds + rPh γ0 el0 f ≤ rPh γ el f) ∧ rBd γ el f B ∧ γ 6 f = γ0 6 f ∧ γ 7 f = γ0 7 f ∧ γ 16 f ≤ γ0 16 f + 2000 ∧ γ 18 f = γ0 18 f ∧ (F369823 q366452 = F366451 q366452) ∧ tr_RModel_zeros D I γ0 el0 f P366450 F366451 q366452 q366453 P369822 F369823 γ el
set_option maxRecDepth 100000 in
set_option maxHeartbeats 1500000 in
theorem cg_366456_SpillForgeModel_zeros (l : Launch) (hl0 : l.stackTraces = false) (D : va_G) (I : FieldType → ClassId) (γ0 el0 : Nat → Nat → Nat) (f : Nat) (B : Nat) (P366450 : List Nat) (F366451 : Nat → va_E) (q366452 : Nat) (q366453 : Nat) (hT0 : RS D I P366450 F366451 γ0 el0) (hzq366452 : rKd γ0 q366452 10) (hzq366453 : rKd γ0 q366453 9) (hf0 : γ0 1 q366453 = f) (hB0 : rBd γ0 el0 f B) (hBk : B ≤ 100000) (x366454 : 0 < γ0 6 f) (x366455 : γ0 16 f + 2000 ≤ B) : CtA (gV D I) l yX17_zeros cX17_zeros 5 none 8 170 (((387 * B + 6000) - rPh γ0 el0 f) / 18) ((387 * B + 6000) - rPh γ0 el0 f) [.ref q366452, .ref q366453] (va_pl P366450 F366451) (pg_366456_SpillForgeModel_zeros D I γ0 el0 f B P366450 F366451 q366452 q366453) gNA := by
  refine CtA_of hl0 (by decide) (Nat.le_of_ble_eq_true rfl) ?_
  obtain ⟨gm_0, hγ0⟩ : ∃ z, z = γ0 := ⟨_, rfl⟩
  obtain ⟨el_0, hel0⟩ : ∃ z, z = el0 := ⟨_, rfl⟩
  have hT : RS D I P366450 F366451 gm_0 el_0 := by rw [hγ0, hel0]; exact hT0
  have hst : rSk f [101] ([1, 3, 5, 6, 8, 9, 101] ++ npk) D I P366450 F366451 γ0 el0 P366450 F366451 gm_0 el_0 := by rw [hγ0, hel0]; exact rSk_rf hT0
  have hph : rPh γ0 el0 f ≤ rPh gm_0 el_0 f := by rw [hγ0, hel0]; exact Nat.le_refl _
  have hB : rBd gm_0 el_0 f B := by rw [hγ0, hel0]; exact hB0
  have htq366452 : rKd gm_0 q366452 10 := by rw [hγ0]; exact hzq366452
  have htq366453 : rKd gm_0 q366453 9 := by rw [hγ0]; exact hzq366453
  have hf1 : gm_0 1 q366453 = f := by rw [hγ0]; exact hf0
  have x366454n : 0 < gm_0 6 f := by rw [hγ0]; exact x366454
  have x366455n : gm_0 16 f + 2000 ≤ B := by rw [hγ0]; exact x366455
  have pk366457 : rPh gm_0 el_0 f ≤ 387 * B + 6000 := rm_pk (rM_ge hT htq366453 hf1).1 (rM_bd hB)
  refine G_widen (cs' := ((rPh gm_0 el_0 f - rPh γ0 el0 f) / 18)) (sl' := (rPh gm_0 el_0 f - rPh γ0 el0 f)) (Nat.zero_le _) (Nat.zero_le _) ?_
  have r366458 : 0 < gm_0 6 (gm_0 1 q366453) := by rw [hf1]; omega
  have lz0 : Int32.toInt 0 = 0 := by decide
  have r366459 : gm_0 6 f = γ0 6 f := by rw [hγ0]
  have r366460 : gm_0 7 f = γ0 7 f := by rw [hγ0]
  have r366461 : gm_0 16 f = γ0 16 f := by rw [hγ0]
  have r366462 : gm_0 18 f = γ0 18 f := by rw [hγ0]
  have r366463 : gm_0 19 f = γ0 19 f := by rw [hγ0]
  refine G_aload_n 0 dr_cX17_zeros_0 rfl ?_
  refine G_aload_n 1 dr_cX17_zeros_1 rfl ?_
  refine G_iconst 0 dr_cX17_zeros_2 (by decide +kernel) ?_
  have hm366469 : q366452 ∈ P366450 := RS_m hT htq366452 (by decide)
  obtain ⟨q366471, q366472, p366473, p366474, p366475, p366476, p366477, p366478, p366479, p366480, p366481, p366482, p366483, p366484, p366485, p366486, p366487, he366470, hB366514, ht366488, ht366489, ht366490, ht366491, ht366492, ht366493, ht366494, ht366495, ht366496, ht366497, ht366498, ht366499, ht366500, ht366501, ht366502, ht366503, ht366504, ht366505, ht366506, ht366507, ht366508, ht366509, ht366510, ht366511, hB366515⟩ := show rk_10 gm_0 (F366451 q366452) from RS_o hT htq366452
  refine Gw_callV (As := [.ref q366453, .int 0]) (gV_ok D I) (ct_225912_SpillForgeModel_findLive l hl0 D I gm_0 el_0 P366450 F366451 q366452 q366453 0 hT htq366452 htq366453 (gB_w (gBl (show Int32.toInt 0 = 0 by decide)) (by decide) (by decide)) (by omega)) dr_cX17_zeros_3 ⟨wr_10_156, wr_1_14, wr_10_159, by decide, rfl, (Nat.le_of_ble_eq_true rfl), (Nat.le_of_ble_eq_true rfl)⟩ wr_10_158 wr_p_94 hm366469 he366470 rfl (rm_zc pk366457) (rm_zs pk366457) (Nat.le_of_ble_eq_true rfl) (fun r366467 w366468 dc366464 ds366465 hp366466 => ?_) (fun _ _ _ _ _ z => z.elim)
  obtain ⟨F366518, rfl, rfl, hT366519, hs366520, hdc, hds, x366516, ht366517⟩ := hp366466
  have hs366521 := rSk_str hst hT366519 hs366520 (by decide) (by decide) (by decide)
  have kp366522 : F366518 q366452 = F366451 q366452 := x366516
  have he366523 : F366518 q366452 = .inr (22, [.ref (gm_0 9 0), .ref (gm_0 9 1), .ref (gm_0 9 2), .ref (gm_0 9 3), .ref (gm_0 9 4), .ref (gm_0 9 5), .ref (gm_0 9 6), .ref (gm_0 9 7), .ref (gm_0 9 8), .int p366473, .int p366474, .int p366475, .int p366476, .int p366477, .int p366478, .ref (gm_0 9 15), .ref (gm_0 9 16), .ref (gm_0 9 17), .ref (gm_0 9 18), .ref (gm_0 9 19), .ref (gm_0 9 20), .ref (gm_0 9 21), .ref (gm_0 9 22), .int p366479, .int p366480, .int p366481, .int p366482, .int p366483, .ref q366471, .ref (gm_0 9 29), .int p366484, .ref (gm_0 9 31), .int p366485, .int p366486, .int p366487, .ref q366472]) := (x366516).trans he366470
  change G _ _ _ _ _ _ _ _ _ _ _
  refine G_widen (cs' := ((rPh gm_0 el_0 f - rPh γ0 el0 f) / 18)) (sl' := (rPh gm_0 el_0 f - rPh γ0 el0 f)) (rm_d0 hdc) (rm_d0 hds) ?_
  refine G_iconst 0 dr_cX17_zeros_6 (by decide +kernel) ?_
  refine G_istore_n (L' := [(2, .int 0), (0, .ref q366452), (1, .ref q366453)]) dr_cX17_zeros_7 (Nat.le_of_ble_eq_true rfl) rfl ?_
  refine G_iconst 0 dr_cX17_zeros_8 (by decide +kernel) ?_
  refine G_istore_n (L' := [(3, .int 0), (2, .int 0), (0, .ref q366452), (1, .ref q366453)]) dr_cX17_zeros_9 (Nat.le_of_ble_eq_true rfl) rfl ?_
  have hlp10_369406 : ∀ (n10_369406 : Nat) (P369394 : List Nat) (F369395 : Nat → va_E) (gm_F369395 el_F369395 : Nat → Nat → Nat) (g369392 : Int32) (g369393 : Int32), gB g369392 0 2000 → gB g369393 0 2000 → RS D I P369394 F369395 gm_F369395 el_F369395 → rSk f [101] ([1, 3, 5, 6, 8, 9, 101] ++ npk) D I P366450 F366451 γ0 el0 P369394 F369395 gm_F369395 el_F369395 → rPh γ0 el0 f ≤ rPh gm_F369395 el_F369395 f → rBd gm_F369395 el_F369395 f B → gm_F369395 6 f = γ0 6 f → gm_F369395 7 f = γ0 7 f → gm_F369395 18 f = γ0 18 f → gm_F369395 16 f ≤ γ0 16 f + (g369393.toInt : Int).toNat → g369393.toInt ≤ g369392.toInt → (g369393.toInt : Int) ≤ gm_F369395 2 (gm_F369395 14 (el_F369395 (gm_F369395 14 q366453) (0 : Int32).toInt.toNat)) → (F369395 q366452 = F366451 q366452) → (∀ (k : Nat) (e1 : Nat → va_E) (e2 : List Nat) (e3 : Nat → Nat → Nat) (e4 : Nat → Nat → Nat), tl_RModel_zeros_10 D I γ0 el0 f P366450 F366451 q366453 q366452 P369394 F369395 gm_F369395 el_F369395 g369392 g369393 k e1 e2 e3 e4 → tl_RModel_zeros_10 D I γ0 el0 f P366450 F366451 q366453 q366452 P366450 F366518 gm_0 el_0 (0 : Int32) (0 : Int32) k e1 e2 e3 e4) → ((2001 : Int) - g369392.toInt).toNat < n10_369406 → G (gV D I) l (gRm 8 170 (((387 * B + 6000) - rPh γ0 el0 f) / 18) ((387 * B + 6000) - rPh γ0 el0 f)) (gMA (gV D I) (pg_366456_SpillForgeModel_zeros D I γ0 el0 f B P366450 F366451 q366452 q366453) gNA (((387 * B + 6000) - rPh γ0 el0 f) / 18) ((387 * B + 6000) - rPh γ0 el0 f)) ky_366456_SpillForgeModel_zeros 10 [(3, .int g369392), (2, .int g369393), (0, .ref q366452), (1, .ref q366453)] [] (va_pl P369394 F369395) ((rPh gm_F369395 el_F369395 f - rPh γ0 el0 f) / 18) (rPh gm_F369395 el_F369395 f - rPh γ0 el0 f) := by
    intro n10_369406
    induction n10_369406 with
    | zero => intro P369394 F369395 gm_F369395 el_F369395 g369392 g369393 bg369392 bg369393 hT369396 hs369397 hph369398 hB369399 x369400 x369401 x369402 x369403 x369404 x369405 x369406 kt10_369407 hm10_369406; exact absurd hm10_369406 (Nat.not_lt_zero _)
    | succ n10_369406 ih10_369406 =>
      intro P369394 F369395 gm_F369395 el_F369395 g369392 g369393 bg369392 bg369393 hT369396 hs369397 hph369398 hB369399 x369400 x369401 x369402 x369403 x369404 x369405 x369406 kt10_369407 hm10_369406
      clear r366459 r366460 r366461 r366462 r366463
      have ht369408 : rKd gm_F369395 q366452 10 := rSk_k hs369397 hzq366452 (by decide) (by decide)
      have ht369409 : rKd gm_F369395 q366453 9 := rSk_k hs369397 hzq366453 (by decide) (by decide)
      have hf369410 : gm_F369395 1 q366453 = f := rSk_1 hs369397 hzq366453 (by decide) hf0
      have pk369411 : rPh gm_F369395 el_F369395 f ≤ 387 * B + 6000 := rm_pk (rM_ge hT369396 ht369409 hf369410).1 (rM_bd hB369399)
      have r369412 : 0 < gm_F369395 6 (gm_F369395 1 q366453) := by rw [hf369410]; omega
      refine G_iload_n 0 dr_cX17_zeros_10 rfl ?_
      refine G_sipush 2000 dr_cX17_zeros_11 (by decide +kernel) ?_
      refine G_icmp_ge 74 dr_cX17_zeros_14 (by decide +kernel) (fun hc369413 => ?_) (fun hc369413 => ?_)
      · have r369414 : 2000 ≤ g369392.toInt := gj_leL hc369413 (show Int32.toInt 2000 = 2000 by decide)
        have bg369392' : gB g369392 2000 2000 := ⟨by omega, by omega⟩
        have hx369415 : tl_RModel_zeros_10 D I γ0 el0 f P366450 F366451 q366453 q366452 P366450 F366518 gm_0 el_0 (0 : Int32) (0 : Int32) 74 F369395 P369394 gm_F369395 el_F369395 := kt10_369407 74 F369395 P369394 gm_F369395 el_F369395 (fun R c1 c2 c3 => c1 P369394 F369395 gm_F369395 el_F369395 g369392 g369393 bg369392 bg369393 hT369396 hs369397 x369400 x369401 x369402 x369403 x369404 x369405 x369406 r369414)
        exact G_vretA dr_cX17_zeros_74 rfl (show ((rPh gm_F369395 el_F369395 f - rPh γ0 el0 f) / 18) ≤ (((387 * B + 6000) - rPh γ0 el0 f) / 18) by omega) (show (rPh gm_F369395 el_F369395 f - rPh γ0 el0 f) ≤ ((387 * B + 6000) - rPh γ0 el0 f) by omega) ⟨P369394, F369395, gm_F369395, el_F369395, rfl, rfl, hs369397, ⟨by omega, by omega⟩, hB369399, (by omega), (by omega), (by omega), (by omega), x369406, (fun R c1 => c1 gm_0 el_0 F366518 F369395 P369394 gm_F369395 el_F369395 hγ0 hel0 hT366519 hs366520 x366516 ht366517 hx369415)⟩
      · have r369416 : g369392.toInt < 2000 := gj_nleL hc369413 (show Int32.toInt 2000 = 2000 by decide)
        have bg369392' : gB g369392 0 1999 := ⟨by omega, by omega⟩
        refine G_aload_n 2 dr_cX17_zeros_17 rfl ?_
        have hm369417 : q366452 ∈ P369394 := RS_m hT369396 ht369408 (by decide)
        obtain ⟨q369419, q369420, p369421, p369422, p369423, p369424, p369425, p369426, p369427, p369428, p369429, p369430, p369431, p369432, p369433, p369434, p369435, he369418, hB369462, ht369436, ht369437, ht369438, ht369439, ht369440, ht369441, ht369442, ht369443, ht369444, ht369445, ht369446, ht369447, ht369448, ht369449, ht369450, ht369451, ht369452, ht369453, ht369454, ht369455, ht369456, ht369457, ht369458, ht369459, hB369463⟩ := show rk_10 gm_F369395 (F369395 q366452) from RS_o hT369396 ht369408
        have fq369464 : fR (F369395 q366452) 0 = (gm_F369395 9 0) := by rw [he369418]; rfl
        refine Gp_get 0 hm369417 he369418 dr_cX17_zeros_18 (gk_X17 D I) (Nat.le_of_ble_eq_true rfl) wr_7_74 rfl ?_
        refine G_iconst 0 dr_cX17_zeros_21 (by decide +kernel) ?_
        have hm369465 : (gm_F369395 9 0) ∈ P369394 := RS_m hT369396 ht369438 (by decide)
        obtain ⟨f369467, he369466, hg369468⟩ := show rk_12 I gm_F369395 (F369395 (gm_F369395 9 0)) from RS_o hT369396 ht369438
        obtain ⟨q369469, hx369471⟩ : ∃ x, x = gm_F369395 10 (0 : Int32).toInt.toNat := ⟨_, rfl⟩
        have ht369470 : rKd gm_F369395 q369469 11 := by rw [hx369471]; exact (hg369468 _ (by decide)).2.1
        refine Gp_aald 5 hm369465 he369466 dr_cX17_zeros_22 rfl rfl (gB_in (gBl (show Int32.toInt 0 = 0 by decide)) (by decide) (by decide)) ?_
        rw [show f369467 (0 : Int32).toNatClampNeg = some q369469 from (hg369468 _ (by decide)).1.trans (congrArg some hx369471.symm)]
        change G _ _ _ _ _ _ _ (.ref q369469 :: _) _ _ _
        refine G_iload_n 0 dr_cX17_zeros_23 rfl ?_
        have hm369472 : q369469 ∈ P369394 := RS_m hT369396 ht369470 (by decide)
        obtain ⟨f369474, he369473, wf369474⟩ := show rk_11 I (F369395 q369469) from RS_o hT369396 ht369470
        refine Gw_callS (As := [.ref q369469, .int g369392]) (gV_ok D I) (cp_1845_SpillForgeModel_has l hl0 D I P369394 F369395 q369469 g369392 f369474 hm369472 he369473 (gB_w bg369392' (by decide) (by decide))) dr_cX17_zeros_24 ⟨wr_10_203, wr_1_14, wr_10_205, by decide, rfl, (Nat.le_of_ble_eq_true rfl), (Nat.le_of_ble_eq_true rfl)⟩ wr_10_204 (rm_zc pk369411) (rm_zs pk369411) (Nat.le_of_ble_eq_true rfl) (fun r369478 w369479 dc369475 ds369476 hp369477 => ?_) (fun _ _ _ _ _ z => z.elim)
        rcases hp369477 with ⟨z369480, z369481, rfl, rfl, hdc, hds, r369482, r369483, r369484, r369485, r369486⟩ | ⟨z369487, z369488, rfl, rfl, hdc, hds, r369489, r369490, r369491, r369492, r369493⟩
        · change G _ _ _ _ _ _ _ (.int 0 :: _) _ _ _
          refine G_widen (cs' := ((rPh gm_F369395 el_F369395 f - rPh γ0 el0 f) / 18)) (sl' := (rPh gm_F369395 el_F369395 f - rPh γ0 el0 f)) (rm_d0 hdc) (rm_d0 hds) ?_
          refine G_if_ne 33 dr_cX17_zeros_27 (by decide +kernel) (fun hc => absurd hc (by decide)) (fun _ => ?_)
          refine G_goto 68 dr_cX17_zeros_30 (by decide +kernel) ?_
          obtain ⟨z369495, hz369495⟩ : ∃ z : Int32, z = g369392 + Int32.ofInt 1 := ⟨_, rfl⟩
          have ez369495 : z369495.toInt = g369392.toInt + 1 := gI_inc hz369495 (by decide) bg369392' (by decide) (by decide)
          have bz369495 : gB z369495 1 2000 := ⟨by omega, by omega⟩
          refine G_iinc (L' := [(3, .int z369495), (2, .int g369393), (0, .ref q366452), (1, .ref q366453)]) z369495 0 dr_cX17_zeros_68 rfl hz369495.symm (Nat.le_of_ble_eq_true rfl) rfl ?_
          refine G_goto 10 dr_cX17_zeros_71 (by decide +kernel) ?_
          exact ih10_369406 P369394 F369395 gm_F369395 el_F369395 z369495 g369393 (gB_w bz369495 (by decide) (by decide)) bg369393 hT369396 hs369397 hph369398 hB369399 (by omega) (by omega) (by omega) (by omega) (by omega) (by omega) x369406 (fun k e1 e2 e3 e4 ht => kt10_369407 k e1 e2 e3 e4 (fun R c1 c2 c3 => c2 P369394 F369395 gm_F369395 el_F369395 g369392 g369393 q369469 f369474 z369495 k e1 e2 e3 e4 bg369392 bg369393 hT369396 hs369397 x369400 x369401 x369402 x369403 x369404 x369405 x369406 r369416 fq369464 hx369471 he369473 r369486 ez369495 (ht R c1 c2 c3))) (by omega)
        · change G _ _ _ _ _ _ _ (.int 1 :: _) _ _ _
          refine G_widen (cs' := ((rPh gm_F369395 el_F369395 f - rPh γ0 el0 f) / 18)) (sl' := (rPh gm_F369395 el_F369395 f - rPh γ0 el0 f)) (rm_d0 hdc) (rm_d0 hds) ?_
          refine G_if_ne 33 dr_cX17_zeros_27 (by decide +kernel) (fun _ => ?_) (fun hc => absurd hc (by decide))
          have hm369496 : q366453 ∈ P369394 := RS_m hT369396 ht369409 (by decide)
          obtain ⟨q369498, q369499, p369500, p369501, he369497, ht369517, ht369502, ht369503, ht369504, ht369505, r369506, r369507, r369508, r369509, r369510, r369511, r369512, r369513, r369514, r369515, r369516⟩ := show rk_9 gm_F369395 el_F369395 q366453 (F369395 q366453) from RS_o hT369396 ht369409
          have bp369500 : gB p369500 0 1000000 := ⟨by omega, by omega⟩
          have bp369501 : gB p369501 0 1000000 := ⟨by omega, by omega⟩
          have hf369518 : gm_F369395 1 q369498 = f := (show gm_F369395 1 q369498 = gm_F369395 1 q366453 from ht369503).trans hf369410
          have hf369519 : gm_F369395 1 q369499 = f := (show gm_F369395 1 q369499 = gm_F369395 1 q366453 from ht369505).trans hf369410
          have r369520 : gm_F369395 6 (gm_F369395 1 q366453) = gm_F369395 6 f := by rw [hf369410]
          have r369521 : gm_F369395 16 (gm_F369395 1 q366453) = gm_F369395 16 f := by rw [hf369410]
          have r369522 : p369501.toInt = gm_F369395 6 f ∧ p369501.toInt ≤ 40 := by omega
          clear r369512
          have hm369523 : q369498 ∈ P369394 := RS_m hT369396 ht369502 (by decide)
          obtain ⟨⟨p369525, p369526, q369527, he369524, r369528, r369529, r369530, r369532⟩, r369531⟩ := show rk_4 D I gm_F369395 el_F369395 F369395 q369498 from RS_o hT369396 ht369502
          have bp369525 := gB_any p369525
          have bp369526 : gB p369526 0 1000000 := ⟨by omega, by omega⟩
          obtain ⟨r369533, r369534, n369541, f369542, r369535, r369536, r369537, r369538, r369539, r369540⟩ := rLC_n r369530 (by omega)
          have hm369543 : q369527 ∈ P369394 := RS_m hT369396 r369533 (by decide)
          obtain ⟨q369544, hx369545⟩ : ∃ x, x = el_F369395 q369498 (0 : Int32).toInt.toNat := ⟨_, rfl⟩
          have fq369549 : fR (F369395 q366453) 0 = q369498 := by rw [he369497]; rfl
          have hx369546 : f369542 (0 : Int32).toNatClampNeg = some q369544 := (r369539 _ (show (0 : Int32).toInt.toNat < gm_F369395 2 q369498 by first | assumption | omega)).trans (congrArg some hx369545.symm)
          have ht369550 : rKd gm_F369395 q369544 2 := by rw [hx369545]; exact (r369513 _ (by omega)).resolve_right (fun z => absurd z.1 (by omega))
          have ht369551 : rFm gm_F369395 q369544 q369498 := by rw [hx369545]; exact (r369531 _ (show (0 : Int32).toInt.toNat < gm_F369395 2 q369498 by omega)).2.1
          have hm369552 : q369544 ∈ P369394 := RS_m hT369396 ht369550 (by decide)
          obtain ⟨q369554, q369555, p369556, p369557, he369553, ht369564, ht369558, ht369559, ht369560, ht369561, ht369562, bp369556, bp369557, r369563, r369565, r369566⟩ := show rk_2 gm_F369395 q369544 (F369395 q369544) from RS_o hT369396 ht369550
          have hf369567 : gm_F369395 1 q369544 = f := (show gm_F369395 1 q369544 = gm_F369395 1 q369498 from ht369551).trans ((show gm_F369395 1 q369498 = gm_F369395 1 q366453 from ht369503).trans hf369410)
          have hf369568 : gm_F369395 1 q369554 = f := (show gm_F369395 1 q369554 = gm_F369395 1 q369544 from ht369559).trans hf369567
          have hf369569 : gm_F369395 1 q369555 = f := (show gm_F369395 1 q369555 = gm_F369395 1 q369544 from ht369561).trans hf369567
          have r369570 : gm_F369395 6 (gm_F369395 1 q369544) = gm_F369395 6 f := by rw [hf369567]
          have r369571 : gm_F369395 7 (gm_F369395 1 q369544) = gm_F369395 7 f := by rw [hf369567]
          have r369572 : gm_F369395 19 (gm_F369395 1 q369544) = gm_F369395 19 f := by rw [hf369567]
          have r369573 := r369563.resolve_left (by omega)
          clear r369563
          have r369574 : gm_F369395 2 (gm_F369395 14 q369544) = gm_F369395 2 q369554 := by rw [ht369564.1]
          have r369575 : (0 : Int32).toInt.toNat < gm_F369395 2 (gm_F369395 14 q366453) := by rw [ht369517.1]; omega
          have r369576 : el_F369395 (gm_F369395 14 q366453) (0 : Int32).toInt.toNat = q369544 := by rw [ht369517.1, hx369545]
          have sz369577 : gm_F369395 2 (gm_F369395 14 (el_F369395 (gm_F369395 14 q366453) (0 : Int32).toInt.toNat)) = gm_F369395 2 (gm_F369395 14 q369544) := by rw [r369576]
          refine G_aload_n 3 dr_cX17_zeros_33 rfl ?_
          have rg369578 := rM_ge hT369396 ht369409 hf369410
          have rm369579 := rM_bd hB369399
          have bd369580 := rBd_c hT369396 ht369409 hf369410 hB369399
          have rc369581 := rc_at hT369396 ht369409 hf369410
          obtain ⟨q369588, hl369589⟩ : ∃ z, z = gm_F369395 14 q369544 := ⟨_, rfl⟩
          have hl369590 : gm_F369395 0 q369588 = 3 ∨ gm_F369395 0 q369588 = 103 := by rw [hl369589, ← r369576]; exact (RS_lst hT369396 rc369581.2.1 r369575).1
          refine Gt_row (c := q366453) (f := f) hl0 dr_cX17_zeros_34 ⟨wr_10_206, wr_1_15, wr_10_82, by decide, rfl, (Nat.le_of_ble_eq_true rfl), (Nat.le_of_ble_eq_true rfl)⟩ wr_10_80 wr_10_81 hT369396 ht369409 hf369410 (Nat.le_trans bd369580.2.2.1 (Nat.le_trans hBk (by decide))) (rm_cs hph369398 rg369578.2.1 rm369579 (by decide)) (rm_sl hph369398 rg369578.2.1 rm369579 rm_s18) (Nat.le_of_ble_eq_true rfl) (fun P369582 F369583 gm_F369583 el_F369583 q369584 dc369585 ds369586 hq369587 => ?_)
          have hq369591 := hq369587
          obtain ⟨hk369592, x0369593, x1369594, x22369595, x8369596, h16369597, h18369598, hnu369599, hot369600, h45369601, hf0369602, ⟨hr1369603, hr2369604⟩, hM369605, hBB369606⟩ := hq369587
          have hk369607 := rSk_of hk369592
          obtain ⟨nu369608, nu369609, nu369610, nu369611⟩ := hnu369599
          have hT369612 := hk369607.1
          have hs369613 := rSk_tr hs369397 hk369607 (by decide) (by decide) (by decide)
          have kp369614 : F369583 q366452 = F366451 q366452 := (rSk_F hk369607 ht369408 (by decide) (by decide)).trans x369406
          have r369615 := rSk_F hk369607 ht369408 (by decide) (by decide)
          have ht369616 : rKd gm_F369583 q366452 10 := rSk_k hk369607 ht369408 (by decide) (by decide)
          have ht369617 : rKd gm_F369583 q366453 9 := rSk_k hk369607 ht369409 (by decide) (by decide)
          have hf369618 : gm_F369583 1 q366453 = f := rSk_1 hk369607 ht369409 (by decide) hf369410
          have ht369619 : rKd gm_F369583 q369544 2 := rSk_k hk369607 ht369550 (by decide) (by decide)
          have hf369620 : gm_F369583 1 q369544 = f := rSk_1 hk369607 ht369550 (by decide) hf369567
          have ht369621 : rKd gm_F369583 q369554 3 := rSk_k hk369607 ht369558 (by decide) (by decide)
          have hf369622 : gm_F369583 1 q369554 = f := rSk_1 hk369607 ht369558 (by decide) hf369568
          have r369623 := (rSk_s hk369607 ht369409 (by decide)).2.1
          have r369624 := hot369600 _ (by rw [rc369581.2.1]; decide) (by rw [rc369581.2.1]; decide)
          have r369625 : (0 : Int32).toInt.toNat < gm_F369583 2 (gm_F369583 14 q366453) := by rw [r369623, r369624.1]; exact r369575
          have r369626 : el_F369583 (gm_F369583 14 q366453) (0 : Int32).toInt.toNat = q369544 := by rw [r369623, r369624.2]; exact r369576
          clear r369506 r369507 r369508 r369509 r369510 r369511 r369513 r369514 r369515 r369516 bp369500 bp369501 bp369556 bp369557 r369565 r369566 rg369578 rm369579 bd369580 rc369581
          have r369627 : 0 < gm_F369583 6 (gm_F369583 1 q366453) := by rw [hf369618]; omega
          have sz369628 := (rSk_s hk369607 ht369550 (by decide)).2.1
          have sz369629 := congrArg (gm_F369583 2) sz369628
          have sz369630 := (hot369600 q369588 (by omega) (by omega)).1
          rw [hl369589] at sz369630
          clear hl369590
          have sz369631 := (hot369600 q369554 (rT0 ht369558 (by decide)) (by rw [show _ = 3 from ht369558]; decide)).1
          have r369632 := hf0369602.2.2
          have hB369633 : rBd gm_F369583 el_F369583 f B := hBB369606 B (by omega) hB369399
          have ht369634 : rKd gm_F369583 q369584 101 := x0369593
          have r369635 : gm_F369583 8 q369584 < gm_F369583 16 f := rm_x8 x8369596 h16369597 rfl
          have hph369636 : rPh γ0 el0 f ≤ rPh gm_F369583 el_F369583 f := rm_ph hph369398 hr2369604
          have pk369637 : rPh gm_F369583 el_F369583 f ≤ 387 * B + 6000 := rm_pk (rM_ge hT369612 ht369617 hf369618).1 (rM_bd hB369633)
          have hm369638 : q369584 ∈ P369582 := RS_m hT369612 ht369634 (by decide)
          obtain ⟨p369640, p369641, p369642, p369643, p369644, p369645, p369646, he369639, bp369640, bp369641, bp369644, bp369645, bp369646, r369647, r369648, r369649⟩ := show rkR (F369583 q369584) from RS_o hT369612 ht369634
          have bp369642 := gB_any p369642
          have bp369643 := gB_any p369643
          have r369650 : gm_F369583 7 (gm_F369583 1 q369584) = gm_F369583 7 f := by rw [x1369594]
          have r369651 : p369645.toInt = 0 := by have z := hf0369602.1; rw [he369639] at z; exact z
          have bp369645' : gB p369645 0 0 := ⟨by omega, by omega⟩
          have r369652 : p369646.toInt = 0 := by have z := hf0369602.2.1; rw [he369639] at z; exact z
          have bp369646' : gB p369646 0 0 := ⟨by omega, by omega⟩
          refine G_widen (cs' := ((rPh gm_F369583 el_F369583 f - rPh γ0 el0 f) / 18)) (sl' := (rPh gm_F369583 el_F369583 f - rPh γ0 el0 f)) (rm_wc hph369398 hr1369603) (rm_ws hph369398 hr2369604) ?_
          refine G_astore (L' := [(4, .ref q369584), (3, .int g369392), (2, .int g369393), (0, .ref q366452), (1, .ref q366453)]) dr_cX17_zeros_37 (Nat.le_of_ble_eq_true rfl) rfl ?_
          refine G_aload 0 dr_cX17_zeros_39 rfl ?_
          refine G_iconst 0 dr_cX17_zeros_41 (by decide +kernel) ?_
          refine Gp_put 0 hm369638 he369639 dr_cX17_zeros_42 (gk_X15 D I) (Nat.le_of_ble_eq_true rfl) wr_9_177 rfl rfl rfl (Nat.le_of_ble_eq_true rfl) (fun F369653 e369654 n369655 => ?_)
          have he369656 : F369653 q369584 = .inr (20, [.int 0, .int p369641, .int p369642, .int p369643, .int p369644, .int p369645, .int p369646]) := e369654
          have kp369657 : F369653 q366452 = F366451 q366452 := (n369655 q366452 (rn_ty ht369616 ht369634 (by decide))).trans kp369614
          have fq369658 : F369653 q369584 = cF (F369583 q369584) 0 (.int 0) := by rw [he369656, he369639]; rfl
          refine G_aload 0 dr_cX17_zeros_45 rfl ?_
          refine G_iload_n 1 dr_cX17_zeros_47 rfl ?_
          refine Gp_put 1 hm369638 he369656 dr_cX17_zeros_48 (gk_X15 D I) (Nat.le_of_ble_eq_true rfl) wr_9_182 rfl rfl rfl (Nat.le_of_ble_eq_true rfl) (fun F369659 e369660 n369661 => ?_)
          have he369662 : F369659 q369584 = .inr (20, [.int 0, .int g369392, .int p369642, .int p369643, .int p369644, .int p369645, .int p369646]) := e369660
          have n369663 : ∀ b, b ≠ q369584 → F369659 b = F369583 b := fun b hb => (n369661 b hb).trans (n369655 b hb)
          have kp369664 : F369659 q366452 = F366451 q366452 := (n369661 q366452 (rn_ty ht369616 ht369634 (by decide))).trans kp369657
          have fq369665 : F369659 q369584 = cF (F369653 q369584) 1 (.int g369392) := by rw [he369662, he369656]; rfl
          refine G_aload_n 4 dr_cX17_zeros_51 rfl ?_
          refine G_iconst 0 dr_cX17_zeros_52 (by decide +kernel) ?_
          have hT369666 : RS D I P369582 F369659 gm_F369583 el_F369583 := RS_set hT369612 n369663 ht369634 (by decide) ⟨0, g369392, p369642, p369643, p369644, p369645, p369646, he369662, (gB_w (gBl (show Int32.toInt 0 = 0 by decide)) (by decide) (by decide)), bg369392', bp369644, (gB_w bp369645' (by decide) (by decide)), (gB_w bp369646' (by decide) (by decide)), (Or.inl (by decide)), r369648, r369649⟩
          have hs369667 := rSk_put hs369613 hT369666 n369663 ht369634 (by decide) (by decide) (Or.inr (Or.inl x1369594))
          have hm369668 : q366453 ∈ P369582 := RS_m hT369666 ht369617 (by decide)
          obtain ⟨q369670, q369671, p369672, p369673, he369669, ht369689, ht369674, ht369675, ht369676, ht369677, r369678, r369679, r369680, r369681, r369682, r369683, r369684, r369685, r369686, r369687, r369688⟩ := show rk_9 gm_F369583 el_F369583 q366453 (F369659 q366453) from RS_o hT369666 ht369617
          have bp369672 : gB p369672 0 1000000 := ⟨by omega, by omega⟩
          have bp369673 : gB p369673 0 1000000 := ⟨by omega, by omega⟩
          have hf369690 : gm_F369583 1 q369670 = f := (show gm_F369583 1 q369670 = gm_F369583 1 q366453 from ht369675).trans hf369618
          have hf369691 : gm_F369583 1 q369671 = f := (show gm_F369583 1 q369671 = gm_F369583 1 q366453 from ht369677).trans hf369618
          have r369692 : gm_F369583 6 (gm_F369583 1 q366453) = gm_F369583 6 f := by rw [hf369618]
          have r369693 : gm_F369583 16 (gm_F369583 1 q366453) = gm_F369583 16 f := by rw [hf369618]
          have r369694 : p369673.toInt = gm_F369583 6 f ∧ p369673.toInt ≤ 40 := by omega
          clear r369684
          have hm369695 : q369670 ∈ P369582 := RS_m hT369666 ht369674 (by decide)
          obtain ⟨⟨p369697, p369698, q369699, he369696, r369700, r369701, r369702, r369704⟩, r369703⟩ := show rk_4 D I gm_F369583 el_F369583 F369659 q369670 from RS_o hT369666 ht369674
          have bp369697 := gB_any p369697
          have bp369698 : gB p369698 0 1000000 := ⟨by omega, by omega⟩
          obtain ⟨r369705, r369706, n369713, f369714, r369707, r369708, r369709, r369710, r369711, r369712⟩ := rLC_n r369702 (by omega)
          have hm369715 : q369699 ∈ P369582 := RS_m hT369666 r369705 (by decide)
          obtain ⟨q369716, hx369717⟩ : ∃ x, x = el_F369583 q369670 (0 : Int32).toInt.toNat := ⟨_, rfl⟩
          have fq369721 : fR (F369659 q366453) 0 = q369670 := by rw [he369669]; rfl
          have hx369718 : f369714 (0 : Int32).toNatClampNeg = some q369716 := (r369711 _ (show (0 : Int32).toInt.toNat < gm_F369583 2 q369670 by first | assumption | omega)).trans (congrArg some hx369717.symm)
          have ht369722 : rKd gm_F369583 q369716 2 := by rw [hx369717]; exact (r369685 _ (by omega)).resolve_right (fun z => absurd z.1 (by omega))
          have ht369723 : rFm gm_F369583 q369716 q369670 := by rw [hx369717]; exact (r369703 _ (show (0 : Int32).toInt.toNat < gm_F369583 2 q369670 by omega)).2.1
          have hm369724 : q369716 ∈ P369582 := RS_m hT369666 ht369722 (by decide)
          obtain ⟨q369726, q369727, p369728, p369729, he369725, ht369736, ht369730, ht369731, ht369732, ht369733, ht369734, bp369728, bp369729, r369735, r369737, r369738⟩ := show rk_2 gm_F369583 q369716 (F369659 q369716) from RS_o hT369666 ht369722
          have fq369739 : fI (F369659 q369670) 2 = p369698 := by rw [he369696]; rfl
          refine Gw_callV (As := [.int 0]) (gV_ok D I) (cp_7901_Code_get l hl0 D I P369582 F369659 q366453 q369670 q369699 0 q369671 p369672 p369673 p369697 p369698 f369714 n369713 q369716 q369726 q369727 p369728 p369729 hm369668 hm369695 hm369715 hm369724 he369669 he369696 r369707 he369725 (gB_w (gBl (show Int32.toInt 0 = 0 by decide)) (by decide) (by decide)) (gB_w bp369698 (by decide) (by decide)) (by have qa0 : Int32.toInt 0 = 0 := (by decide); omega) (by have qa0 : Int32.toInt 0 = 0 := (by decide); omega) (by assumption) (by have qa0 : Int32.toInt 0 = 0 := (by decide); omega)) dr_cX17_zeros_53 ⟨wr_10_161, wr_1_15, wr_10_141, by decide, rfl, (Nat.le_of_ble_eq_true rfl), (Nat.le_of_ble_eq_true rfl)⟩ wr_10_139 wr_10_140 hm369668 he369669 rfl (show ((rPh gm_F369583 el_F369583 f - rPh γ0 el0 f) / 18) + 0 + 0 ≤ (((387 * B + 6000) - rPh γ0 el0 f) / 18) by first | omega | decide) (show (rPh gm_F369583 el_F369583 f - rPh γ0 el0 f) + 0 + 0 ≤ ((387 * B + 6000) - rPh γ0 el0 f) by first | omega | decide) (Nat.le_of_ble_eq_true rfl) (fun r369743 w369744 dc369740 ds369741 hp369742 => ?_) (fun _ _ _ _ _ z => z.elim)
          obtain ⟨rfl, rfl, hdc, hds, ht369745⟩ := hp369742
          change G _ _ _ _ _ _ _ (.ref q369716 :: _) _ _ _
          refine G_widen (cs' := ((rPh gm_F369583 el_F369583 f - rPh γ0 el0 f) / 18) + 0 + 0) (sl' := (rPh gm_F369583 el_F369583 f - rPh γ0 el0 f) + 0 + 0) (by omega) (by omega) ?_
          have hf369746 : gm_F369583 1 q369716 = f := (show gm_F369583 1 q369716 = gm_F369583 1 q369670 from ht369723).trans ((show gm_F369583 1 q369670 = gm_F369583 1 q366453 from ht369675).trans hf369618)
          have hf369747 : gm_F369583 1 q369726 = f := (show gm_F369583 1 q369726 = gm_F369583 1 q369716 from ht369731).trans hf369746
          have hf369748 : gm_F369583 1 q369727 = f := (show gm_F369583 1 q369727 = gm_F369583 1 q369716 from ht369733).trans hf369746
          have r369749 : gm_F369583 6 (gm_F369583 1 q369716) = gm_F369583 6 f := by rw [hf369746]
          have r369750 : gm_F369583 7 (gm_F369583 1 q369716) = gm_F369583 7 f := by rw [hf369746]
          have r369751 : gm_F369583 19 (gm_F369583 1 q369716) = gm_F369583 19 f := by rw [hf369746]
          have r369752 := r369735.resolve_left (by omega)
          clear r369735
          have r369753 : gm_F369583 2 (gm_F369583 14 q369716) = gm_F369583 2 q369726 := by rw [ht369736.1]
          have r369754 : (0 : Int32).toInt.toNat < gm_F369583 2 (gm_F369583 14 q366453) := by rw [ht369689.1]; omega
          have r369755 : el_F369583 (gm_F369583 14 q366453) (0 : Int32).toInt.toNat = q369716 := by rw [ht369689.1, hx369717]
          have r369756 : q369716 = q369544 := r369755.symm.trans r369626
          have sz369757 : gm_F369583 2 (gm_F369583 14 q369716) = gm_F369583 2 (gm_F369583 14 q369544) := by rw [r369756]
          have fq369758 : fR (F369659 q369716) 0 = q369726 := by rw [he369725]; rfl
          refine Gp_get 0 hm369724 he369725 dr_cX17_zeros_56 (gk_X12 D I) (Nat.le_of_ble_eq_true rfl) wr_9_220 rfl ?_
          refine G_iload_n 2 dr_cX17_zeros_59 rfl ?_
          refine G_aload 0 dr_cX17_zeros_60 rfl ?_
          have rg369759 := rM_ge hT369666 ht369617 hf369618
          have rm369760 := rM_bd hB369633
          have bd369761 := rBd_c hT369666 ht369617 hf369618 hB369633
          have rc369762 := rc_at hT369666 ht369617 hf369618
          have r369764 : gm_F369583 14 (el_F369583 (gm_F369583 14 q366453) (0 : Int32).toInt.toNat) = q369726 := by rw [r369755]; exact ht369736.1
          have r369765 := rg369759.2.2 _ r369754
          rw [r369764] at r369765
          have r369766 := bd369761.2.2.2 _ r369754
          rw [r369764] at r369766
          have r369767 : gm_F369583 7 (gm_F369583 1 q369584) = gm_F369583 7 f := by rw [x1369594]
          have hx369768 : rk_1 gm_F369583 q369584 (F369659 q369584) := ⟨0, g369392, p369642, p369643, p369644, p369645, p369646, he369662, (gB_w (gBl (show Int32.toInt 0 = 0 by decide)) (by decide) (by decide)), bg369392', bp369644, (gB_w bp369645' (by decide) (by decide)), (gB_w bp369646' (by decide) (by decide)), (Or.inl (by decide)), r369648, r369649, (Or.inl ⟨by decide, by decide⟩), (Or.inl x22369595)⟩
          refine Gt_ins (c := q366453) (f := f) hl0 dr_cX17_zeros_62 ⟨wr_10_207, wr_1_18, wr_10_210, by decide, rfl, (Nat.le_of_ble_eq_true rfl), (Nat.le_of_ble_eq_true rfl)⟩ wr_10_208 wr_10_209 hT369666 ht369730 hf369747 ht369634 x1369594 x22369595 r369635 (by omega) ht369617 hf369618 r369754 r369764 hx369768 (by omega) (by omega) (Nat.le_trans r369766 (Nat.le_trans hBk (by decide))) (rm_cs hph369636 r369765 rm369760 (by decide)) (rm_sl hph369636 r369765 rm369760 rm_s11) (Nat.le_of_ble_eq_true rfl) (fun P369769 F369763 gm_F369763 el_F369763 dc369770 ds369771 hq369772 => ?_)
          have hq369773 := hq369772
          obtain ⟨hk369774, x0369775, h2369776, hel369777, hot369778, h16369779, h18369780, hnu369781, hFx369782, hr369783, hM369784, hBB369785⟩ := hq369772
          have hk369786 := rSk_of hk369774
          have r369787 : (fI (F369763 q366453) 3).toInt = (fI (F369659 q366453) 3).toInt := by rw [rSk_F hk369786 ht369617 (by decide) (by decide)]
          obtain ⟨nu369788, nu369789, nu369790, nu369791⟩ := hnu369781
          have hT369792 := hk369786.1
          have hs369793 := rSk_tr hs369667 hk369786 (by decide) (by decide) (by decide)
          have kp369794 : F369763 q366452 = F366451 q366452 := (rSk_F hk369786 ht369616 (by decide) (by decide)).trans kp369664
          have ht369795 : rKd gm_F369763 q366452 10 := rSk_k hk369786 ht369616 (by decide) (by decide)
          have ht369796 : rKd gm_F369763 q366453 9 := rSk_k hk369786 ht369617 (by decide) (by decide)
          have hf369797 : gm_F369763 1 q366453 = f := rSk_1 hk369786 ht369617 (by decide) hf369618
          have ht369798 : rKd gm_F369763 q369544 2 := rSk_k hk369786 ht369619 (by decide) (by decide)
          have hf369799 : gm_F369763 1 q369544 = f := rSk_1 hk369786 ht369619 (by decide) hf369620
          have ht369800 : rKd gm_F369763 q369554 3 := rSk_k hk369786 ht369621 (by decide) (by decide)
          have hf369801 : gm_F369763 1 q369554 = f := rSk_1 hk369786 ht369621 (by decide) hf369622
          have ht369802 : rKd gm_F369763 q369716 2 := rSk_k hk369786 ht369722 (by decide) (by decide)
          have hf369803 : gm_F369763 1 q369716 = f := rSk_1 hk369786 ht369722 (by decide) hf369746
          have ht369804 : rKd gm_F369763 q369726 3 := rSk_k hk369786 ht369730 (by decide) (by decide)
          have hf369805 : gm_F369763 1 q369726 = f := rSk_1 hk369786 ht369730 (by decide) hf369747
          have r369806 := (rSk_s hk369786 ht369617 (by decide)).2.1
          have r369807 := hot369778 _ (by rw [rc369762.2.1]; decide) (fun q => by rw [q, show _ = 3 from ht369730] at rc369762; exact absurd rc369762.2.1 (by decide))
          have r369808 : (0 : Int32).toInt.toNat < gm_F369763 2 (gm_F369763 14 q366453) := by rw [r369806, r369807.1]; exact r369625
          have r369809 : el_F369763 (gm_F369763 14 q366453) (0 : Int32).toInt.toNat = q369544 := by rw [r369806, r369807.2]; exact r369626
          have r369810 : (0 : Int32).toInt.toNat < gm_F369763 2 (gm_F369763 14 q366453) := by rw [r369806, r369807.1]; exact r369754
          have r369811 : el_F369763 (gm_F369763 14 q366453) (0 : Int32).toInt.toNat = q369716 := by rw [r369806, r369807.2]; exact r369755
          clear bp369640 bp369641 bp369644 bp369645 bp369646 bp369642 bp369643 r369678 r369679 r369680 r369681 r369682 r369683 r369685 r369686 r369687 r369688 bp369672 bp369673 bp369728 bp369729 r369737 r369738 rg369759 rm369760 bd369761 rc369762 r369765 r369766
          clear r369647 r369648 r369649
          have r369812 : 0 < gm_F369763 6 (gm_F369763 1 q366453) := by rw [hf369797]; omega
          first | have sz369813 := (hot369778 q369554 (rT0 ht369621 (by decide)) (by assumption)).1 | skip
          have ht369814 : rKd gm_F369763 q369584 1 := x0369775
          have hB369815 : rBd gm_F369763 el_F369763 f B := hBB369785 B hB369633
          have hph369816 : rPh γ0 el0 f ≤ rPh gm_F369763 el_F369763 f := rm_ph hph369636 hr369783.2
          have pk369817 : rPh gm_F369763 el_F369763 f ≤ 387 * B + 6000 := rm_pk (rM_ge hT369792 ht369796 hf369797).1 (rM_bd hB369815)
          refine G_widen (cs' := ((rPh gm_F369763 el_F369763 f - rPh γ0 el0 f) / 18)) (sl' := (rPh gm_F369763 el_F369763 f - rPh γ0 el0 f)) (rm_wc hph369636 hr369783.1) (rm_ws hph369636 hr369783.2) ?_
          have r369818 : gm_F369763 14 q369716 = q369726 := ((rSk_s (rSk_of hk369774) ht369722 (by decide)).2.1).trans ht369736.1
          have sz369819 : gm_F369763 2 (gm_F369763 14 q369716) = gm_F369763 2 q369726 := by rw [r369818]
          have bg369393' : gB g369393 0 1999 := ⟨by omega, by omega⟩
          obtain ⟨z369820, hz369820⟩ : ∃ z : Int32, z = g369393 + Int32.ofInt 1 := ⟨_, rfl⟩
          have ez369820 : z369820.toInt = g369393.toInt + 1 := gI_inc hz369820 (by decide) bg369393' (by decide) (by decide)
          have bz369820 : gB z369820 1 2000 := ⟨by omega, by omega⟩
          refine G_iinc (L' := [(2, .int z369820), (4, .ref q369584), (3, .int g369392), (0, .ref q366452), (1, .ref q366453)]) z369820 2 dr_cX17_zeros_65 rfl hz369820.symm (Nat.le_of_ble_eq_true rfl) rfl ?_
          obtain ⟨z369821, hz369821⟩ : ∃ z : Int32, z = g369392 + Int32.ofInt 1 := ⟨_, rfl⟩
          have ez369821 : z369821.toInt = g369392.toInt + 1 := gI_inc hz369821 (by decide) bg369392' (by decide) (by decide)
          have bz369821 : gB z369821 1 2000 := ⟨by omega, by omega⟩
          refine G_iinc (L' := [(3, .int z369821), (2, .int z369820), (4, .ref q369584), (0, .ref q366452), (1, .ref q366453)]) z369821 2 dr_cX17_zeros_68 rfl hz369821.symm (Nat.le_of_ble_eq_true rfl) rfl ?_
          refine G_goto 10 dr_cX17_zeros_71 (by decide +kernel) ?_
          refine G_lv (L' := [(3, .int z369821), (2, .int z369820), (0, .ref q366452), (1, .ref q366453)]) [0, 1, 3, 4] rfl ?_
          exact ih10_369406 P369769 F369763 gm_F369763 el_F369763 z369821 z369820 (gB_w bz369821 (by decide) (by decide)) (gB_w bz369820 (by decide) (by decide)) hT369792 hs369793 hph369816 hB369815 (by omega) (by omega) (by omega) (by omega) (by omega) (by rw [r369811]; omega) kp369794 (fun k e1 e2 e3 e4 ht => kt10_369407 k e1 e2 e3 e4 (fun R c1 c2 c3 => c3 P369394 F369395 gm_F369395 el_F369395 g369392 g369393 q369469 f369474 q369498 q369544 P369582 F369583 gm_F369583 el_F369583 q369584 dc369585 ds369586 F369653 F369659 q369670 q369716 p369698 q369726 P369769 F369763 gm_F369763 el_F369763 dc369770 ds369771 z369820 z369821 k e1 e2 e3 e4 bg369392 bg369393 hT369396 hs369397 x369400 x369401 x369402 x369403 x369404 x369405 x369406 r369416 fq369464 hx369471 he369473 r369493 fq369549 hx369545 hq369591 n369655 fq369658 n369661 fq369665 fq369721 hx369717 fq369739 ht369745 fq369758 hq369773 ez369820 ez369821 (ht R c1 c2 c3))) (by omega)
  exact hlp10_369406 (((2001 : Int) - 0).toNat + 1) P366450 F366518 gm_0 el_0 0 0 (gB_w (gBl (show Int32.toInt 0 = 0 by decide)) (by decide) (by decide)) (gB_w (gBl (show Int32.toInt 0 = 0 by decide)) (by decide) (by decide)) hT366519 hs366521 hph hB (by have qa0 : Int32.toInt 0 = 0 := (by decide); omega) (by have qa0 : Int32.toInt 0 = 0 := (by decide); omega) (by have qa0 : Int32.toInt 0 = 0 := (by decide); omega) (by have qa0 : Int32.toInt 0 = 0 := (by decide); omega) (by have qa0 : Int32.toInt 0 = 0 := (by decide); omega) (by have qa : Int32.toInt 0 = 0 := (by decide); omega) kp366522 (fun k e1 e2 e3 e4 ht => ht) (Nat.lt_succ_self _)
