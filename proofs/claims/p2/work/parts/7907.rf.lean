theorem dr_cX17_zeros_0 : decode cX17_zeros 0 = .ok (.aload_n 0, 1) := by decide +kernel
theorem dr_cX17_zeros_1 : decode cX17_zeros 1 = .ok (.aload_n 1, 1) := by decide +kernel
theorem dr_cX17_zeros_2 : decode cX17_zeros 2 = .ok (.iconst 0, 1) := by decide +kernel
theorem dr_cX17_zeros_3 : decode cX17_zeros 3 = .ok (.invokevirtual 127, 3) := by decide +kernel
theorem dr_cX17_zeros_6 : decode cX17_zeros 6 = .ok (.iconst 0, 1) := by decide +kernel
theorem dr_cX17_zeros_7 : decode cX17_zeros 7 = .ok (.istore_n 2, 1) := by decide +kernel
theorem dr_cX17_zeros_8 : decode cX17_zeros 8 = .ok (.iconst 0, 1) := by decide +kernel
theorem dr_cX17_zeros_9 : decode cX17_zeros 9 = .ok (.istore_n 3, 1) := by decide +kernel
theorem dr_cX17_zeros_10 : decode cX17_zeros 10 = .ok (.iload_n 3, 1) := by decide +kernel
theorem dr_cX17_zeros_11 : decode cX17_zeros 11 = .ok (.sipush 2000, 3) := by decide +kernel
theorem dr_cX17_zeros_14 : decode cX17_zeros 14 = .ok (.if_icmp .ge 60, 3) := by decide +kernel
theorem dr_cX17_zeros_74 : decode cX17_zeros 74 = .ok (.return_, 1) := by decide +kernel
theorem dr_cX17_zeros_17 : decode cX17_zeros 17 = .ok (.aload_n 0, 1) := by decide +kernel
theorem dr_cX17_zeros_18 : decode cX17_zeros 18 = .ok (.getfield 88, 3) := by decide +kernel
theorem dr_cX17_zeros_21 : decode cX17_zeros 21 = .ok (.iconst 0, 1) := by decide +kernel
theorem dr_cX17_zeros_22 : decode cX17_zeros 22 = .ok (.aaload, 1) := by decide +kernel
theorem dr_cX17_zeros_23 : decode cX17_zeros 23 = .ok (.iload_n 3, 1) := by decide +kernel
theorem dr_cX17_zeros_24 : decode cX17_zeros 24 = .ok (.invokestatic 145, 3) := by decide +kernel
theorem dr_cX17_zeros_27 : decode cX17_zeros 27 = .ok (.ifCond .ne 6, 3) := by decide +kernel
theorem dr_cX17_zeros_30 : decode cX17_zeros 30 = .ok (.goto 38, 3) := by decide +kernel
theorem dr_cX17_zeros_68 : decode cX17_zeros 68 = .ok (.iinc 3 1, 3) := by decide +kernel
theorem dr_cX17_zeros_71 : decode cX17_zeros 71 = .ok (.goto (-61), 3) := by decide +kernel
theorem dr_cX17_zeros_33 : decode cX17_zeros 33 = .ok (.aload_n 1, 1) := by decide +kernel
theorem dr_cX17_zeros_34 : decode cX17_zeros 34 = .ok (.invokevirtual 177, 3) := by decide +kernel
theorem dr_cX17_zeros_37 : decode cX17_zeros 37 = .ok (.astore 4, 2) := by decide +kernel
theorem dr_cX17_zeros_39 : decode cX17_zeros 39 = .ok (.aload 4, 2) := by decide +kernel
theorem dr_cX17_zeros_41 : decode cX17_zeros 41 = .ok (.iconst 0, 1) := by decide +kernel
theorem dr_cX17_zeros_42 : decode cX17_zeros 42 = .ok (.putfield 39, 3) := by decide +kernel
theorem dr_cX17_zeros_45 : decode cX17_zeros 45 = .ok (.aload 4, 2) := by decide +kernel
theorem dr_cX17_zeros_47 : decode cX17_zeros 47 = .ok (.iload_n 3, 1) := by decide +kernel
theorem dr_cX17_zeros_48 : decode cX17_zeros 48 = .ok (.putfield 52, 3) := by decide +kernel
theorem dr_cX17_zeros_51 : decode cX17_zeros 51 = .ok (.aload_n 1, 1) := by decide +kernel
theorem dr_cX17_zeros_52 : decode cX17_zeros 52 = .ok (.iconst 0, 1) := by decide +kernel
theorem dr_cX17_zeros_53 : decode cX17_zeros 53 = .ok (.invokevirtual 101, 3) := by decide +kernel
theorem dr_cX17_zeros_56 : decode cX17_zeros 56 = .ok (.getfield 117, 3) := by decide +kernel
theorem dr_cX17_zeros_59 : decode cX17_zeros 59 = .ok (.iload_n 2, 1) := by decide +kernel
theorem dr_cX17_zeros_60 : decode cX17_zeros 60 = .ok (.aload 4, 2) := by decide +kernel
theorem dr_cX17_zeros_62 : decode cX17_zeros 62 = .ok (.invokevirtual 181, 3) := by decide +kernel
theorem dr_cX17_zeros_65 : decode cX17_zeros 65 = .ok (.iinc 2 1, 3) := by decide +kernel
abbrev ky_408591_SpillForgeModel_zeros : gKey := (cX17_zeros, 5, "SpillForgeModel", none, [], "zeros", fun _ _ => True)
def pg_408591_SpillForgeModel_zeros (D : va_G) (I : FieldType → ClassId) (γ0 el0 : Nat → Nat → Nat) (f : Nat) (B : Nat) (P408585 : List Nat) (F408586 : Nat → va_E) (q408587 : Nat) (q408588 : Nat) : Option Value → va_W → Nat → Nat → Prop := fun r w dc ds => ∃ (P413972 : List Nat) (F413973 : Nat → va_E) (γ el : Nat → Nat → Nat), r = none ∧ w = va_pl P413972 F413973 ∧ rSk f [101] ([1, 3, 5, 6, 8, 9, 101] ++ npk) D I P408585 F408586 γ0 el0 P413972 F413973 γ el ∧ (18 * dc + rPh γ0 el0 f ≤ rPh γ el f ∧ ds + rPh γ0 el0 f ≤ rPh γ el f) ∧ rBd γ el f B ∧ γ 6 f = γ0 6 f ∧ γ 7 f = γ0 7 f ∧ γ 16 f ≤ γ0 16 f + 2000 ∧ γ 18 f = γ0 18 f ∧ (F413973 q408587 = F408586 q408587)
set_option maxRecDepth 100000 in
set_option maxHeartbeats 1500000 in
theorem cg_408591_SpillForgeModel_zeros (l : Launch) (hl0 : l.stackTraces = false) (D : va_G) (I : FieldType → ClassId) (γ0 el0 : Nat → Nat → Nat) (f : Nat) (B : Nat) (P408585 : List Nat) (F408586 : Nat → va_E) (q408587 : Nat) (q408588 : Nat) (hT0 : RS D I P408585 F408586 γ0 el0) (hzq408587 : rKd γ0 q408587 10) (hzq408588 : rKd γ0 q408588 9) (hf0 : γ0 1 q408588 = f) (hB0 : rBd γ0 el0 f B) (hBk : B ≤ 100000) (x408589 : 0 < γ0 6 f) (x408590 : γ0 16 f + 2000 ≤ B) : CtA (gV D I) l yX17_zeros cX17_zeros 5 none 8 170 (((387 * B + 6000) - rPh γ0 el0 f) / 18) ((387 * B + 6000) - rPh γ0 el0 f) [.ref q408587, .ref q408588] (va_pl P408585 F408586) (pg_408591_SpillForgeModel_zeros D I γ0 el0 f B P408585 F408586 q408587 q408588) gNA := by
  refine CtA_of hl0 (by decide) (Nat.le_of_ble_eq_true rfl) ?_
  obtain ⟨γ, hγ0⟩ : ∃ z, z = γ0 := ⟨_, rfl⟩
  obtain ⟨el, hel0⟩ : ∃ z, z = el0 := ⟨_, rfl⟩
  have hT : RS D I P408585 F408586 γ el := by rw [hγ0, hel0]; exact hT0
  have hst : rSk f [101] ([1, 3, 5, 6, 8, 9, 101] ++ npk) D I P408585 F408586 γ0 el0 P408585 F408586 γ el := by rw [hγ0, hel0]; exact rSk_rf hT0
  have hph : rPh γ0 el0 f ≤ rPh γ el f := by rw [hγ0, hel0]; exact Nat.le_refl _
  have hB : rBd γ el f B := by rw [hγ0, hel0]; exact hB0
  have htq408587 : rKd γ q408587 10 := by rw [hγ0]; exact hzq408587
  have htq408588 : rKd γ q408588 9 := by rw [hγ0]; exact hzq408588
  have hf1 : γ 1 q408588 = f := by rw [hγ0]; exact hf0
  have x408589n : 0 < γ 6 f := by rw [hγ0]; exact x408589
  have x408590n : γ 16 f + 2000 ≤ B := by rw [hγ0]; exact x408590
  have pk408592 : rPh γ el f ≤ 387 * B + 6000 := rm_pk (rM_ge hT htq408588 hf1).1 (rM_bd hB)
  refine G_widen (cs' := ((rPh γ el f - rPh γ0 el0 f) / 18)) (sl' := (rPh γ el f - rPh γ0 el0 f)) (Nat.zero_le _) (Nat.zero_le _) ?_
  have r408593 : 0 < γ 6 (γ 1 q408588) := by rw [hf1]; omega
  have r408594 : γ 6 f = γ0 6 f := by rw [hγ0]
  have r408595 : γ 7 f = γ0 7 f := by rw [hγ0]
  have r408596 : γ 16 f = γ0 16 f := by rw [hγ0]
  have r408597 : γ 18 f = γ0 18 f := by rw [hγ0]
  have r408598 : γ 19 f = γ0 19 f := by rw [hγ0]
  refine G_aload_n 0 dr_cX17_zeros_0 rfl ?_
  refine G_aload_n 1 dr_cX17_zeros_1 rfl ?_
  refine G_iconst 0 dr_cX17_zeros_2 (by decide +kernel) ?_
  have hm408604 : q408587 ∈ P408585 := RS_m hT htq408587 (by decide)
  obtain ⟨q408606, q408607, p408608, p408609, p408610, p408611, p408612, p408613, p408614, p408615, p408616, p408617, p408618, p408619, p408620, p408621, p408622, he408605, hB408649, ht408623, ht408624, ht408625, ht408626, ht408627, ht408628, ht408629, ht408630, ht408631, ht408632, ht408633, ht408634, ht408635, ht408636, ht408637, ht408638, ht408639, ht408640, ht408641, ht408642, ht408643, ht408644, ht408645, ht408646, hB408650⟩ := show rk_10 γ (F408586 q408587) from RS_o hT htq408587
  refine Gw_callV (As := [.ref q408588, .int 0]) (gV_ok D I) (ct_217949_SpillForgeModel_findLive l hl0 D I γ el P408585 F408586 q408587 q408588 0 hT htq408587 htq408588 (gB_w (gBl (show Int32.toInt 0 = 0 by decide)) (by decide) (by decide)) (by omega)) dr_cX17_zeros_3 ⟨wr_10_156, wr_1_14, wr_10_159, by decide, rfl, (Nat.le_of_ble_eq_true rfl), (Nat.le_of_ble_eq_true rfl)⟩ wr_10_158 wr_p_94 hm408604 he408605 rfl (rm_zc pk408592) (rm_zs pk408592) (Nat.le_of_ble_eq_true rfl) (fun r408602 w408603 dc408599 ds408600 hp408601 => ?_) (fun _ _ _ _ _ z => z.elim)
  obtain ⟨F408652, rfl, rfl, hT408653, hs408654, hdc, hds, x408651⟩ := hp408601
  have hs408655 := rSk_str hst hT408653 hs408654 (by decide) (by decide) (by decide)
  have kp408656 : F408652 q408587 = F408586 q408587 := x408651
  have he408657 : F408652 q408587 = .inr (22, [.ref (γ 9 0), .ref (γ 9 1), .ref (γ 9 2), .ref (γ 9 3), .ref (γ 9 4), .ref (γ 9 5), .ref (γ 9 6), .ref (γ 9 7), .ref (γ 9 8), .int p408608, .int p408609, .int p408610, .int p408611, .int p408612, .int p408613, .ref (γ 9 15), .ref (γ 9 16), .ref (γ 9 17), .ref (γ 9 18), .ref (γ 9 19), .ref (γ 9 20), .ref (γ 9 21), .ref (γ 9 22), .int p408614, .int p408615, .int p408616, .int p408617, .int p408618, .ref q408606, .ref (γ 9 29), .int p408619, .ref (γ 9 31), .int p408620, .int p408621, .int p408622, .ref q408607]) := (x408651).trans he408605
  change G _ _ _ _ _ _ _ _ _ _ _
  refine G_widen (cs' := ((rPh γ el f - rPh γ0 el0 f) / 18)) (sl' := (rPh γ el f - rPh γ0 el0 f)) (rm_d0 hdc) (rm_d0 hds) ?_
  refine G_iconst 0 dr_cX17_zeros_6 (by decide +kernel) ?_
  refine G_istore_n (L' := [(2, .int 0), (0, .ref q408587), (1, .ref q408588)]) dr_cX17_zeros_7 (Nat.le_of_ble_eq_true rfl) rfl ?_
  refine G_iconst 0 dr_cX17_zeros_8 (by decide +kernel) ?_
  refine G_istore_n (L' := [(3, .int 0), (2, .int 0), (0, .ref q408587), (1, .ref q408588)]) dr_cX17_zeros_9 (Nat.le_of_ble_eq_true rfl) rfl ?_
  have hlp10_413569 : ∀ (n10_413569 : Nat) (P413557 : List Nat) (F413558 : Nat → va_E) (γ el : Nat → Nat → Nat) (g413555 : Int32) (g413556 : Int32), gB g413555 0 2000 → RS D I P413557 F413558 γ el → rSk f [101] ([1, 3, 5, 6, 8, 9, 101] ++ npk) D I P408585 F408586 γ0 el0 P413557 F413558 γ el → rPh γ0 el0 f ≤ rPh γ el f → rBd γ el f B → γ 6 f = γ0 6 f → γ 7 f = γ0 7 f → γ 18 f = γ0 18 f → γ 16 f ≤ γ0 16 f + (g413556.toInt : Int).toNat → g413556.toInt ≤ g413555.toInt → (g413556.toInt : Int) ≤ γ 2 (γ 14 (el (γ 14 q408588) (0 : Int32).toInt.toNat)) → (F413558 q408587 = F408586 q408587) → ((2001 : Int) - g413555.toInt).toNat < n10_413569 → G (gV D I) l (gRm 8 170 (((387 * B + 6000) - rPh γ0 el0 f) / 18) ((387 * B + 6000) - rPh γ0 el0 f)) (gMA (gV D I) (pg_408591_SpillForgeModel_zeros D I γ0 el0 f B P408585 F408586 q408587 q408588) gNA (((387 * B + 6000) - rPh γ0 el0 f) / 18) ((387 * B + 6000) - rPh γ0 el0 f)) ky_408591_SpillForgeModel_zeros 10 [(3, .int g413555), (2, .int g413556), (0, .ref q408587), (1, .ref q408588)] [] (va_pl P413557 F413558) ((rPh γ el f - rPh γ0 el0 f) / 18) (rPh γ el f - rPh γ0 el0 f) := by
    intro n10_413569
    induction n10_413569 with
    | zero => intro P413557 F413558 γ el g413555 g413556 bg413555 hT413559 hs413560 hph413561 hB413562 x413563 x413564 x413565 x413566 x413567 x413568 x413569 hm10_413569; exact absurd hm10_413569 (Nat.not_lt_zero _)
    | succ n10_413569 ih10_413569 =>
      intro P413557 F413558 γ el g413555 g413556 bg413555 hT413559 hs413560 hph413561 hB413562 x413563 x413564 x413565 x413566 x413567 x413568 x413569 hm10_413569
      have bg413556 := gB_any g413556
      clear r408594 r408595 r408596 r408597 r408598
      have ht413571 : rKd γ q408587 10 := rSk_k hs413560 hzq408587 (by decide) (by decide)
      have ht413572 : rKd γ q408588 9 := rSk_k hs413560 hzq408588 (by decide) (by decide)
      have hf413573 : γ 1 q408588 = f := rSk_1 hs413560 hzq408588 (by decide) hf0
      have pk413574 : rPh γ el f ≤ 387 * B + 6000 := rm_pk (rM_ge hT413559 ht413572 hf413573).1 (rM_bd hB413562)
      have r413575 : 0 < γ 6 (γ 1 q408588) := by rw [hf413573]; omega
      refine G_iload_n 0 dr_cX17_zeros_10 rfl ?_
      refine G_sipush 2000 dr_cX17_zeros_11 (by decide +kernel) ?_
      refine G_icmp_ge 74 dr_cX17_zeros_14 (by decide +kernel) (fun hc413576 => ?_) (fun hc413576 => ?_)
      · have r413577 : 2000 ≤ g413555.toInt := gj_leL hc413576 (show Int32.toInt 2000 = 2000 by decide)
        have bg413555' : gB g413555 2000 2000 := ⟨by omega, by omega⟩
        exact G_vretA dr_cX17_zeros_74 rfl (show ((rPh γ el f - rPh γ0 el0 f) / 18) ≤ (((387 * B + 6000) - rPh γ0 el0 f) / 18) by omega) (show (rPh γ el f - rPh γ0 el0 f) ≤ ((387 * B + 6000) - rPh γ0 el0 f) by omega) ⟨P413557, F413558, γ, el, rfl, rfl, hs413560, ⟨by omega, by omega⟩, hB413562, (by omega), (by omega), (by omega), (by omega), x413569⟩
      · have r413578 : g413555.toInt < 2000 := gj_nleL hc413576 (show Int32.toInt 2000 = 2000 by decide)
        have bg413555' : gB g413555 0 1999 := ⟨by omega, by omega⟩
        refine G_aload_n 2 dr_cX17_zeros_17 rfl ?_
        have hm413579 : q408587 ∈ P413557 := RS_m hT413559 ht413571 (by decide)
        obtain ⟨q413581, q413582, p413583, p413584, p413585, p413586, p413587, p413588, p413589, p413590, p413591, p413592, p413593, p413594, p413595, p413596, p413597, he413580, hB413624, ht413598, ht413599, ht413600, ht413601, ht413602, ht413603, ht413604, ht413605, ht413606, ht413607, ht413608, ht413609, ht413610, ht413611, ht413612, ht413613, ht413614, ht413615, ht413616, ht413617, ht413618, ht413619, ht413620, ht413621, hB413625⟩ := show rk_10 γ (F413558 q408587) from RS_o hT413559 ht413571
        refine Gp_get 0 hm413579 he413580 dr_cX17_zeros_18 (gk_X17 D I) (Nat.le_of_ble_eq_true rfl) wr_7_74 rfl ?_
        refine G_iconst 0 dr_cX17_zeros_21 (by decide +kernel) ?_
        have hm413626 : (γ 9 0) ∈ P413557 := RS_m hT413559 ht413600 (by decide)
        obtain ⟨f413628, he413627, hg413629⟩ := show rk_12 I γ (F413558 (γ 9 0)) from RS_o hT413559 ht413600
        obtain ⟨q413630, hx413632⟩ : ∃ x, x = γ 10 (0 : Int32).toInt.toNat := ⟨_, rfl⟩
        have ht413631 : rKd γ q413630 11 := by rw [hx413632]; exact (hg413629 _ (by decide)).2.1
        refine Gp_aald 5 hm413626 he413627 dr_cX17_zeros_22 rfl rfl (gB_in (gBl (show Int32.toInt 0 = 0 by decide)) (by decide) (by decide)) ?_
        rw [show f413628 (0 : Int32).toNatClampNeg = some q413630 from (hg413629 _ (by decide)).1.trans (by rw [hx413632])]
        change G _ _ _ _ _ _ _ (.ref q413630 :: _) _ _ _
        refine G_iload_n 0 dr_cX17_zeros_23 rfl ?_
        have hm413633 : q413630 ∈ P413557 := RS_m hT413559 ht413631 (by decide)
        obtain ⟨f413635, he413634, wf413635⟩ := show rk_11 I (F413558 q413630) from RS_o hT413559 ht413631
        refine Gw_callS (As := [.ref q413630, .int g413555]) (gV_ok D I) (cp_1838_SpillForgeModel_has l hl0 D I P413557 F413558 q413630 g413555 f413635 hm413633 he413634 (gB_w bg413555' (by decide) (by decide))) dr_cX17_zeros_24 ⟨wr_10_203, wr_1_14, wr_10_205, by decide, rfl, (Nat.le_of_ble_eq_true rfl), (Nat.le_of_ble_eq_true rfl)⟩ wr_10_204 (rm_zc pk413574) (rm_zs pk413574) (Nat.le_of_ble_eq_true rfl) (fun r413639 w413640 dc413636 ds413637 hp413638 => ?_) (fun _ _ _ _ _ z => z.elim)
        rcases hp413638 with ⟨z413641, z413642, rfl, rfl, hdc, hds, r413643, r413644, r413645, r413646⟩ | ⟨z413647, z413648, rfl, rfl, hdc, hds, r413649, r413650, r413651, r413652⟩
        · change G _ _ _ _ _ _ _ (.int 0 :: _) _ _ _
          refine G_widen (cs' := ((rPh γ el f - rPh γ0 el0 f) / 18)) (sl' := (rPh γ el f - rPh γ0 el0 f)) (rm_d0 hdc) (rm_d0 hds) ?_
          refine G_if_ne 33 dr_cX17_zeros_27 (by decide +kernel) (fun hc => absurd hc (by decide)) (fun _ => ?_)
          refine G_goto 68 dr_cX17_zeros_30 (by decide +kernel) ?_
          obtain ⟨z413654, hz413654⟩ : ∃ z : Int32, z = g413555 + Int32.ofInt 1 := ⟨_, rfl⟩
          have ez413654 : z413654.toInt = g413555.toInt + 1 := gI_inc hz413654 (by decide) bg413555' (by decide) (by decide)
          have bz413654 : gB z413654 1 2000 := ⟨by omega, by omega⟩
          refine G_iinc (L' := [(3, .int z413654), (2, .int g413556), (0, .ref q408587), (1, .ref q408588)]) z413654 0 dr_cX17_zeros_68 rfl hz413654.symm (Nat.le_of_ble_eq_true rfl) rfl ?_
          refine G_goto 10 dr_cX17_zeros_71 (by decide +kernel) ?_
          exact ih10_413569 P413557 F413558 γ el z413654 g413556 (gB_w bz413654 (by decide) (by decide)) hT413559 hs413560 hph413561 hB413562 (by omega) (by omega) (by omega) (by omega) (by omega) (by omega) x413569 (by omega)
        · change G _ _ _ _ _ _ _ (.int 1 :: _) _ _ _
          refine G_widen (cs' := ((rPh γ el f - rPh γ0 el0 f) / 18)) (sl' := (rPh γ el f - rPh γ0 el0 f)) (rm_d0 hdc) (rm_d0 hds) ?_
          refine G_if_ne 33 dr_cX17_zeros_27 (by decide +kernel) (fun _ => ?_) (fun hc => absurd hc (by decide))
          have hm413655 : q408588 ∈ P413557 := RS_m hT413559 ht413572 (by decide)
          obtain ⟨q413657, q413658, p413659, p413660, he413656, ht413676, ht413661, ht413662, ht413663, ht413664, r413665, r413666, r413667, r413668, r413669, r413670, r413671, r413672, r413673, r413674, r413675⟩ := show rk_9 γ el q408588 (F413558 q408588) from RS_o hT413559 ht413572
          have bp413659 : gB p413659 0 1000000 := ⟨by omega, by omega⟩
          have bp413660 : gB p413660 0 1000000 := ⟨by omega, by omega⟩
          have hf413677 : γ 1 q413657 = f := (show γ 1 q413657 = γ 1 q408588 from ht413662).trans hf413573
          have hf413678 : γ 1 q413658 = f := (show γ 1 q413658 = γ 1 q408588 from ht413664).trans hf413573
          have r413679 : γ 6 (γ 1 q408588) = γ 6 f := by rw [hf413573]
          have r413680 : γ 16 (γ 1 q408588) = γ 16 f := by rw [hf413573]
          have r413681 : p413660.toInt = γ 6 f ∧ p413660.toInt ≤ 40 := by omega
          clear r413671
          have hm413682 : q413657 ∈ P413557 := RS_m hT413559 ht413661 (by decide)
          obtain ⟨⟨p413684, p413685, q413686, he413683, r413687, r413688, r413689, r413691⟩, r413690⟩ := show rk_4 D I γ el F413558 q413657 from RS_o hT413559 ht413661
          have bp413684 := gB_any p413684
          have bp413685 : gB p413685 0 1000000 := ⟨by omega, by omega⟩
          obtain ⟨r413692, r413693, n413700, f413701, r413694, r413695, r413696, r413697, r413698, r413699⟩ := rLC_n r413689 (by omega)
          have hm413702 : q413686 ∈ P413557 := RS_m hT413559 r413692 (by decide)
          obtain ⟨q413703, hx413704⟩ : ∃ x, x = el q413657 (0 : Int32).toInt.toNat := ⟨_, rfl⟩
          have hx413705 : f413701 (0 : Int32).toNatClampNeg = some q413703 := (r413698 _ (show (0 : Int32).toInt.toNat < γ 2 q413657 by first | assumption | omega)).trans (by rw [hx413704])
          have ht413708 : rKd γ q413703 2 := by rw [hx413704]; exact (r413672 _ (by omega)).resolve_right (fun z => absurd z.1 (by omega))
          have ht413709 : rFm γ q413703 q413657 := by rw [hx413704]; exact (r413690 _ (show (0 : Int32).toInt.toNat < γ 2 q413657 by omega)).2.1
          have hm413710 : q413703 ∈ P413557 := RS_m hT413559 ht413708 (by decide)
          obtain ⟨q413712, q413713, p413714, p413715, he413711, ht413722, ht413716, ht413717, ht413718, ht413719, ht413720, bp413714, bp413715, r413721, r413723, r413724⟩ := show rk_2 γ q413703 (F413558 q413703) from RS_o hT413559 ht413708
          have hf413725 : γ 1 q413703 = f := (show γ 1 q413703 = γ 1 q413657 from ht413709).trans ((show γ 1 q413657 = γ 1 q408588 from ht413662).trans hf413573)
          have hf413726 : γ 1 q413712 = f := (show γ 1 q413712 = γ 1 q413703 from ht413717).trans hf413725
          have hf413727 : γ 1 q413713 = f := (show γ 1 q413713 = γ 1 q413703 from ht413719).trans hf413725
          have r413728 : γ 6 (γ 1 q413703) = γ 6 f := by rw [hf413725]
          have r413729 : γ 7 (γ 1 q413703) = γ 7 f := by rw [hf413725]
          have r413730 : γ 19 (γ 1 q413703) = γ 19 f := by rw [hf413725]
          have r413731 := r413721.resolve_left (by omega)
          clear r413721
          have r413732 : γ 2 (γ 14 q413703) = γ 2 q413712 := by rw [ht413722.1]
          have r413733 : (0 : Int32).toInt.toNat < γ 2 (γ 14 q408588) := by rw [ht413676.1]; omega
          have r413734 : el (γ 14 q408588) (0 : Int32).toInt.toNat = q413703 := by rw [ht413676.1, hx413704]
          have sz413735 : γ 2 (γ 14 (el (γ 14 q408588) (0 : Int32).toInt.toNat)) = γ 2 (γ 14 q413703) := by rw [r413734]
          refine G_aload_n 3 dr_cX17_zeros_33 rfl ?_
          have rg413736 := rM_ge hT413559 ht413572 hf413573
          have rm413737 := rM_bd hB413562
          have bd413738 := rBd_c hT413559 ht413572 hf413573 hB413562
          have rc413739 := rc_at hT413559 ht413572 hf413573
          obtain ⟨q413746, hl413747⟩ : ∃ z, z = γ 14 q413703 := ⟨_, rfl⟩
          have hl413748 : γ 0 q413746 = 3 ∨ γ 0 q413746 = 103 := by rw [hl413747, ← r413734]; exact (RS_lst hT413559 rc413739.2.1 r413733).1
          refine Gt_row (c := q408588) (f := f) hl0 dr_cX17_zeros_34 ⟨wr_10_206, wr_1_15, wr_10_82, by decide, rfl, (Nat.le_of_ble_eq_true rfl), (Nat.le_of_ble_eq_true rfl)⟩ wr_10_80 wr_10_81 hT413559 ht413572 hf413573 (Nat.le_trans bd413738.2.2.1 (Nat.le_trans hBk (by decide))) (rm_cs hph413561 rg413736.2.1 rm413737 (by decide)) (rm_sl hph413561 rg413736.2.1 rm413737 rm_s18) (Nat.le_of_ble_eq_true rfl) (fun P413740 F413741 γ el q413742 dc413743 ds413744 hq413745 => ?_)
          obtain ⟨hk413749, x0413750, x1413751, x22413752, x8413753, h16413754, h18413755, hnu413756, hot413757, h45413758, hf0413759, ⟨hr1413760, hr2413761⟩, hM413762, hBB413763⟩ := hq413745
          have hk413764 := rSk_of hk413749
          have hT413765 := hk413764.1
          have hs413766 := rSk_tr hs413560 hk413764 (by decide) (by decide) (by decide)
          have kp413767 : F413741 q408587 = F408586 q408587 := (rSk_F hk413764 ht413571 (by decide) (by decide)).trans x413569
          have r413768 := rSk_F hk413764 ht413571 (by decide) (by decide)
          have ht413769 : rKd γ q408587 10 := rSk_k hk413764 ht413571 (by decide) (by decide)
          have ht413770 : rKd γ q408588 9 := rSk_k hk413764 ht413572 (by decide) (by decide)
          have hf413771 : γ 1 q408588 = f := rSk_1 hk413764 ht413572 (by decide) hf413573
          have ht413772 : rKd γ q413703 2 := rSk_k hk413764 ht413708 (by decide) (by decide)
          have hf413773 : γ 1 q413703 = f := rSk_1 hk413764 ht413708 (by decide) hf413725
          have ht413774 : rKd γ q413712 3 := rSk_k hk413764 ht413716 (by decide) (by decide)
          have hf413775 : γ 1 q413712 = f := rSk_1 hk413764 ht413716 (by decide) hf413726
          have r413776 := (rSk_s hk413764 ht413572 (by decide)).2.1
          have r413777 := hot413757 _ (by rw [rc413739.2.1]; decide) (by rw [rc413739.2.1]; decide)
          have r413778 : (0 : Int32).toInt.toNat < γ 2 (γ 14 q408588) := by rw [r413776, r413777.1]; exact r413733
          have r413779 : el (γ 14 q408588) (0 : Int32).toInt.toNat = q413703 := by rw [r413776, r413777.2]; exact r413734
          clear r413665 r413666 r413667 r413668 r413669 r413670 r413672 r413673 r413674 r413675 bp413659 bp413660 bp413714 bp413715 r413723 r413724 rg413736 rm413737 bd413738 rc413739
          have r413780 : 0 < γ 6 (γ 1 q408588) := by rw [hf413771]; omega
          have sz413781 := (rSk_s hk413764 ht413708 (by decide)).2.1
          have sz413782 := congrArg (γ 2) sz413781
          have sz413783 := (hot413757 q413746 (by omega) (by omega)).1
          rw [hl413747] at sz413783
          clear hl413748
          have sz413784 := (hot413757 q413712 (rT0 ht413716 (by decide)) (by rw [show _ = 3 from ht413716]; decide)).1
          obtain ⟨nu413785, nu413786, nu413787, nu413788⟩ := hnu413756
          have r413789 := hf0413759.2.2
          have hB413790 : rBd γ el f B := hBB413763 B (by omega) hB413562
          have ht413791 : rKd γ q413742 101 := x0413750
          have r413792 : γ 8 q413742 < γ 16 f := rm_x8 x8413753 h16413754 rfl
          have hph413793 : rPh γ0 el0 f ≤ rPh γ el f := rm_ph hph413561 hr2413761
          have pk413794 : rPh γ el f ≤ 387 * B + 6000 := rm_pk (rM_ge hT413765 ht413770 hf413771).1 (rM_bd hB413790)
          have hm413795 : q413742 ∈ P413740 := RS_m hT413765 ht413791 (by decide)
          obtain ⟨p413797, p413798, p413799, p413800, p413801, p413802, p413803, he413796, bp413797, bp413798, bp413801, bp413802, bp413803, r413804, r413805, r413806⟩ := show rkR (F413741 q413742) from RS_o hT413765 ht413791
          have bp413799 := gB_any p413799
          have bp413800 := gB_any p413800
          have r413807 : γ 7 (γ 1 q413742) = γ 7 f := by rw [x1413751]
          have r413808 : p413802.toInt = 0 := by have z := hf0413759.1; rw [he413796] at z; exact z
          have bp413802' : gB p413802 0 0 := ⟨by omega, by omega⟩
          have r413809 : p413803.toInt = 0 := by have z := hf0413759.2.1; rw [he413796] at z; exact z
          have bp413803' : gB p413803 0 0 := ⟨by omega, by omega⟩
          refine G_widen (cs' := ((rPh γ el f - rPh γ0 el0 f) / 18)) (sl' := (rPh γ el f - rPh γ0 el0 f)) (rm_wc hph413561 hr1413760) (rm_ws hph413561 hr2413761) ?_
          refine G_astore (L' := [(4, .ref q413742), (3, .int g413555), (2, .int g413556), (0, .ref q408587), (1, .ref q408588)]) dr_cX17_zeros_37 (Nat.le_of_ble_eq_true rfl) rfl ?_
          refine G_aload 0 dr_cX17_zeros_39 rfl ?_
          refine G_iconst 0 dr_cX17_zeros_41 (by decide +kernel) ?_
          refine Gp_put 0 hm413795 he413796 dr_cX17_zeros_42 (gk_X15 D I) (Nat.le_of_ble_eq_true rfl) wr_9_177 rfl rfl rfl (Nat.le_of_ble_eq_true rfl) (fun F413810 e413811 n413812 => ?_)
          have he413813 : F413810 q413742 = .inr (20, [.int 0, .int p413798, .int p413799, .int p413800, .int p413801, .int p413802, .int p413803]) := e413811
          have kp413814 : F413810 q408587 = F408586 q408587 := (n413812 q408587 (rn_ty ht413769 ht413791 (by decide))).trans kp413767
          refine G_aload 0 dr_cX17_zeros_45 rfl ?_
          refine G_iload_n 1 dr_cX17_zeros_47 rfl ?_
          refine Gp_put 1 hm413795 he413813 dr_cX17_zeros_48 (gk_X15 D I) (Nat.le_of_ble_eq_true rfl) wr_9_182 rfl rfl rfl (Nat.le_of_ble_eq_true rfl) (fun F413815 e413816 n413817 => ?_)
          have he413818 : F413815 q413742 = .inr (20, [.int 0, .int g413555, .int p413799, .int p413800, .int p413801, .int p413802, .int p413803]) := e413816
          have n413819 : ∀ b, b ≠ q413742 → F413815 b = F413741 b := fun b hb => (n413817 b hb).trans (n413812 b hb)
          have kp413820 : F413815 q408587 = F408586 q408587 := (n413817 q408587 (rn_ty ht413769 ht413791 (by decide))).trans kp413814
          refine G_aload_n 4 dr_cX17_zeros_51 rfl ?_
          refine G_iconst 0 dr_cX17_zeros_52 (by decide +kernel) ?_
          have hT413821 : RS D I P413740 F413815 γ el := RS_set hT413765 n413819 ht413791 (by decide) ⟨0, g413555, p413799, p413800, p413801, p413802, p413803, he413818, (gB_w (gBl (show Int32.toInt 0 = 0 by decide)) (by decide) (by decide)), bg413555', bp413801, (gB_w bp413802' (by decide) (by decide)), (gB_w bp413803' (by decide) (by decide)), (Or.inl (by decide)), r413805, r413806⟩
          have hs413822 := rSk_put hs413766 hT413821 n413819 ht413791 (by decide) (by decide)
          have hm413823 : q408588 ∈ P413740 := RS_m hT413821 ht413770 (by decide)
          obtain ⟨q413825, q413826, p413827, p413828, he413824, ht413844, ht413829, ht413830, ht413831, ht413832, r413833, r413834, r413835, r413836, r413837, r413838, r413839, r413840, r413841, r413842, r413843⟩ := show rk_9 γ el q408588 (F413815 q408588) from RS_o hT413821 ht413770
          have bp413827 : gB p413827 0 1000000 := ⟨by omega, by omega⟩
          have bp413828 : gB p413828 0 1000000 := ⟨by omega, by omega⟩
          have hf413845 : γ 1 q413825 = f := (show γ 1 q413825 = γ 1 q408588 from ht413830).trans hf413771
          have hf413846 : γ 1 q413826 = f := (show γ 1 q413826 = γ 1 q408588 from ht413832).trans hf413771
          have r413847 : γ 6 (γ 1 q408588) = γ 6 f := by rw [hf413771]
          have r413848 : γ 16 (γ 1 q408588) = γ 16 f := by rw [hf413771]
          have r413849 : p413828.toInt = γ 6 f ∧ p413828.toInt ≤ 40 := by omega
          clear r413839
          have hm413850 : q413825 ∈ P413740 := RS_m hT413821 ht413829 (by decide)
          obtain ⟨⟨p413852, p413853, q413854, he413851, r413855, r413856, r413857, r413859⟩, r413858⟩ := show rk_4 D I γ el F413815 q413825 from RS_o hT413821 ht413829
          have bp413852 := gB_any p413852
          have bp413853 : gB p413853 0 1000000 := ⟨by omega, by omega⟩
          obtain ⟨r413860, r413861, n413868, f413869, r413862, r413863, r413864, r413865, r413866, r413867⟩ := rLC_n r413857 (by omega)
          have hm413870 : q413854 ∈ P413740 := RS_m hT413821 r413860 (by decide)
          obtain ⟨q413871, hx413872⟩ : ∃ x, x = el q413825 (0 : Int32).toInt.toNat := ⟨_, rfl⟩
          have hx413873 : f413869 (0 : Int32).toNatClampNeg = some q413871 := (r413866 _ (show (0 : Int32).toInt.toNat < γ 2 q413825 by first | assumption | omega)).trans (by rw [hx413872])
          have ht413876 : rKd γ q413871 2 := by rw [hx413872]; exact (r413840 _ (by omega)).resolve_right (fun z => absurd z.1 (by omega))
          have ht413877 : rFm γ q413871 q413825 := by rw [hx413872]; exact (r413858 _ (show (0 : Int32).toInt.toNat < γ 2 q413825 by omega)).2.1
          have hm413878 : q413871 ∈ P413740 := RS_m hT413821 ht413876 (by decide)
          obtain ⟨q413880, q413881, p413882, p413883, he413879, ht413890, ht413884, ht413885, ht413886, ht413887, ht413888, bp413882, bp413883, r413889, r413891, r413892⟩ := show rk_2 γ q413871 (F413815 q413871) from RS_o hT413821 ht413876
          refine Gw_callV (As := [.int 0]) (gV_ok D I) (cp_7723_Code_get l hl0 D I P413740 F413815 q408588 q413825 q413854 0 q413826 p413827 p413828 p413852 p413853 f413869 n413868 q413871 q413880 q413881 p413882 p413883 hm413823 hm413850 hm413870 hm413878 he413824 he413851 r413862 he413879 (gB_w (gBl (show Int32.toInt 0 = 0 by decide)) (by decide) (by decide)) (gB_w bp413853 (by decide) (by decide)) (by have qa0 : Int32.toInt 0 = 0 := (by decide); omega) (by have qa0 : Int32.toInt 0 = 0 := (by decide); omega) (by assumption) (by have qa0 : Int32.toInt 0 = 0 := (by decide); omega)) dr_cX17_zeros_53 ⟨wr_10_161, wr_1_15, wr_10_141, by decide, rfl, (Nat.le_of_ble_eq_true rfl), (Nat.le_of_ble_eq_true rfl)⟩ wr_10_139 wr_10_140 hm413823 he413824 rfl (show ((rPh γ el f - rPh γ0 el0 f) / 18) + 0 + 0 ≤ (((387 * B + 6000) - rPh γ0 el0 f) / 18) by first | omega | decide) (show (rPh γ el f - rPh γ0 el0 f) + 0 + 0 ≤ ((387 * B + 6000) - rPh γ0 el0 f) by first | omega | decide) (Nat.le_of_ble_eq_true rfl) (fun r413896 w413897 dc413893 ds413894 hp413895 => ?_) (fun _ _ _ _ _ z => z.elim)
          obtain ⟨rfl, rfl, hdc, hds⟩ := hp413895
          change G _ _ _ _ _ _ _ (.ref q413871 :: _) _ _ _
          refine G_widen (cs' := ((rPh γ el f - rPh γ0 el0 f) / 18) + 0 + 0) (sl' := (rPh γ el f - rPh γ0 el0 f) + 0 + 0) (by omega) (by omega) ?_
          have hf413898 : γ 1 q413871 = f := (show γ 1 q413871 = γ 1 q413825 from ht413877).trans ((show γ 1 q413825 = γ 1 q408588 from ht413830).trans hf413771)
          have hf413899 : γ 1 q413880 = f := (show γ 1 q413880 = γ 1 q413871 from ht413885).trans hf413898
          have hf413900 : γ 1 q413881 = f := (show γ 1 q413881 = γ 1 q413871 from ht413887).trans hf413898
          have r413901 : γ 6 (γ 1 q413871) = γ 6 f := by rw [hf413898]
          have r413902 : γ 7 (γ 1 q413871) = γ 7 f := by rw [hf413898]
          have r413903 : γ 19 (γ 1 q413871) = γ 19 f := by rw [hf413898]
          have r413904 := r413889.resolve_left (by omega)
          clear r413889
          have r413905 : γ 2 (γ 14 q413871) = γ 2 q413880 := by rw [ht413890.1]
          have r413906 : (0 : Int32).toInt.toNat < γ 2 (γ 14 q408588) := by rw [ht413844.1]; omega
          have r413907 : el (γ 14 q408588) (0 : Int32).toInt.toNat = q413871 := by rw [ht413844.1, hx413872]
          have r413908 : q413871 = q413703 := r413907.symm.trans r413779
          have sz413909 : γ 2 (γ 14 q413871) = γ 2 (γ 14 q413703) := by rw [r413908]
          refine Gp_get 0 hm413878 he413879 dr_cX17_zeros_56 (gk_X12 D I) (Nat.le_of_ble_eq_true rfl) wr_9_220 rfl ?_
          refine G_iload_n 2 dr_cX17_zeros_59 rfl ?_
          refine G_aload 0 dr_cX17_zeros_60 rfl ?_
          have rg413910 := rM_ge hT413821 ht413770 hf413771
          have rm413911 := rM_bd hB413790
          have bd413912 := rBd_c hT413821 ht413770 hf413771 hB413790
          have rc413913 := rc_at hT413821 ht413770 hf413771
          have r413915 : γ 14 (el (γ 14 q408588) (0 : Int32).toInt.toNat) = q413880 := by rw [r413907]; exact ht413890.1
          have r413916 := rg413910.2.2 _ r413906
          rw [r413915] at r413916
          have r413917 := bd413912.2.2.2 _ r413906
          rw [r413915] at r413917
          have r413918 : γ 7 (γ 1 q413742) = γ 7 f := by rw [x1413751]
          have hx413919 : rk_1 γ q413742 (F413815 q413742) := ⟨0, g413555, p413799, p413800, p413801, p413802, p413803, he413818, (gB_w (gBl (show Int32.toInt 0 = 0 by decide)) (by decide) (by decide)), bg413555', bp413801, (gB_w bp413802' (by decide) (by decide)), (gB_w bp413803' (by decide) (by decide)), (Or.inl (by decide)), r413805, r413806, (Or.inl ⟨by decide, by decide⟩)⟩
          refine Gt_ins (c := q408588) (f := f) hl0 dr_cX17_zeros_62 ⟨wr_10_207, wr_1_18, wr_10_210, by decide, rfl, (Nat.le_of_ble_eq_true rfl), (Nat.le_of_ble_eq_true rfl)⟩ wr_10_208 wr_10_209 hT413821 ht413884 hf413899 ht413791 x1413751 x22413752 r413792 (by omega) ht413770 hf413771 r413906 r413915 hx413919 (by omega) (by omega) (Nat.le_trans r413917 (Nat.le_trans hBk (by decide))) (rm_cs hph413793 r413916 rm413911 (by decide)) (rm_sl hph413793 r413916 rm413911 rm_s11) (Nat.le_of_ble_eq_true rfl) (fun P413920 F413914 γ el dc413921 ds413922 hq413923 => ?_)
          obtain ⟨hk413924, x0413925, h2413926, hel413927, hot413928, h16413929, h18413930, hnu413931, hFx413932, hr413933, hM413934, hBB413935⟩ := hq413923
          have hk413936 := rSk_of hk413924
          have r413937 : (fI (F413914 q408588) 3).toInt = (fI (F413815 q408588) 3).toInt := by rw [rSk_F hk413936 ht413770 (by decide) (by decide)]
          have hT413938 := hk413936.1
          have hs413939 := rSk_tr hs413822 hk413936 (by decide) (by decide) (by decide)
          have kp413940 : F413914 q408587 = F408586 q408587 := (rSk_F hk413936 ht413769 (by decide) (by decide)).trans kp413820
          have ht413941 : rKd γ q408587 10 := rSk_k hk413936 ht413769 (by decide) (by decide)
          have ht413942 : rKd γ q408588 9 := rSk_k hk413936 ht413770 (by decide) (by decide)
          have hf413943 : γ 1 q408588 = f := rSk_1 hk413936 ht413770 (by decide) hf413771
          have ht413944 : rKd γ q413703 2 := rSk_k hk413936 ht413772 (by decide) (by decide)
          have hf413945 : γ 1 q413703 = f := rSk_1 hk413936 ht413772 (by decide) hf413773
          have ht413946 : rKd γ q413712 3 := rSk_k hk413936 ht413774 (by decide) (by decide)
          have hf413947 : γ 1 q413712 = f := rSk_1 hk413936 ht413774 (by decide) hf413775
          have ht413948 : rKd γ q413871 2 := rSk_k hk413936 ht413876 (by decide) (by decide)
          have hf413949 : γ 1 q413871 = f := rSk_1 hk413936 ht413876 (by decide) hf413898
          have ht413950 : rKd γ q413880 3 := rSk_k hk413936 ht413884 (by decide) (by decide)
          have hf413951 : γ 1 q413880 = f := rSk_1 hk413936 ht413884 (by decide) hf413899
          have r413952 := (rSk_s hk413936 ht413770 (by decide)).2.1
          have r413953 := hot413928 _ (by rw [rc413913.2.1]; decide) (fun q => by rw [q, show _ = 3 from ht413884] at rc413913; exact absurd rc413913.2.1 (by decide))
          have r413954 : (0 : Int32).toInt.toNat < γ 2 (γ 14 q408588) := by rw [r413952, r413953.1]; exact r413778
          have r413955 : el (γ 14 q408588) (0 : Int32).toInt.toNat = q413703 := by rw [r413952, r413953.2]; exact r413779
          have r413956 : (0 : Int32).toInt.toNat < γ 2 (γ 14 q408588) := by rw [r413952, r413953.1]; exact r413906
          have r413957 : el (γ 14 q408588) (0 : Int32).toInt.toNat = q413871 := by rw [r413952, r413953.2]; exact r413907
          clear bp413797 bp413798 bp413801 bp413802 bp413803 bp413799 bp413800 r413833 r413834 r413835 r413836 r413837 r413838 r413840 r413841 r413842 r413843 bp413827 bp413828 bp413882 bp413883 r413891 r413892 rg413910 rm413911 bd413912 rc413913 r413916 r413917
          clear r413804 r413805 r413806
          have r413958 : 0 < γ 6 (γ 1 q408588) := by rw [hf413943]; omega
          first | have sz413959 := (hot413928 q413712 (rT0 ht413774 (by decide)) (by assumption)).1 | skip
          obtain ⟨nu413960, nu413961, nu413962, nu413963⟩ := hnu413931
          have ht413964 : rKd γ q413742 1 := x0413925
          have hB413965 : rBd γ el f B := hBB413935 B hB413790
          have hph413966 : rPh γ0 el0 f ≤ rPh γ el f := rm_ph hph413793 hr413933.2
          have pk413967 : rPh γ el f ≤ 387 * B + 6000 := rm_pk (rM_ge hT413938 ht413942 hf413943).1 (rM_bd hB413965)
          refine G_widen (cs' := ((rPh γ el f - rPh γ0 el0 f) / 18)) (sl' := (rPh γ el f - rPh γ0 el0 f)) (rm_wc hph413793 hr413933.1) (rm_ws hph413793 hr413933.2) ?_
          have r413968 : γ 14 q413871 = q413880 := ((rSk_s (rSk_of hk413924) ht413876 (by decide)).2.1).trans ht413890.1
          have sz413969 : γ 2 (γ 14 q413871) = γ 2 q413880 := by rw [r413968]
          obtain ⟨z413970, hz413970⟩ : ∃ z : Int32, z = g413556 + Int32.ofInt 1 := ⟨_, rfl⟩
          have bz413970 : gB z413970 (-2147483648) 2147483647 := gB_any z413970
          refine G_iinc (L' := [(2, .int z413970), (4, .ref q413742), (3, .int g413555), (0, .ref q408587), (1, .ref q408588)]) z413970 2 dr_cX17_zeros_65 rfl hz413970.symm (Nat.le_of_ble_eq_true rfl) rfl ?_
          obtain ⟨z413971, hz413971⟩ : ∃ z : Int32, z = g413555 + Int32.ofInt 1 := ⟨_, rfl⟩
          have ez413971 : z413971.toInt = g413555.toInt + 1 := gI_inc hz413971 (by decide) bg413555' (by decide) (by decide)
          have bz413971 : gB z413971 1 2000 := ⟨by omega, by omega⟩
          refine G_iinc (L' := [(3, .int z413971), (2, .int z413970), (4, .ref q413742), (0, .ref q408587), (1, .ref q408588)]) z413971 2 dr_cX17_zeros_68 rfl hz413971.symm (Nat.le_of_ble_eq_true rfl) rfl ?_
          refine G_goto 10 dr_cX17_zeros_71 (by decide +kernel) ?_
          refine G_lv (L' := [(3, .int z413971), (2, .int z413970), (0, .ref q408587), (1, .ref q408588)]) [0, 1, 3, 4] rfl ?_
          exact ih10_413569 P413920 F413914 γ el z413971 z413970 (gB_w bz413971 (by decide) (by decide)) hT413938 hs413939 hph413966 hB413965 (by omega) (by omega) (by omega) (by omega) (by omega) (by rw [r413957]; omega) kp413940 (by omega)
  exact hlp10_413569 (((2001 : Int) - 0).toNat + 1) P408585 F408652 γ el 0 0 (gB_w (gBl (show Int32.toInt 0 = 0 by decide)) (by decide) (by decide)) hT408653 hs408655 hph hB (by have qa0 : Int32.toInt 0 = 0 := (by decide); omega) (by have qa0 : Int32.toInt 0 = 0 := (by decide); omega) (by have qa0 : Int32.toInt 0 = 0 := (by decide); omega) (by have qa0 : Int32.toInt 0 = 0 := (by decide); omega) (by have qa0 : Int32.toInt 0 = 0 := (by decide); omega) (by have qa : Int32.toInt 0 = 0 := (by decide); omega) kp408656 (Nat.lt_succ_self _)
