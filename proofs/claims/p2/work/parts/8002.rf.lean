abbrev ky_384552_SpillForgeModel_mayMerge : gKey := (cX17_mayMerge, 8, "SpillForgeModel", (some FieldType.boolean), [], "mayMerge", fun _ _ => True)
def pt_384552_SpillForgeModel_mayMerge (D : va_G) (I : FieldType → ClassId) (γ el : Nat → Nat → Nat) (P384546 : List Nat) (F384547 : Nat → va_E) (q384548 : Nat) (p384549 : Int32) (p384550 : Int32) (p384551 : Int32) : Option Value → va_W → Nat → Nat → Prop := fun r w dc ds => ∃ (o386417 : Int32), r = some (.int o386417) ∧ w = va_pl P384546 F384547 ∧ dc ≤ 0 ∧ ds ≤ 0 ∧ gB o386417 0 1 ∧ (o386417.toInt = 0 ∨ (p384549.toInt < 100 ∧ p384550.toInt < 100))
set_option maxRecDepth 100000 in
set_option maxHeartbeats 4000000 in
theorem ct_384552_SpillForgeModel_mayMerge (l : Launch) (hl0 : l.stackTraces = false) (D : va_G) (I : FieldType → ClassId) (γ el : Nat → Nat → Nat) (P384546 : List Nat) (F384547 : Nat → va_E) (q384548 : Nat) (p384549 : Int32) (p384550 : Int32) (p384551 : Int32) (hT : RS D I P384546 F384547 γ el) (htq384548 : rKd γ q384548 10) (bp384549 : gB p384549 0 1999) (bp384550 : gB p384550 0 1999) : CtA (gV D I) l yX17_mayMerge cX17_mayMerge 8 (some FieldType.boolean) 2 43 0 0 [.ref q384548, .int p384549, .int p384550, .int p384551] (va_pl P384546 F384547) (pt_384552_SpillForgeModel_mayMerge D I γ el P384546 F384547 q384548 p384549 p384550 p384551) gNA := by
  refine CtA_of hl0 (by decide) (Nat.le_of_ble_eq_true rfl) ?_
  have bp384551 := gB_any p384551
  refine G_iload_n 1 dr_cX17_mayMerge_0 rfl ?_
  refine G_bipush 100 dr_cX17_mayMerge_1 (by decide +kernel) ?_
  refine G_icmp_ge 25 dr_cX17_mayMerge_3 (by decide +kernel) (fun hc384553 => ?_) (fun hc384553 => ?_)
  · have r384554 : 100 ≤ p384549.toInt := gj_leL hc384553 (show Int32.toInt 100 = 100 by decide)
    have bp384549' : gB p384549 100 1999 := ⟨by omega, by omega⟩
    refine G_iconst 0 dr_cX17_mayMerge_25 (by decide +kernel) ?_
    exact G_zretA FieldType.boolean dr_cX17_mayMerge_26 rfl rfl (Nat.le_of_ble_eq_true rfl) (Nat.le_of_ble_eq_true rfl) ⟨0, rfl, rfl, (Nat.le_of_ble_eq_true rfl), (Nat.le_of_ble_eq_true rfl), (gB_w (gBl (show Int32.toInt 0 = 0 by decide)) (by decide) (by decide)), (by have qa0 : Int32.toInt 0 = 0 := (by decide); omega)⟩
  · have r384555 : p384549.toInt < 100 := gj_nleL hc384553 (show Int32.toInt 100 = 100 by decide)
    have bp384549' : gB p384549 0 99 := ⟨by omega, by omega⟩
    refine G_iload_n 2 dr_cX17_mayMerge_6 rfl ?_
    refine G_bipush 100 dr_cX17_mayMerge_7 (by decide +kernel) ?_
    refine G_icmp_ge 25 dr_cX17_mayMerge_9 (by decide +kernel) (fun hc384556 => ?_) (fun hc384556 => ?_)
    · have r384557 : 100 ≤ p384550.toInt := gj_leL hc384556 (show Int32.toInt 100 = 100 by decide)
      have bp384550' : gB p384550 100 1999 := ⟨by omega, by omega⟩
      refine G_iconst 0 dr_cX17_mayMerge_25 (by decide +kernel) ?_
      exact G_zretA FieldType.boolean dr_cX17_mayMerge_26 rfl rfl (Nat.le_of_ble_eq_true rfl) (Nat.le_of_ble_eq_true rfl) ⟨0, rfl, rfl, (Nat.le_of_ble_eq_true rfl), (Nat.le_of_ble_eq_true rfl), (gB_w (gBl (show Int32.toInt 0 = 0 by decide)) (by decide) (by decide)), (by have qa0 : Int32.toInt 0 = 0 := (by decide); omega)⟩
    · have r384558 : p384550.toInt < 100 := gj_nleL hc384556 (show Int32.toInt 100 = 100 by decide)
      have bp384550' : gB p384550 0 99 := ⟨by omega, by omega⟩
      refine G_aload_n 0 dr_cX17_mayMerge_12 rfl ?_
      have hm384559 : q384548 ∈ P384546 := RS_m hT htq384548 (by decide)
      refine rk10_e (show rk_10 γ (F384547 q384548) from RS_o hT htq384548) (fun q384561 q384562 p384563 p384564 p384565 p384566 p384567 p384568 p384569 p384570 p384571 p384572 p384573 p384574 p384575 p384576 p384577 he384560 hB384604 ht384578 ht384579 ht384580 ht384581 ht384582 ht384583 ht384584 ht384585 ht384586 ht384587 ht384588 ht384589 ht384590 ht384591 ht384592 ht384593 ht384594 ht384595 ht384596 ht384597 ht384598 ht384599 ht384600 ht384601 hB384605 => ?_)
      refine Gp_get 1 hm384559 he384560 dr_cX17_mayMerge_13 (gk_X17 D I) (Nat.le_of_ble_eq_true rfl) wr_7_75 rfl ?_
      refine G_iload_n 1 dr_cX17_mayMerge_16 rfl ?_
      have hm384606 : (γ 9 1) ∈ P384546 := RS_m hT ht384581 (by decide)
      obtain ⟨f384608, he384607, hg384609⟩ := show rk_13 I γ (F384547 (γ 9 1)) from RS_o hT ht384581
      obtain ⟨q384610, hx384612⟩ : ∃ x, x = γ 11 p384549.toInt.toNat := ⟨_, rfl⟩
      have ht384611 : rKd γ q384610 36 := by rw [hx384612]; exact (hg384609 _ (show p384549.toInt.toNat < 2000 by omega)).2.1
      refine Gp_aald 5 hm384606 he384607 dr_cX17_mayMerge_17 rfl rfl (gB_in bp384549' (by decide) (by decide)) ?_
      rw [show f384608 p384549.toNatClampNeg = some q384610 from (hg384609 _ (show p384549.toInt.toNat < 2000 by omega)).1.trans (by rw [hx384612])]
      change G _ _ _ _ _ _ _ (.ref q384610 :: _) _ _ _
      refine G_iload_n 2 dr_cX17_mayMerge_18 rfl ?_
      have hm384613 : q384610 ∈ P384546 := RS_m hT ht384611 (by decide)
      obtain ⟨f384615, he384614, wf384615⟩ := show rk_36 I (F384547 q384610) from RS_o hT ht384611
      refine Gw_callS (As := [.ref q384610, .int p384550]) (gV_ok D I) (cp_1838_SpillForgeModel_has l hl0 D I P384546 F384547 q384610 p384550 f384615 hm384613 he384614 (gB_w bp384550' (by decide) (by decide))) dr_cX17_mayMerge_19 ⟨wr_10_203, wr_1_14, wr_10_205, by decide, rfl, (Nat.le_of_ble_eq_true rfl), (Nat.le_of_ble_eq_true rfl)⟩ wr_10_204 (show 0 + 0 ≤ 0 by first | omega | decide) (show 0 + 0 ≤ 0 by first | omega | decide) (Nat.le_of_ble_eq_true rfl) (fun r384619 w384620 dc384616 ds384617 hp384618 => ?_) (fun _ _ _ _ _ z => z.elim)
      rcases hp384618 with ⟨z384621, z384622, rfl, rfl, hdc, hds, r384623, r384624, r384625, r384626⟩ | ⟨z384627, z384628, rfl, rfl, hdc, hds, r384629, r384630, r384631, r384632⟩
      · change G _ _ _ _ _ _ _ (.int 0 :: _) _ _ _
        refine G_widen (cs' := 0) (sl' := 0) (by omega) (by omega) ?_
        refine G_if_eq 27 dr_cX17_mayMerge_22 (by decide +kernel) (fun _ => ?_) (fun hc => absurd hc (by decide))
        refine G_iconst 0 dr_cX17_mayMerge_27 (by decide +kernel) ?_
        refine G_istore (L' := [(4, .int 0), (0, .ref q384548), (1, .int p384549), (2, .int p384550), (3, .int p384551)]) dr_cX17_mayMerge_28 (Nat.le_of_ble_eq_true rfl) rfl ?_
        refine G_iconst 0 dr_cX17_mayMerge_30 (by decide +kernel) ?_
        refine G_istore (L' := [(5, .int 0), (4, .int 0), (0, .ref q384548), (1, .int p384549), (2, .int p384550), (3, .int p384551)]) dr_cX17_mayMerge_31 (Nat.le_of_ble_eq_true rfl) rfl ?_
        have hlp33_386276 : ∀ (n33_386276 : Nat) (g386275 : Int32) (g386276 : Int32), gB g386275 0 2000 → ((2001 : Int) - g386275.toInt).toNat < n33_386276 → G (gV D I) l (gRm 2 43 0 0) (gMA (gV D I) (pt_384552_SpillForgeModel_mayMerge D I γ el P384546 F384547 q384548 p384549 p384550 p384551) gNA 0 0) ky_384552_SpillForgeModel_mayMerge 33 [(5, .int g386275), (4, .int g386276), (0, .ref q384548), (1, .int p384549), (2, .int p384550), (3, .int p384551)] [] (va_pl P384546 F384547) 0 0 := by
          intro n33_386276
          induction n33_386276 with
          | zero => intro g386275 g386276 bg386275 hm33_386276; exact absurd hm33_386276 (Nat.not_lt_zero _)
          | succ n33_386276 ih33_386276 =>
            intro g386275 g386276 bg386275 hm33_386276
            have bg386276 := gB_any g386276
            refine G_iload 0 dr_cX17_mayMerge_33 rfl ?_
            refine G_sipush 2000 dr_cX17_mayMerge_35 (by decide +kernel) ?_
            refine G_icmp_ge 126 dr_cX17_mayMerge_38 (by decide +kernel) (fun hc386278 => ?_) (fun hc386278 => ?_)
            · have r386279 : 2000 ≤ g386275.toInt := gj_leL hc386278 (show Int32.toInt 2000 = 2000 by decide)
              have bg386275' : gB g386275 2000 2000 := ⟨by omega, by omega⟩
              refine G_iload 1 dr_cX17_mayMerge_126 rfl ?_
              refine G_iload_n 5 dr_cX17_mayMerge_128 rfl ?_
              refine G_icmp_ge 136 dr_cX17_mayMerge_129 (by decide +kernel) (fun hc386280 => ?_) (fun hc386280 => ?_)
              · have r386281 : p384551.toInt ≤ g386276.toInt := gC_le hc386280
                refine G_iconst 0 dr_cX17_mayMerge_136 (by decide +kernel) ?_
                exact G_zretA FieldType.boolean dr_cX17_mayMerge_137 rfl rfl (Nat.le_of_ble_eq_true rfl) (Nat.le_of_ble_eq_true rfl) ⟨0, rfl, rfl, (Nat.le_of_ble_eq_true rfl), (Nat.le_of_ble_eq_true rfl), (gB_w (gBl (show Int32.toInt 0 = 0 by decide)) (by decide) (by decide)), (by have qa0 : Int32.toInt 0 = 0 := (by decide); omega)⟩
              · have r386282 : g386276.toInt < p384551.toInt := gC_nle hc386280
                have bg386276' : gB g386276 (-2147483648) 2147483646 := ⟨by omega, by omega⟩
                have bp384551' : gB p384551 (-2147483647) 2147483647 := ⟨by omega, by omega⟩
                refine G_iconst 1 dr_cX17_mayMerge_132 (by decide +kernel) ?_
                refine G_goto 137 dr_cX17_mayMerge_133 (by decide +kernel) ?_
                exact G_zretA FieldType.boolean dr_cX17_mayMerge_137 rfl rfl (Nat.le_of_ble_eq_true rfl) (Nat.le_of_ble_eq_true rfl) ⟨1, rfl, rfl, (Nat.le_of_ble_eq_true rfl), (Nat.le_of_ble_eq_true rfl), (gB_w (gBl (show Int32.toInt 1 = 1 by decide)) (by decide) (by decide)), (by have qa0 : Int32.toInt 1 = 1 := (by decide); omega)⟩
            · have r386283 : g386275.toInt < 2000 := gj_nleL hc386278 (show Int32.toInt 2000 = 2000 by decide)
              have bg386275' : gB g386275 0 1999 := ⟨by omega, by omega⟩
              refine G_aload_n 2 dr_cX17_mayMerge_41 rfl ?_
              refine Gp_get 1 hm384559 he384560 dr_cX17_mayMerge_42 (gk_X17 D I) (Nat.le_of_ble_eq_true rfl) wr_7_75 rfl ?_
              refine G_iload_n 3 dr_cX17_mayMerge_45 rfl ?_
              obtain ⟨q386284, hx386286⟩ : ∃ x, x = γ 11 p384549.toInt.toNat := ⟨_, rfl⟩
              have ht386285 : rKd γ q386284 36 := by rw [hx386286]; exact (hg384609 _ (show p384549.toInt.toNat < 2000 by omega)).2.1
              refine Gp_aald 5 hm384606 he384607 dr_cX17_mayMerge_46 rfl rfl (gB_in bp384549' (by decide) (by decide)) ?_
              rw [show f384608 p384549.toNatClampNeg = some q386284 from (hg384609 _ (show p384549.toInt.toNat < 2000 by omega)).1.trans (by rw [hx386286])]
              change G _ _ _ _ _ _ _ (.ref q386284 :: _) _ _ _
              refine G_iload 0 dr_cX17_mayMerge_47 rfl ?_
              have hm386287 : q386284 ∈ P384546 := RS_m hT ht386285 (by decide)
              obtain ⟨f386289, he386288, wf386289⟩ := show rk_36 I (F384547 q386284) from RS_o hT ht386285
              refine Gw_callS (As := [.ref q386284, .int g386275]) (gV_ok D I) (cp_1838_SpillForgeModel_has l hl0 D I P384546 F384547 q386284 g386275 f386289 hm386287 he386288 (gB_w bg386275' (by decide) (by decide))) dr_cX17_mayMerge_49 ⟨wr_10_203, wr_1_14, wr_10_205, by decide, rfl, (Nat.le_of_ble_eq_true rfl), (Nat.le_of_ble_eq_true rfl)⟩ wr_10_204 (show 0 + 0 ≤ 0 by first | omega | decide) (show 0 + 0 ≤ 0 by first | omega | decide) (Nat.le_of_ble_eq_true rfl) (fun r386293 w386294 dc386290 ds386291 hp386292 => ?_) (fun _ _ _ _ _ z => z.elim)
              rcases hp386292 with ⟨z386295, z386296, rfl, rfl, hdc, hds, r386297, r386298, r386299, r386300⟩ | ⟨z386301, z386302, rfl, rfl, hdc, hds, r386303, r386304, r386305, r386306⟩
              · change G _ _ _ _ _ _ _ (.int 0 :: _) _ _ _
                refine G_widen (cs' := 0) (sl' := 0) (by omega) (by omega) ?_
                refine G_istore (L' := [(6, .int 0), (5, .int g386275), (4, .int g386276), (0, .ref q384548), (1, .int p384549), (2, .int p384550), (3, .int p384551)]) dr_cX17_mayMerge_52 (Nat.le_of_ble_eq_true rfl) rfl ?_
                refine G_aload_n 3 dr_cX17_mayMerge_54 rfl ?_
                refine Gp_get 1 hm384559 he384560 dr_cX17_mayMerge_55 (gk_X17 D I) (Nat.le_of_ble_eq_true rfl) wr_7_75 rfl ?_
                refine G_iload_n 5 dr_cX17_mayMerge_58 rfl ?_
                obtain ⟨q386308, hx386310⟩ : ∃ x, x = γ 11 p384550.toInt.toNat := ⟨_, rfl⟩
                have ht386309 : rKd γ q386308 36 := by rw [hx386310]; exact (hg384609 _ (show p384550.toInt.toNat < 2000 by omega)).2.1
                refine Gp_aald 5 hm384606 he384607 dr_cX17_mayMerge_59 rfl rfl (gB_in bp384550' (by decide) (by decide)) ?_
                rw [show f384608 p384550.toNatClampNeg = some q386308 from (hg384609 _ (show p384550.toInt.toNat < 2000 by omega)).1.trans (by rw [hx386310])]
                change G _ _ _ _ _ _ _ (.ref q386308 :: _) _ _ _
                refine G_iload 1 dr_cX17_mayMerge_60 rfl ?_
                have hm386311 : q386308 ∈ P384546 := RS_m hT ht386309 (by decide)
                obtain ⟨f386313, he386312, wf386313⟩ := show rk_36 I (F384547 q386308) from RS_o hT ht386309
                refine Gw_callS (As := [.ref q386308, .int g386275]) (gV_ok D I) (cp_1838_SpillForgeModel_has l hl0 D I P384546 F384547 q386308 g386275 f386313 hm386311 he386312 (gB_w bg386275' (by decide) (by decide))) dr_cX17_mayMerge_62 ⟨wr_10_203, wr_1_14, wr_10_205, by decide, rfl, (Nat.le_of_ble_eq_true rfl), (Nat.le_of_ble_eq_true rfl)⟩ wr_10_204 (show 0 + 0 ≤ 0 by first | omega | decide) (show 0 + 0 ≤ 0 by first | omega | decide) (Nat.le_of_ble_eq_true rfl) (fun r386317 w386318 dc386314 ds386315 hp386316 => ?_) (fun _ _ _ _ _ z => z.elim)
                rcases hp386316 with ⟨z386319, z386320, rfl, rfl, hdc, hds, r386321, r386322, r386323, r386324⟩ | ⟨z386325, z386326, rfl, rfl, hdc, hds, r386327, r386328, r386329, r386330⟩
                · change G _ _ _ _ _ _ _ (.int 0 :: _) _ _ _
                  refine G_widen (cs' := 0) (sl' := 0) (by omega) (by omega) ?_
                  refine G_istore (L' := [(7, .int 0), (6, .int 0), (5, .int g386275), (4, .int g386276), (0, .ref q384548), (1, .int p384549), (2, .int p384550), (3, .int p384551)]) dr_cX17_mayMerge_65 (Nat.le_of_ble_eq_true rfl) rfl ?_
                  refine G_iload 1 dr_cX17_mayMerge_67 rfl ?_
                  refine G_if_ne 80 dr_cX17_mayMerge_69 (by decide +kernel) (fun hc => absurd hc (by decide)) (fun _ => ?_)
                  refine G_iload 0 dr_cX17_mayMerge_72 rfl ?_
                  refine G_if_ne 80 dr_cX17_mayMerge_74 (by decide +kernel) (fun hc => absurd hc (by decide)) (fun _ => ?_)
                  refine G_goto 120 dr_cX17_mayMerge_77 (by decide +kernel) ?_
                  obtain ⟨z386332, hz386332⟩ : ∃ z : Int32, z = g386275 + Int32.ofInt 1 := ⟨_, rfl⟩
                  have ez386332 : z386332.toInt = g386275.toInt + 1 := gI_inc hz386332 (by decide) bg386275' (by decide) (by decide)
                  have bz386332 : gB z386332 1 2000 := ⟨by omega, by omega⟩
                  refine G_iinc (L' := [(5, .int z386332), (7, .int 0), (6, .int 0), (4, .int g386276), (0, .ref q384548), (1, .int p384549), (2, .int p384550), (3, .int p384551)]) z386332 2 dr_cX17_mayMerge_120 rfl hz386332.symm (Nat.le_of_ble_eq_true rfl) rfl ?_
                  refine G_goto 33 dr_cX17_mayMerge_123 (by decide +kernel) ?_
                  refine G_lv (L' := [(5, .int z386332), (4, .int g386276), (0, .ref q384548), (1, .int p384549), (2, .int p384550), (3, .int p384551)]) [0, 3, 4, 5, 6, 7] rfl ?_
                  exact ih33_386276 z386332 g386276 (gB_w bz386332 (by decide) (by decide)) (mz_up ez386332 (Int.le_trans bg386275'.2 (by decide)) hm33_386276)
                · change G _ _ _ _ _ _ _ (.int 1 :: _) _ _ _
                  refine G_widen (cs' := 0) (sl' := 0) (by omega) (by omega) ?_
                  refine G_istore (L' := [(7, .int 1), (6, .int 0), (5, .int g386275), (4, .int g386276), (0, .ref q384548), (1, .int p384549), (2, .int p384550), (3, .int p384551)]) dr_cX17_mayMerge_65 (Nat.le_of_ble_eq_true rfl) rfl ?_
                  refine G_iload 1 dr_cX17_mayMerge_67 rfl ?_
                  refine G_if_ne 80 dr_cX17_mayMerge_69 (by decide +kernel) (fun hc => absurd hc (by decide)) (fun _ => ?_)
                  refine G_iload 0 dr_cX17_mayMerge_72 rfl ?_
                  refine G_if_ne 80 dr_cX17_mayMerge_74 (by decide +kernel) (fun _ => ?_) (fun hc => absurd hc (by decide))
                  refine G_iload 3 dr_cX17_mayMerge_80 rfl ?_
                  refine G_aload_n 4 dr_cX17_mayMerge_82 rfl ?_
                  refine Gp_get 1 hm384559 he384560 dr_cX17_mayMerge_83 (gk_X17 D I) (Nat.le_of_ble_eq_true rfl) wr_7_75 rfl ?_
                  refine G_iload 2 dr_cX17_mayMerge_86 rfl ?_
                  obtain ⟨q386333, hx386335⟩ : ∃ x, x = γ 11 g386275.toInt.toNat := ⟨_, rfl⟩
                  have ht386334 : rKd γ q386333 36 := by rw [hx386335]; exact (hg384609 _ (show g386275.toInt.toNat < 2000 by omega)).2.1
                  refine Gp_aald 5 hm384606 he384607 dr_cX17_mayMerge_88 rfl rfl (gB_in bg386275' (by decide) (by decide)) ?_
                  rw [show f384608 g386275.toNatClampNeg = some q386333 from (hg384609 _ (show g386275.toInt.toNat < 2000 by omega)).1.trans (by rw [hx386335])]
                  change G _ _ _ _ _ _ _ (.ref q386333 :: _) _ _ _
                  have hm386336 : q386333 ∈ P384546 := RS_m hT ht386334 (by decide)
                  obtain ⟨f386338, he386337, wf386338⟩ := show rk_36 I (F384547 q386333) from RS_o hT ht386334
                  refine Gw_callS (As := [.ref q386333]) (gV_ok D I) (cp_1892_SpillForgeModel_count l hl0 D I P384546 F384547 q386333 f386338 hm386336 he386337) dr_cX17_mayMerge_89 ⟨wr_11_16, wr_1_14, wr_11_18, by decide, rfl, (Nat.le_of_ble_eq_true rfl), (Nat.le_of_ble_eq_true rfl)⟩ wr_11_17 (show 0 + 0 ≤ 0 by first | omega | decide) (show 0 + 0 ≤ 0 by first | omega | decide) (Nat.le_of_ble_eq_true rfl) (fun r386342 w386343 dc386339 ds386340 hp386341 => ?_) (fun _ _ _ _ _ z => z.elim)
                  obtain ⟨o386344, rfl, rfl, hdc, hds⟩ := hp386341
                  have bo386344 := gB_any o386344
                  change G _ _ _ _ _ _ _ (.int o386344 :: _) _ _ _
                  refine G_widen (cs' := 0) (sl' := 0) (by omega) (by omega) ?_
                  refine G_iload 1 dr_cX17_mayMerge_92 rfl ?_
                  refine G_if_eq 106 dr_cX17_mayMerge_94 (by decide +kernel) (fun _ => ?_) (fun hc => absurd hc (by decide))
                  refine G_iconst 0 dr_cX17_mayMerge_106 (by decide +kernel) ?_
                  refine G_isub dr_cX17_mayMerge_107 (G_nam fun z386345 hz386345 => ?_)
                  have ez386345 : z386345.toInt = o386344.toInt - 0 := by rw [gI_sub hz386345 bo386344 (gBl (show Int32.toInt 0 = 0 by decide)) (by decide) (by decide), show Int32.toInt 0 = 0 from by decide]
                  have bz386345 : gB z386345 (-2147483648) 2147483647 := gB_sub (gI_sub hz386345 bo386344 (gBl (show Int32.toInt 0 = 0 by decide)) (by decide) (by decide)) bo386344 (gBl (show Int32.toInt 0 = 0 by decide)) (by decide) (by decide)
                  refine G_iload_n 7 dr_cX17_mayMerge_108 rfl ?_
                  refine G_icmp_lt 116 dr_cX17_mayMerge_109 (by decide +kernel) (fun hc386346 => ?_) (fun hc386346 => ?_)
                  · have r386347 : z386345.toInt < p384551.toInt := gC_lt hc386346
                    have bz386345' : gB z386345 (-2147483648) 2147483646 := ⟨by omega, by omega⟩
                    have bp384551' : gB p384551 (-2147483647) 2147483647 := ⟨by omega, by omega⟩
                    refine G_iconst 0 dr_cX17_mayMerge_116 (by decide +kernel) ?_
                    refine G_iadd dr_cX17_mayMerge_117 (G_nam fun z386348 hz386348 => ?_)
                    have ez386348 : z386348.toInt = g386276.toInt + 0 := by rw [gI_add hz386348 bg386276 (gBl (show Int32.toInt 0 = 0 by decide)) (by decide) (by decide), show Int32.toInt 0 = 0 from by decide]
                    have bz386348 : gB z386348 (-2147483648) 2147483647 := gB_add (gI_add hz386348 bg386276 (gBl (show Int32.toInt 0 = 0 by decide)) (by decide) (by decide)) bg386276 (gBl (show Int32.toInt 0 = 0 by decide)) (by decide) (by decide)
                    refine G_istore (L' := [(4, .int z386348), (7, .int 1), (6, .int 0), (5, .int g386275), (0, .ref q384548), (1, .int p384549), (2, .int p384550), (3, .int p384551)]) dr_cX17_mayMerge_118 (Nat.le_of_ble_eq_true rfl) rfl ?_
                    obtain ⟨z386349, hz386349⟩ : ∃ z : Int32, z = g386275 + Int32.ofInt 1 := ⟨_, rfl⟩
                    have ez386349 : z386349.toInt = g386275.toInt + 1 := gI_inc hz386349 (by decide) bg386275' (by decide) (by decide)
                    have bz386349 : gB z386349 1 2000 := ⟨by omega, by omega⟩
                    refine G_iinc (L' := [(5, .int z386349), (4, .int z386348), (7, .int 1), (6, .int 0), (0, .ref q384548), (1, .int p384549), (2, .int p384550), (3, .int p384551)]) z386349 3 dr_cX17_mayMerge_120 rfl hz386349.symm (Nat.le_of_ble_eq_true rfl) rfl ?_
                    refine G_goto 33 dr_cX17_mayMerge_123 (by decide +kernel) ?_
                    refine G_lv (L' := [(5, .int z386349), (4, .int z386348), (0, .ref q384548), (1, .int p384549), (2, .int p384550), (3, .int p384551)]) [0, 1, 4, 5, 6, 7] rfl ?_
                    exact ih33_386276 z386349 z386348 (gB_w bz386349 (by decide) (by decide)) (mz_up ez386349 (Int.le_trans bg386275'.2 (by decide)) hm33_386276)
                  · have r386350 : p384551.toInt ≤ z386345.toInt := gC_nlt hc386346
                    refine G_iconst 1 dr_cX17_mayMerge_112 (by decide +kernel) ?_
                    refine G_goto 117 dr_cX17_mayMerge_113 (by decide +kernel) ?_
                    refine G_iadd dr_cX17_mayMerge_117 (G_nam fun z386351 hz386351 => ?_)
                    have bz386351 : gB z386351 (-2147483648) 2147483647 := gB_any z386351
                    refine G_istore (L' := [(4, .int z386351), (7, .int 1), (6, .int 0), (5, .int g386275), (0, .ref q384548), (1, .int p384549), (2, .int p384550), (3, .int p384551)]) dr_cX17_mayMerge_118 (Nat.le_of_ble_eq_true rfl) rfl ?_
                    obtain ⟨z386352, hz386352⟩ : ∃ z : Int32, z = g386275 + Int32.ofInt 1 := ⟨_, rfl⟩
                    have ez386352 : z386352.toInt = g386275.toInt + 1 := gI_inc hz386352 (by decide) bg386275' (by decide) (by decide)
                    have bz386352 : gB z386352 1 2000 := ⟨by omega, by omega⟩
                    refine G_iinc (L' := [(5, .int z386352), (4, .int z386351), (7, .int 1), (6, .int 0), (0, .ref q384548), (1, .int p384549), (2, .int p384550), (3, .int p384551)]) z386352 3 dr_cX17_mayMerge_120 rfl hz386352.symm (Nat.le_of_ble_eq_true rfl) rfl ?_
                    refine G_goto 33 dr_cX17_mayMerge_123 (by decide +kernel) ?_
                    refine G_lv (L' := [(5, .int z386352), (4, .int z386351), (0, .ref q384548), (1, .int p384549), (2, .int p384550), (3, .int p384551)]) [0, 1, 4, 5, 6, 7] rfl ?_
                    exact ih33_386276 z386352 z386351 (gB_w bz386352 (by decide) (by decide)) (mz_up ez386352 (Int.le_trans bg386275'.2 (by decide)) hm33_386276)
              · change G _ _ _ _ _ _ _ (.int 1 :: _) _ _ _
                refine G_widen (cs' := 0) (sl' := 0) (by omega) (by omega) ?_
                refine G_istore (L' := [(6, .int 1), (5, .int g386275), (4, .int g386276), (0, .ref q384548), (1, .int p384549), (2, .int p384550), (3, .int p384551)]) dr_cX17_mayMerge_52 (Nat.le_of_ble_eq_true rfl) rfl ?_
                refine G_aload_n 3 dr_cX17_mayMerge_54 rfl ?_
                refine Gp_get 1 hm384559 he384560 dr_cX17_mayMerge_55 (gk_X17 D I) (Nat.le_of_ble_eq_true rfl) wr_7_75 rfl ?_
                refine G_iload_n 5 dr_cX17_mayMerge_58 rfl ?_
                obtain ⟨q386353, hx386355⟩ : ∃ x, x = γ 11 p384550.toInt.toNat := ⟨_, rfl⟩
                have ht386354 : rKd γ q386353 36 := by rw [hx386355]; exact (hg384609 _ (show p384550.toInt.toNat < 2000 by omega)).2.1
                refine Gp_aald 5 hm384606 he384607 dr_cX17_mayMerge_59 rfl rfl (gB_in bp384550' (by decide) (by decide)) ?_
                rw [show f384608 p384550.toNatClampNeg = some q386353 from (hg384609 _ (show p384550.toInt.toNat < 2000 by omega)).1.trans (by rw [hx386355])]
                change G _ _ _ _ _ _ _ (.ref q386353 :: _) _ _ _
                refine G_iload 1 dr_cX17_mayMerge_60 rfl ?_
                have hm386356 : q386353 ∈ P384546 := RS_m hT ht386354 (by decide)
                obtain ⟨f386358, he386357, wf386358⟩ := show rk_36 I (F384547 q386353) from RS_o hT ht386354
                refine Gw_callS (As := [.ref q386353, .int g386275]) (gV_ok D I) (cp_1838_SpillForgeModel_has l hl0 D I P384546 F384547 q386353 g386275 f386358 hm386356 he386357 (gB_w bg386275' (by decide) (by decide))) dr_cX17_mayMerge_62 ⟨wr_10_203, wr_1_14, wr_10_205, by decide, rfl, (Nat.le_of_ble_eq_true rfl), (Nat.le_of_ble_eq_true rfl)⟩ wr_10_204 (show 0 + 0 ≤ 0 by first | omega | decide) (show 0 + 0 ≤ 0 by first | omega | decide) (Nat.le_of_ble_eq_true rfl) (fun r386362 w386363 dc386359 ds386360 hp386361 => ?_) (fun _ _ _ _ _ z => z.elim)
                rcases hp386361 with ⟨z386364, z386365, rfl, rfl, hdc, hds, r386366, r386367, r386368, r386369⟩ | ⟨z386370, z386371, rfl, rfl, hdc, hds, r386372, r386373, r386374, r386375⟩
                · change G _ _ _ _ _ _ _ (.int 0 :: _) _ _ _
                  refine G_widen (cs' := 0) (sl' := 0) (by omega) (by omega) ?_
                  refine G_istore (L' := [(7, .int 0), (6, .int 1), (5, .int g386275), (4, .int g386276), (0, .ref q384548), (1, .int p384549), (2, .int p384550), (3, .int p384551)]) dr_cX17_mayMerge_65 (Nat.le_of_ble_eq_true rfl) rfl ?_
                  refine G_iload 1 dr_cX17_mayMerge_67 rfl ?_
                  refine G_if_ne 80 dr_cX17_mayMerge_69 (by decide +kernel) (fun _ => ?_) (fun hc => absurd hc (by decide))
                  refine G_iload 3 dr_cX17_mayMerge_80 rfl ?_
                  refine G_aload_n 4 dr_cX17_mayMerge_82 rfl ?_
                  refine Gp_get 1 hm384559 he384560 dr_cX17_mayMerge_83 (gk_X17 D I) (Nat.le_of_ble_eq_true rfl) wr_7_75 rfl ?_
                  refine G_iload 2 dr_cX17_mayMerge_86 rfl ?_
                  obtain ⟨q386377, hx386379⟩ : ∃ x, x = γ 11 g386275.toInt.toNat := ⟨_, rfl⟩
                  have ht386378 : rKd γ q386377 36 := by rw [hx386379]; exact (hg384609 _ (show g386275.toInt.toNat < 2000 by omega)).2.1
                  refine Gp_aald 5 hm384606 he384607 dr_cX17_mayMerge_88 rfl rfl (gB_in bg386275' (by decide) (by decide)) ?_
                  rw [show f384608 g386275.toNatClampNeg = some q386377 from (hg384609 _ (show g386275.toInt.toNat < 2000 by omega)).1.trans (by rw [hx386379])]
                  change G _ _ _ _ _ _ _ (.ref q386377 :: _) _ _ _
                  have hm386380 : q386377 ∈ P384546 := RS_m hT ht386378 (by decide)
                  obtain ⟨f386382, he386381, wf386382⟩ := show rk_36 I (F384547 q386377) from RS_o hT ht386378
                  refine Gw_callS (As := [.ref q386377]) (gV_ok D I) (cp_1892_SpillForgeModel_count l hl0 D I P384546 F384547 q386377 f386382 hm386380 he386381) dr_cX17_mayMerge_89 ⟨wr_11_16, wr_1_14, wr_11_18, by decide, rfl, (Nat.le_of_ble_eq_true rfl), (Nat.le_of_ble_eq_true rfl)⟩ wr_11_17 (show 0 + 0 ≤ 0 by first | omega | decide) (show 0 + 0 ≤ 0 by first | omega | decide) (Nat.le_of_ble_eq_true rfl) (fun r386386 w386387 dc386383 ds386384 hp386385 => ?_) (fun _ _ _ _ _ z => z.elim)
                  obtain ⟨o386388, rfl, rfl, hdc, hds⟩ := hp386385
                  have bo386388 := gB_any o386388
                  change G _ _ _ _ _ _ _ (.int o386388 :: _) _ _ _
                  refine G_widen (cs' := 0) (sl' := 0) (by omega) (by omega) ?_
                  refine G_iload 1 dr_cX17_mayMerge_92 rfl ?_
                  refine G_if_eq 106 dr_cX17_mayMerge_94 (by decide +kernel) (fun hc => absurd hc (by decide)) (fun _ => ?_)
                  refine G_iload 0 dr_cX17_mayMerge_97 rfl ?_
                  refine G_if_eq 106 dr_cX17_mayMerge_99 (by decide +kernel) (fun _ => ?_) (fun hc => absurd hc (by decide))
                  refine G_iconst 0 dr_cX17_mayMerge_106 (by decide +kernel) ?_
                  refine G_isub dr_cX17_mayMerge_107 (G_nam fun z386389 hz386389 => ?_)
                  have ez386389 : z386389.toInt = o386388.toInt - 0 := by rw [gI_sub hz386389 bo386388 (gBl (show Int32.toInt 0 = 0 by decide)) (by decide) (by decide), show Int32.toInt 0 = 0 from by decide]
                  have bz386389 : gB z386389 (-2147483648) 2147483647 := gB_sub (gI_sub hz386389 bo386388 (gBl (show Int32.toInt 0 = 0 by decide)) (by decide) (by decide)) bo386388 (gBl (show Int32.toInt 0 = 0 by decide)) (by decide) (by decide)
                  refine G_iload_n 7 dr_cX17_mayMerge_108 rfl ?_
                  refine G_icmp_lt 116 dr_cX17_mayMerge_109 (by decide +kernel) (fun hc386390 => ?_) (fun hc386390 => ?_)
                  · have r386391 : z386389.toInt < p384551.toInt := gC_lt hc386390
                    have bz386389' : gB z386389 (-2147483648) 2147483646 := ⟨by omega, by omega⟩
                    have bp384551' : gB p384551 (-2147483647) 2147483647 := ⟨by omega, by omega⟩
                    refine G_iconst 0 dr_cX17_mayMerge_116 (by decide +kernel) ?_
                    refine G_iadd dr_cX17_mayMerge_117 (G_nam fun z386392 hz386392 => ?_)
                    have ez386392 : z386392.toInt = g386276.toInt + 0 := by rw [gI_add hz386392 bg386276 (gBl (show Int32.toInt 0 = 0 by decide)) (by decide) (by decide), show Int32.toInt 0 = 0 from by decide]
                    have bz386392 : gB z386392 (-2147483648) 2147483647 := gB_add (gI_add hz386392 bg386276 (gBl (show Int32.toInt 0 = 0 by decide)) (by decide) (by decide)) bg386276 (gBl (show Int32.toInt 0 = 0 by decide)) (by decide) (by decide)
                    refine G_istore (L' := [(4, .int z386392), (7, .int 0), (6, .int 1), (5, .int g386275), (0, .ref q384548), (1, .int p384549), (2, .int p384550), (3, .int p384551)]) dr_cX17_mayMerge_118 (Nat.le_of_ble_eq_true rfl) rfl ?_
                    obtain ⟨z386393, hz386393⟩ : ∃ z : Int32, z = g386275 + Int32.ofInt 1 := ⟨_, rfl⟩
                    have ez386393 : z386393.toInt = g386275.toInt + 1 := gI_inc hz386393 (by decide) bg386275' (by decide) (by decide)
                    have bz386393 : gB z386393 1 2000 := ⟨by omega, by omega⟩
                    refine G_iinc (L' := [(5, .int z386393), (4, .int z386392), (7, .int 0), (6, .int 1), (0, .ref q384548), (1, .int p384549), (2, .int p384550), (3, .int p384551)]) z386393 3 dr_cX17_mayMerge_120 rfl hz386393.symm (Nat.le_of_ble_eq_true rfl) rfl ?_
                    refine G_goto 33 dr_cX17_mayMerge_123 (by decide +kernel) ?_
                    refine G_lv (L' := [(5, .int z386393), (4, .int z386392), (0, .ref q384548), (1, .int p384549), (2, .int p384550), (3, .int p384551)]) [0, 1, 4, 5, 6, 7] rfl ?_
                    exact ih33_386276 z386393 z386392 (gB_w bz386393 (by decide) (by decide)) (mz_up ez386393 (Int.le_trans bg386275'.2 (by decide)) hm33_386276)
                  · have r386394 : p384551.toInt ≤ z386389.toInt := gC_nlt hc386390
                    refine G_iconst 1 dr_cX17_mayMerge_112 (by decide +kernel) ?_
                    refine G_goto 117 dr_cX17_mayMerge_113 (by decide +kernel) ?_
                    refine G_iadd dr_cX17_mayMerge_117 (G_nam fun z386395 hz386395 => ?_)
                    have bz386395 : gB z386395 (-2147483648) 2147483647 := gB_any z386395
                    refine G_istore (L' := [(4, .int z386395), (7, .int 0), (6, .int 1), (5, .int g386275), (0, .ref q384548), (1, .int p384549), (2, .int p384550), (3, .int p384551)]) dr_cX17_mayMerge_118 (Nat.le_of_ble_eq_true rfl) rfl ?_
                    obtain ⟨z386396, hz386396⟩ : ∃ z : Int32, z = g386275 + Int32.ofInt 1 := ⟨_, rfl⟩
                    have ez386396 : z386396.toInt = g386275.toInt + 1 := gI_inc hz386396 (by decide) bg386275' (by decide) (by decide)
                    have bz386396 : gB z386396 1 2000 := ⟨by omega, by omega⟩
                    refine G_iinc (L' := [(5, .int z386396), (4, .int z386395), (7, .int 0), (6, .int 1), (0, .ref q384548), (1, .int p384549), (2, .int p384550), (3, .int p384551)]) z386396 3 dr_cX17_mayMerge_120 rfl hz386396.symm (Nat.le_of_ble_eq_true rfl) rfl ?_
                    refine G_goto 33 dr_cX17_mayMerge_123 (by decide +kernel) ?_
                    refine G_lv (L' := [(5, .int z386396), (4, .int z386395), (0, .ref q384548), (1, .int p384549), (2, .int p384550), (3, .int p384551)]) [0, 1, 4, 5, 6, 7] rfl ?_
                    exact ih33_386276 z386396 z386395 (gB_w bz386396 (by decide) (by decide)) (mz_up ez386396 (Int.le_trans bg386275'.2 (by decide)) hm33_386276)
                · change G _ _ _ _ _ _ _ (.int 1 :: _) _ _ _
                  refine G_widen (cs' := 0) (sl' := 0) (by omega) (by omega) ?_
                  refine G_istore (L' := [(7, .int 1), (6, .int 1), (5, .int g386275), (4, .int g386276), (0, .ref q384548), (1, .int p384549), (2, .int p384550), (3, .int p384551)]) dr_cX17_mayMerge_65 (Nat.le_of_ble_eq_true rfl) rfl ?_
                  refine G_iload 1 dr_cX17_mayMerge_67 rfl ?_
                  refine G_if_ne 80 dr_cX17_mayMerge_69 (by decide +kernel) (fun _ => ?_) (fun hc => absurd hc (by decide))
                  refine G_iload 3 dr_cX17_mayMerge_80 rfl ?_
                  refine G_aload_n 4 dr_cX17_mayMerge_82 rfl ?_
                  refine Gp_get 1 hm384559 he384560 dr_cX17_mayMerge_83 (gk_X17 D I) (Nat.le_of_ble_eq_true rfl) wr_7_75 rfl ?_
                  refine G_iload 2 dr_cX17_mayMerge_86 rfl ?_
                  obtain ⟨q386397, hx386399⟩ : ∃ x, x = γ 11 g386275.toInt.toNat := ⟨_, rfl⟩
                  have ht386398 : rKd γ q386397 36 := by rw [hx386399]; exact (hg384609 _ (show g386275.toInt.toNat < 2000 by omega)).2.1
                  refine Gp_aald 5 hm384606 he384607 dr_cX17_mayMerge_88 rfl rfl (gB_in bg386275' (by decide) (by decide)) ?_
                  rw [show f384608 g386275.toNatClampNeg = some q386397 from (hg384609 _ (show g386275.toInt.toNat < 2000 by omega)).1.trans (by rw [hx386399])]
                  change G _ _ _ _ _ _ _ (.ref q386397 :: _) _ _ _
                  have hm386400 : q386397 ∈ P384546 := RS_m hT ht386398 (by decide)
                  obtain ⟨f386402, he386401, wf386402⟩ := show rk_36 I (F384547 q386397) from RS_o hT ht386398
                  refine Gw_callS (As := [.ref q386397]) (gV_ok D I) (cp_1892_SpillForgeModel_count l hl0 D I P384546 F384547 q386397 f386402 hm386400 he386401) dr_cX17_mayMerge_89 ⟨wr_11_16, wr_1_14, wr_11_18, by decide, rfl, (Nat.le_of_ble_eq_true rfl), (Nat.le_of_ble_eq_true rfl)⟩ wr_11_17 (show 0 + 0 ≤ 0 by first | omega | decide) (show 0 + 0 ≤ 0 by first | omega | decide) (Nat.le_of_ble_eq_true rfl) (fun r386406 w386407 dc386403 ds386404 hp386405 => ?_) (fun _ _ _ _ _ z => z.elim)
                  obtain ⟨o386408, rfl, rfl, hdc, hds⟩ := hp386405
                  have bo386408 := gB_any o386408
                  change G _ _ _ _ _ _ _ (.int o386408 :: _) _ _ _
                  refine G_widen (cs' := 0) (sl' := 0) (by omega) (by omega) ?_
                  refine G_iload 1 dr_cX17_mayMerge_92 rfl ?_
                  refine G_if_eq 106 dr_cX17_mayMerge_94 (by decide +kernel) (fun hc => absurd hc (by decide)) (fun _ => ?_)
                  refine G_iload 0 dr_cX17_mayMerge_97 rfl ?_
                  refine G_if_eq 106 dr_cX17_mayMerge_99 (by decide +kernel) (fun hc => absurd hc (by decide)) (fun _ => ?_)
                  refine G_iconst 1 dr_cX17_mayMerge_102 (by decide +kernel) ?_
                  refine G_goto 107 dr_cX17_mayMerge_103 (by decide +kernel) ?_
                  refine G_isub dr_cX17_mayMerge_107 (G_nam fun z386409 hz386409 => ?_)
                  have bz386409 : gB z386409 (-2147483648) 2147483647 := gB_any z386409
                  refine G_iload_n 7 dr_cX17_mayMerge_108 rfl ?_
                  refine G_icmp_lt 116 dr_cX17_mayMerge_109 (by decide +kernel) (fun hc386410 => ?_) (fun hc386410 => ?_)
                  · have r386411 : z386409.toInt < p384551.toInt := gC_lt hc386410
                    have bz386409' : gB z386409 (-2147483648) 2147483646 := ⟨by omega, by omega⟩
                    have bp384551' : gB p384551 (-2147483647) 2147483647 := ⟨by omega, by omega⟩
                    refine G_iconst 0 dr_cX17_mayMerge_116 (by decide +kernel) ?_
                    refine G_iadd dr_cX17_mayMerge_117 (G_nam fun z386412 hz386412 => ?_)
                    have ez386412 : z386412.toInt = g386276.toInt + 0 := by rw [gI_add hz386412 bg386276 (gBl (show Int32.toInt 0 = 0 by decide)) (by decide) (by decide), show Int32.toInt 0 = 0 from by decide]
                    have bz386412 : gB z386412 (-2147483648) 2147483647 := gB_add (gI_add hz386412 bg386276 (gBl (show Int32.toInt 0 = 0 by decide)) (by decide) (by decide)) bg386276 (gBl (show Int32.toInt 0 = 0 by decide)) (by decide) (by decide)
                    refine G_istore (L' := [(4, .int z386412), (7, .int 1), (6, .int 1), (5, .int g386275), (0, .ref q384548), (1, .int p384549), (2, .int p384550), (3, .int p384551)]) dr_cX17_mayMerge_118 (Nat.le_of_ble_eq_true rfl) rfl ?_
                    obtain ⟨z386413, hz386413⟩ : ∃ z : Int32, z = g386275 + Int32.ofInt 1 := ⟨_, rfl⟩
                    have ez386413 : z386413.toInt = g386275.toInt + 1 := gI_inc hz386413 (by decide) bg386275' (by decide) (by decide)
                    have bz386413 : gB z386413 1 2000 := ⟨by omega, by omega⟩
                    refine G_iinc (L' := [(5, .int z386413), (4, .int z386412), (7, .int 1), (6, .int 1), (0, .ref q384548), (1, .int p384549), (2, .int p384550), (3, .int p384551)]) z386413 3 dr_cX17_mayMerge_120 rfl hz386413.symm (Nat.le_of_ble_eq_true rfl) rfl ?_
                    refine G_goto 33 dr_cX17_mayMerge_123 (by decide +kernel) ?_
                    refine G_lv (L' := [(5, .int z386413), (4, .int z386412), (0, .ref q384548), (1, .int p384549), (2, .int p384550), (3, .int p384551)]) [0, 1, 4, 5, 6, 7] rfl ?_
                    exact ih33_386276 z386413 z386412 (gB_w bz386413 (by decide) (by decide)) (mz_up ez386413 (Int.le_trans bg386275'.2 (by decide)) hm33_386276)
                  · have r386414 : p384551.toInt ≤ z386409.toInt := gC_nlt hc386410
                    refine G_iconst 1 dr_cX17_mayMerge_112 (by decide +kernel) ?_
                    refine G_goto 117 dr_cX17_mayMerge_113 (by decide +kernel) ?_
                    refine G_iadd dr_cX17_mayMerge_117 (G_nam fun z386415 hz386415 => ?_)
                    have bz386415 : gB z386415 (-2147483648) 2147483647 := gB_any z386415
                    refine G_istore (L' := [(4, .int z386415), (7, .int 1), (6, .int 1), (5, .int g386275), (0, .ref q384548), (1, .int p384549), (2, .int p384550), (3, .int p384551)]) dr_cX17_mayMerge_118 (Nat.le_of_ble_eq_true rfl) rfl ?_
                    obtain ⟨z386416, hz386416⟩ : ∃ z : Int32, z = g386275 + Int32.ofInt 1 := ⟨_, rfl⟩
                    have ez386416 : z386416.toInt = g386275.toInt + 1 := gI_inc hz386416 (by decide) bg386275' (by decide) (by decide)
                    have bz386416 : gB z386416 1 2000 := ⟨by omega, by omega⟩
                    refine G_iinc (L' := [(5, .int z386416), (4, .int z386415), (7, .int 1), (6, .int 1), (0, .ref q384548), (1, .int p384549), (2, .int p384550), (3, .int p384551)]) z386416 3 dr_cX17_mayMerge_120 rfl hz386416.symm (Nat.le_of_ble_eq_true rfl) rfl ?_
                    refine G_goto 33 dr_cX17_mayMerge_123 (by decide +kernel) ?_
                    refine G_lv (L' := [(5, .int z386416), (4, .int z386415), (0, .ref q384548), (1, .int p384549), (2, .int p384550), (3, .int p384551)]) [0, 1, 4, 5, 6, 7] rfl ?_
                    exact ih33_386276 z386416 z386415 (gB_w bz386416 (by decide) (by decide)) (mz_up ez386416 (Int.le_trans bg386275'.2 (by decide)) hm33_386276)
        exact hlp33_386276 (((2001 : Int) - 0).toNat + 1) 0 0 (gB_w (gBl (show Int32.toInt 0 = 0 by decide)) (by decide) (by decide)) (Nat.lt_succ_self _)
      · change G _ _ _ _ _ _ _ (.int 1 :: _) _ _ _
        refine G_widen (cs' := 0) (sl' := 0) (by omega) (by omega) ?_
        refine G_if_eq 27 dr_cX17_mayMerge_22 (by decide +kernel) (fun hc => absurd hc (by decide)) (fun _ => ?_)
        refine G_iconst 0 dr_cX17_mayMerge_25 (by decide +kernel) ?_
        exact G_zretA FieldType.boolean dr_cX17_mayMerge_26 rfl rfl (Nat.le_of_ble_eq_true rfl) (Nat.le_of_ble_eq_true rfl) ⟨0, rfl, rfl, (Nat.le_of_ble_eq_true rfl), (Nat.le_of_ble_eq_true rfl), (gB_w (gBl (show Int32.toInt 0 = 0 by decide)) (by decide) (by decide)), (by have qa0 : Int32.toInt 0 = 0 := (by decide); omega)⟩
abbrev ky_386425_SpillForgeModel_merge : gKey := (cX17_merge, 9, "SpillForgeModel", (some FieldType.boolean), [], "merge", fun _ _ => True)
def pg_386425_SpillForgeModel_merge (D : va_G) (I : FieldType → ClassId) (γ0 el0 : Nat → Nat → Nat) (f : Nat) (B : Nat) (P386419 : List Nat) (F386420 : Nat → va_E) (q386421 : Nat) (q386422 : Nat) (p386423 : Int32) : Option Value → va_W → Nat → Nat → Prop := fun r w dc ds => ∃ (P396970 : List Nat) (F396971 : Nat → va_E) (γ el : Nat → Nat → Nat) (o396969 : Int32), r = some (.int o396969) ∧ w = va_pl P396970 F396971 ∧ rSk f [] ([1, 3, 6] ++ npk) D I P386419 F386420 γ0 el0 P396970 F396971 γ el ∧ (18 * dc + rPh γ0 el0 f ≤ rPh γ el f ∧ ds + rPh γ0 el0 f ≤ rPh γ el f) ∧ rBd γ el f B ∧ gB o396969 0 1 ∧ γ 6 f = γ0 6 f ∧ γ 7 f = γ0 7 f ∧ γ 16 f = γ0 16 f ∧ γ 18 f = γ0 18 f ∧ (o396969.toInt = 0 ∨ rsum (fun i => γ 2 (γ 14 (el (γ 14 q386422) i))) (γ 6 f) + 1 ≤ rsum (fun i => γ0 2 (γ0 14 (el0 (γ0 14 q386422) i))) (γ0 6 f)) ∧ (∀ N : Nat → Prop, rPl γ0 el0 F386420 q386422 (γ0 6 f) (fun _ _ => rNx N) → rPl γ el F396971 q386422 (γ 6 f) (fun _ _ => rNx N)) ∧ (fI (F396971 q386421) 11).toInt = (fI (F386420 q386421) 11).toInt ∧ (fI (F396971 q386421) 14).toInt = (fI (F386420 q386421) 14).toInt ∧ (gIp (o396969.toInt = 0) (γ = γ0 ∧ el = el0 ∧ F396971 = F386420)) ∧ mKp (F386420 q386421) (F396971 q386421)
set_option maxRecDepth 100000 in
set_option maxHeartbeats 1500000 in
theorem cg_386425_SpillForgeModel_merge (l : Launch) (hl0 : l.stackTraces = false) (D : va_G) (I : FieldType → ClassId) (γ0 el0 : Nat → Nat → Nat) (f : Nat) (B : Nat) (P386419 : List Nat) (F386420 : Nat → va_E) (q386421 : Nat) (q386422 : Nat) (p386423 : Int32) (hT0 : RS D I P386419 F386420 γ0 el0) (hzq386421 : rKd γ0 q386421 10) (hzq386422 : rKd γ0 q386422 9) (hf0 : γ0 1 q386422 = f) (hB0 : rBd γ0 el0 f B) (hBk : B ≤ 100000) (x386424 : 0 < γ0 6 f) : CtA (gV D I) l yX17_merge cX17_merge 9 (some FieldType.boolean) 5 111 (((387 * B + 6000) - rPh γ0 el0 f) / 18) ((387 * B + 6000) - rPh γ0 el0 f) [.ref q386421, .ref q386422, .int p386423] (va_pl P386419 F386420) (pg_386425_SpillForgeModel_merge D I γ0 el0 f B P386419 F386420 q386421 q386422 p386423) gNA := by
  refine CtA_of hl0 (by decide) (Nat.le_of_ble_eq_true rfl) ?_
  have bp386423 := gB_any p386423
  obtain ⟨γ, hγ0⟩ : ∃ z, z = γ0 := ⟨_, rfl⟩
  obtain ⟨el, hel0⟩ : ∃ z, z = el0 := ⟨_, rfl⟩
  have hT : RS D I P386419 F386420 γ el := by rw [hγ0, hel0]; exact hT0
  have hst : rSk f [] ([1, 3, 6] ++ npk) D I P386419 F386420 γ0 el0 P386419 F386420 γ el := by rw [hγ0, hel0]; exact rSk_rf hT0
  have hph : rPh γ0 el0 f ≤ rPh γ el f := by rw [hγ0, hel0]; exact Nat.le_refl _
  have hB : rBd γ el f B := by rw [hγ0, hel0]; exact hB0
  have htq386421 : rKd γ q386421 10 := by rw [hγ0]; exact hzq386421
  have htq386422 : rKd γ q386422 9 := by rw [hγ0]; exact hzq386422
  have hf1 : γ 1 q386422 = f := by rw [hγ0]; exact hf0
  have x386424n : 0 < γ 6 f := by rw [hγ0]; exact x386424
  have pk386426 : rPh γ el f ≤ 387 * B + 6000 := rm_pk (rM_ge hT htq386422 hf1).1 (rM_bd hB)
  refine G_widen (cs' := ((rPh γ el f - rPh γ0 el0 f) / 18)) (sl' := (rPh γ el f - rPh γ0 el0 f)) (Nat.zero_le _) (Nat.zero_le _) ?_
  have e0_386427 : γ 6 f = γ0 6 f := by rw [hγ0]
  have e0_386428 : γ 7 f = γ0 7 f := by rw [hγ0]
  have e0_386429 : γ 16 f = γ0 16 f := by rw [hγ0]
  have e0_386430 : γ 18 f = γ0 18 f := by rw [hγ0]
  have e0_386431 : γ 19 f = γ0 19 f := by rw [hγ0]
  have v0_386432 : 0 < γ 6 (γ 1 q386422) := by rw [hf1, hγ0]; exact x386424
  have s0_386433 : rsum (fun i => γ 2 (γ 14 (el (γ 14 q386422) i))) (γ 6 f) = rsum (fun i => γ0 2 (γ0 14 (el0 (γ0 14 q386422) i))) (γ0 6 f) := by rw [hγ0, hel0]
  have hm386434 : q386421 ∈ P386419 := RS_m hT htq386421 (by decide)
  obtain ⟨q386436, q386437, p386438, p386439, p386440, p386441, p386442, p386443, p386444, p386445, p386446, p386447, p386448, p386449, p386450, p386451, p386452, he386435, hB386479, ht386453, ht386454, ht386455, ht386456, ht386457, ht386458, ht386459, ht386460, ht386461, ht386462, ht386463, ht386464, ht386465, ht386466, ht386467, ht386468, ht386469, ht386470, ht386471, ht386472, ht386473, ht386474, ht386475, ht386476, hB386480⟩ := show rk_10 γ (F386420 q386421) from RS_o hT htq386421
  have ac0_11 : (fI (F386420 q386421) 11).toInt = p386440.toInt := by rw [he386435]; rfl
  have ac0_14 : (fI (F386420 q386421) 14).toInt = p386443.toInt := by rw [he386435]; rfl
  have bp386440 : gB p386440 0 100 := (hB386479.2.2.1)
  have bp386443 : gB p386443 0 2000 := (hB386479.2.2.2.1)
  refine G_iconst 0 dr_cX17_merge_0 (by decide +kernel) ?_
  refine G_istore_n (L' := [(3, .int 0), (0, .ref q386421), (1, .ref q386422), (2, .int p386423)]) dr_cX17_merge_1 (Nat.le_of_ble_eq_true rfl) rfl ?_
  have hlp2_396179 : ∀ (n2_396179 : Nat) (g396179 : Int32), gB g396179 0 1000000 → ((1000001 : Int) - g396179.toInt).toNat < n2_396179 → G (gV D I) l (gRm 5 111 (((387 * B + 6000) - rPh γ0 el0 f) / 18) ((387 * B + 6000) - rPh γ0 el0 f)) (gMA (gV D I) (pg_386425_SpillForgeModel_merge D I γ0 el0 f B P386419 F386420 q386421 q386422 p386423) gNA (((387 * B + 6000) - rPh γ0 el0 f) / 18) ((387 * B + 6000) - rPh γ0 el0 f)) ky_386425_SpillForgeModel_merge 2 [(3, .int g396179), (0, .ref q386421), (1, .ref q386422), (2, .int p386423)] [] (va_pl P386419 F386420) ((rPh γ el f - rPh γ0 el0 f) / 18) (rPh γ el f - rPh γ0 el0 f) := by
    intro n2_396179
    induction n2_396179 with
    | zero => intro g396179 bg396179 hm2_396179; exact absurd hm2_396179 (Nat.not_lt_zero _)
    | succ n2_396179 ih2_396179 =>
      intro g396179 bg396179 hm2_396179
      refine G_iload_n 0 dr_cX17_merge_2 rfl ?_
      refine G_aload_n 2 dr_cX17_merge_3 rfl ?_
      have hm396181 : q386422 ∈ P386419 := RS_m hT htq386422 (by decide)
      obtain ⟨q396183, q396184, p396185, p396186, he396182, ht396202, ht396187, ht396188, ht396189, ht396190, r396191, r396192, r396193, r396194, r396195, r396196, r396197, r396198, r396199, r396200, r396201⟩ := show rk_9 γ el q386422 (F386420 q386422) from RS_o hT htq386422
      have bp396185 : gB p396185 0 1000000 := ⟨by omega, by omega⟩
      have bp396186 : gB p396186 0 1000000 := ⟨by omega, by omega⟩
      have hf396203 : γ 1 q396183 = f := (show γ 1 q396183 = γ 1 q386422 from ht396188).trans hf1
      have hf396204 : γ 1 q396184 = f := (show γ 1 q396184 = γ 1 q386422 from ht396190).trans hf1
      have r396205 : γ 6 (γ 1 q386422) = γ 6 f := by rw [hf1]
      have r396206 : γ 16 (γ 1 q386422) = γ 16 f := by rw [hf1]
      have r396207 : p396186.toInt = γ 6 f ∧ p396186.toInt ≤ 40 := by omega
      clear r396197
      refine Gw_callV (As := []) (gV_ok D I) (cp_12451_Code_size l hl0 D I P386419 F386420 q386422 q396183 q396184 p396185 p396186 hm396181 he396182) dr_cX17_merge_4 ⟨wr_10_160, wr_1_15, wr_9_131, by decide, rfl, (Nat.le_of_ble_eq_true rfl), (Nat.le_of_ble_eq_true rfl)⟩ wr_9_129 wr_9_130 hm396181 he396182 rfl (rm_zc pk386426) (rm_zs pk386426) (Nat.le_of_ble_eq_true rfl) (fun r396211 w396212 dc396208 ds396209 hp396210 => ?_) (fun _ _ _ _ _ z => z.elim)
      obtain ⟨rfl, rfl, hdc, hds⟩ := hp396210
      change G _ _ _ _ _ _ _ (.int p396186 :: _) _ _ _
      refine G_widen (cs' := ((rPh γ el f - rPh γ0 el0 f) / 18)) (sl' := (rPh γ el f - rPh γ0 el0 f)) (rm_d0 hdc) (rm_d0 hds) ?_
      refine G_icmp_ge 178 dr_cX17_merge_7 (by decide +kernel) (fun hc396213 => ?_) (fun hc396213 => ?_)
      · have r396214 : p396186.toInt ≤ g396179.toInt := gC_le hc396213
        have ac396215 : (fI (F386420 q386421) 11).toInt = p386440.toInt := by rw [he386435]; rfl
        have ac396216 : (fI (F386420 q386421) 14).toInt = p386443.toInt := by rw [he386435]; rfl
        refine G_iconst 0 dr_cX17_merge_178 (by decide +kernel) ?_
        exact G_zretA FieldType.boolean dr_cX17_merge_179 rfl rfl (show ((rPh γ el f - rPh γ0 el0 f) / 18) ≤ (((387 * B + 6000) - rPh γ0 el0 f) / 18) by omega) (show (rPh γ el f - rPh γ0 el0 f) ≤ ((387 * B + 6000) - rPh γ0 el0 f) by omega) ⟨P386419, F386420, γ, el, 0, rfl, rfl, hst, ⟨by omega, by omega⟩, hB, (gB_w (gBl (show Int32.toInt 0 = 0 by decide)) (by decide) (by decide)), (by have qa0 : Int32.toInt 0 = 0 := (by decide); omega), (by have qa0 : Int32.toInt 0 = 0 := (by decide); omega), (by have qa0 : Int32.toInt 0 = 0 := (by decide); omega), (by have qa0 : Int32.toInt 0 = 0 := (by decide); omega), (Or.inl (by decide)), (fun N h => by rw [hγ0, hel0]; exact h), (by have qa0 : Int32.toInt 0 = 0 := (by decide); omega), (by have qa0 : Int32.toInt 0 = 0 := (by decide); omega), (fun _ => ⟨hγ0, hel0, rfl⟩), mKp_rf⟩
      · have r396217 : g396179.toInt < p396186.toInt := gC_nle hc396213
        have bg396179' : gB g396179 0 999999 := ⟨by omega, by omega⟩
        have bp396186' : gB p396186 1 1000000 := ⟨by omega, by omega⟩
        refine G_aload_n 2 dr_cX17_merge_10 rfl ?_
        refine G_iload_n 0 dr_cX17_merge_11 rfl ?_
        have hm396218 : q396183 ∈ P386419 := RS_m hT ht396187 (by decide)
        obtain ⟨⟨p396220, p396221, q396222, he396219, r396223, r396224, r396225, r396227⟩, r396226⟩ := show rk_4 D I γ el F386420 q396183 from RS_o hT ht396187
        have bp396220 := gB_any p396220
        have bp396221 : gB p396221 0 1000000 := ⟨by omega, by omega⟩
        obtain ⟨r396228, r396229, n396236, f396237, r396230, r396231, r396232, r396233, r396234, r396235⟩ := rLC_n r396225 (by omega)
        have hm396238 : q396222 ∈ P386419 := RS_m hT r396228 (by decide)
        obtain ⟨q396239, hx396240⟩ : ∃ x, x = el q396183 g396179.toInt.toNat := ⟨_, rfl⟩
        have hx396241 : f396237 g396179.toNatClampNeg = some q396239 := (r396234 _ (show g396179.toInt.toNat < γ 2 q396183 by first | assumption | omega)).trans (by rw [hx396240])
        have ht396244 : rKd γ q396239 2 := by rw [hx396240]; exact (r396198 _ (by omega)).resolve_right (fun z => absurd z.1 (by omega))
        have ht396245 : rFm γ q396239 q396183 := by rw [hx396240]; exact (r396226 _ (show g396179.toInt.toNat < γ 2 q396183 by omega)).2.1
        have hm396246 : q396239 ∈ P386419 := RS_m hT ht396244 (by decide)
        obtain ⟨q396248, q396249, p396250, p396251, he396247, ht396258, ht396252, ht396253, ht396254, ht396255, ht396256, bp396250, bp396251, r396257, r396259, r396260⟩ := show rk_2 γ q396239 (F386420 q396239) from RS_o hT ht396244
        refine Gw_callV (As := [.int g396179]) (gV_ok D I) (cp_7723_Code_get l hl0 D I P386419 F386420 q386422 q396183 q396222 g396179 q396184 p396185 p396186 p396220 p396221 f396237 n396236 q396239 q396248 q396249 p396250 p396251 hm396181 hm396218 hm396238 hm396246 he396182 he396219 r396230 he396247 (gB_w bg396179' (by decide) (by decide)) (gB_w bp396221 (by decide) (by decide)) (by omega) (by omega) (by assumption) (by omega)) dr_cX17_merge_12 ⟨wr_10_161, wr_1_15, wr_10_141, by decide, rfl, (Nat.le_of_ble_eq_true rfl), (Nat.le_of_ble_eq_true rfl)⟩ wr_10_139 wr_10_140 hm396181 he396182 rfl (rm_zc pk386426) (rm_zs pk386426) (Nat.le_of_ble_eq_true rfl) (fun r396264 w396265 dc396261 ds396262 hp396263 => ?_) (fun _ _ _ _ _ z => z.elim)
        obtain ⟨rfl, rfl, hdc, hds⟩ := hp396263
        change G _ _ _ _ _ _ _ (.ref q396239 :: _) _ _ _
        refine G_widen (cs' := ((rPh γ el f - rPh γ0 el0 f) / 18)) (sl' := (rPh γ el f - rPh γ0 el0 f)) (rm_d0 hdc) (rm_d0 hds) ?_
        have hf396266 : γ 1 q396239 = f := (show γ 1 q396239 = γ 1 q396183 from ht396245).trans ((show γ 1 q396183 = γ 1 q386422 from ht396188).trans hf1)
        have hf396267 : γ 1 q396248 = f := (show γ 1 q396248 = γ 1 q396239 from ht396253).trans hf396266
        have hf396268 : γ 1 q396249 = f := (show γ 1 q396249 = γ 1 q396239 from ht396255).trans hf396266
        have r396269 : γ 6 (γ 1 q396239) = γ 6 f := by rw [hf396266]
        have r396270 : γ 7 (γ 1 q396239) = γ 7 f := by rw [hf396266]
        have r396271 : γ 19 (γ 1 q396239) = γ 19 f := by rw [hf396266]
        have r396272 := r396257.resolve_left (by omega)
        clear r396257
        have r396273 : γ 2 (γ 14 q396239) = γ 2 q396248 := by rw [ht396258.1]
        have r396274 : g396179.toInt.toNat < γ 2 (γ 14 q386422) := by rw [ht396202.1]; omega
        have r396275 : el (γ 14 q386422) g396179.toInt.toNat = q396239 := by rw [ht396202.1, hx396240]
        refine G_astore (L' := [(4, .ref q396239), (3, .int g396179), (0, .ref q386421), (1, .ref q386422), (2, .int p386423)]) dr_cX17_merge_15 (Nat.le_of_ble_eq_true rfl) rfl ?_
        refine G_iconst 0 dr_cX17_merge_17 (by decide +kernel) ?_
        refine G_istore (L' := [(5, .int 0), (4, .ref q396239), (3, .int g396179), (0, .ref q386421), (1, .ref q386422), (2, .int p386423)]) dr_cX17_merge_18 (Nat.le_of_ble_eq_true rfl) rfl ?_
        have hlp20_396616 : ∀ (n20_396616 : Nat) (g396616 : Int32), gB g396616 0 1000000 → ((1000001 : Int) - g396616.toInt).toNat < n20_396616 → G (gV D I) l (gRm 5 111 (((387 * B + 6000) - rPh γ0 el0 f) / 18) ((387 * B + 6000) - rPh γ0 el0 f)) (gMA (gV D I) (pg_386425_SpillForgeModel_merge D I γ0 el0 f B P386419 F386420 q386421 q386422 p386423) gNA (((387 * B + 6000) - rPh γ0 el0 f) / 18) ((387 * B + 6000) - rPh γ0 el0 f)) ky_386425_SpillForgeModel_merge 20 [(5, .int g396616), (4, .ref q396239), (3, .int g396179), (0, .ref q386421), (1, .ref q386422), (2, .int p386423)] [] (va_pl P386419 F386420) ((rPh γ el f - rPh γ0 el0 f) / 18) (rPh γ el f - rPh γ0 el0 f) := by
          intro n20_396616
          induction n20_396616 with
          | zero => intro g396616 bg396616 hm20_396616; exact absurd hm20_396616 (Nat.not_lt_zero _)
          | succ n20_396616 ih20_396616 =>
            intro g396616 bg396616 hm20_396616
            refine G_iload 0 dr_cX17_merge_20 rfl ?_
            refine G_aload 1 dr_cX17_merge_22 rfl ?_
            refine Gp_get 0 hm396246 he396247 dr_cX17_merge_24 (gk_X12 D I) (Nat.le_of_ble_eq_true rfl) wr_9_220 rfl ?_
            have hm396618 : q396248 ∈ P386419 := RS_m hT ht396252 (by decide)
            obtain ⟨⟨p396620, p396621, q396622, he396619, r396623, r396624, r396625, r396627⟩, r396626⟩ := show rk_3 D I γ el F386420 q396248 from RS_o hT ht396252
            have bp396620 := gB_any p396620
            have bp396621 : gB p396621 0 1000000 := ⟨by omega, by omega⟩
            refine Gw_callV (As := []) (gV_ok D I) (cp_7_ArrayList_size l hl0 D I P386419 F386420 q396248 p396620 q396622 p396621 hm396618 he396619 (gB_w bp396621 (by decide) (by decide))) dr_cX17_merge_27 ⟨wr_10_200, wr_1_18, wr_9_160, by decide, rfl, (Nat.le_of_ble_eq_true rfl), (Nat.le_of_ble_eq_true rfl)⟩ wr_9_158 wr_9_159 hm396618 he396619 rfl (rm_zc pk386426) (rm_zs pk386426) (Nat.le_of_ble_eq_true rfl) (fun r396631 w396632 dc396628 ds396629 hp396630 => ?_) (fun _ _ _ _ _ z => z.elim)
            obtain ⟨rfl, rfl, hdc, hds⟩ := hp396630
            change G _ _ _ _ _ _ _ (.int p396621 :: _) _ _ _
            refine G_widen (cs' := ((rPh γ el f - rPh γ0 el0 f) / 18)) (sl' := (rPh γ el f - rPh γ0 el0 f)) (rm_d0 hdc) (rm_d0 hds) ?_
            refine G_icmp_ge 172 dr_cX17_merge_30 (by decide +kernel) (fun hc396633 => ?_) (fun hc396633 => ?_)
            · have r396634 : p396621.toInt ≤ g396616.toInt := gC_le hc396633
              obtain ⟨z396635, hz396635⟩ : ∃ z : Int32, z = g396179 + Int32.ofInt 1 := ⟨_, rfl⟩
              have ez396635 : z396635.toInt = g396179.toInt + 1 := gI_inc hz396635 (by decide) bg396179' (by decide) (by decide)
              have bz396635 : gB z396635 1 1000000 := ⟨by omega, by omega⟩
              refine G_iinc (L' := [(3, .int z396635), (5, .int g396616), (4, .ref q396239), (0, .ref q386421), (1, .ref q386422), (2, .int p386423)]) z396635 2 dr_cX17_merge_172 rfl hz396635.symm (Nat.le_of_ble_eq_true rfl) rfl ?_
              refine G_goto 2 dr_cX17_merge_175 (by decide +kernel) ?_
              refine G_lv (L' := [(3, .int z396635), (0, .ref q386421), (1, .ref q386422), (2, .int p386423)]) [0, 3, 4, 5] rfl ?_
              exact ih2_396179 z396635 (gB_w bz396635 (by decide) (by decide)) (by omega)
            · have r396636 : g396616.toInt < p396621.toInt := gC_nle hc396633
              have bg396616' : gB g396616 0 999999 := ⟨by omega, by omega⟩
              have bp396621' : gB p396621 1 1000000 := ⟨by omega, by omega⟩
              refine G_aload 1 dr_cX17_merge_33 rfl ?_
              refine Gp_get 0 hm396246 he396247 dr_cX17_merge_35 (gk_X12 D I) (Nat.le_of_ble_eq_true rfl) wr_9_220 rfl ?_
              refine G_iload 0 dr_cX17_merge_38 rfl ?_
              obtain ⟨r396637, r396638, n396645, f396646, r396639, r396640, r396641, r396642, r396643, r396644⟩ := rLC_n r396625 (by omega)
              have hm396647 : q396622 ∈ P386419 := RS_m hT r396637 (by decide)
              obtain ⟨q396648, hx396649⟩ : ∃ x, x = el q396248 g396616.toInt.toNat := ⟨_, rfl⟩
              have hx396650 : f396646 g396616.toNatClampNeg = some q396648 := (r396643 _ (show g396616.toInt.toNat < γ 2 q396248 by first | assumption | omega)).trans (by rw [hx396649])
              have ht396651 : rKd γ q396648 1 := by rw [hx396649]; exact (r396626 _ (show g396616.toInt.toNat < γ 2 q396248 by first | assumption | omega)).1
              have ht396652 : rFm γ q396648 q396248 := by rw [hx396649]; exact (r396626 _ (show g396616.toInt.toNat < γ 2 q396248 by first | assumption | omega)).2.1
              have hf396653 : γ 1 q396648 = f := (show γ 1 q396648 = γ 1 q396248 from ht396652).trans hf396267
              refine Gw_callV (As := [.int g396616]) (gV_ok D I) (cp_22_ArrayList_get l hl0 D I P386419 F386420 q396248 q396622 g396616 p396620 p396621 f396646 n396645 q396648 hm396618 hm396647 he396619 r396639 (gB_w bg396616' (by decide) (by decide)) (gB_w bp396621' (by decide) (by decide)) (by omega) (by omega) (by assumption) (by omega)) dr_cX17_merge_40 ⟨wr_10_201, wr_1_18, wr_10_65, by decide, rfl, (Nat.le_of_ble_eq_true rfl), (Nat.le_of_ble_eq_true rfl)⟩ wr_10_63 wr_10_64 hm396618 he396619 rfl (rm_zc pk386426) (rm_zs pk386426) (Nat.le_of_ble_eq_true rfl) (fun r396657 w396658 dc396654 ds396655 hp396656 => ?_) (fun _ _ _ _ _ z => z.elim)
              obtain ⟨rfl, rfl, hdc, hds⟩ := hp396656
              change G _ _ _ _ _ _ _ (.ref q396648 :: _) _ _ _
              refine G_widen (cs' := ((rPh γ el f - rPh γ0 el0 f) / 18)) (sl' := (rPh γ el f - rPh γ0 el0 f)) (rm_d0 hdc) (rm_d0 hds) ?_
              have hm396659 : q396648 ∈ P386419 := RS_m hT ht396651 (by decide)
              obtain ⟨p396661, p396662, p396663, p396664, p396665, p396666, p396667, he396660, bp396661, bp396662, bp396665, bp396666, bp396667, r396668, r396669, r396670, r396671⟩ := show rk_1 γ q396648 (F386420 q396648) from RS_o hT ht396651
              have bp396663 := gB_any p396663
              have bp396664 := gB_any p396664
              have r396672 : γ 7 (γ 1 q396648) = γ 7 f := by rw [hf396653]
              refine Gp_cast hm396659 he396660 rfl dr_cX17_merge_43 wr_10_202 (gr_cast 1 rfl) ?_
              refine G_astore (L' := [(6, .ref q396648), (5, .int g396616), (4, .ref q396239), (3, .int g396179), (0, .ref q386421), (1, .ref q386422), (2, .int p386423)]) dr_cX17_merge_46 (Nat.le_of_ble_eq_true rfl) rfl ?_
              refine G_aload 0 dr_cX17_merge_48 rfl ?_
              refine Gp_get 0 hm396659 he396660 dr_cX17_merge_50 (gk_X15 D I) (Nat.le_of_ble_eq_true rfl) wr_9_177 rfl ?_
              refine G_if_ne 166 dr_cX17_merge_53 (by decide +kernel) (fun hc396673 => ?_) (fun hc396673 => ?_)
              · have r396674 : p396661.toInt ≠ 0 := gj_neq hc396673 (show Int32.toInt 0 = 0 by decide)
                have bp396661' : gB p396661 1 32 := ⟨by omega, by omega⟩
                obtain ⟨z396675, hz396675⟩ : ∃ z : Int32, z = g396616 + Int32.ofInt 1 := ⟨_, rfl⟩
                have ez396675 : z396675.toInt = g396616.toInt + 1 := gI_inc hz396675 (by decide) bg396616' (by decide) (by decide)
                have bz396675 : gB z396675 1 1000000 := ⟨by omega, by omega⟩
                refine G_iinc (L' := [(5, .int z396675), (6, .ref q396648), (4, .ref q396239), (3, .int g396179), (0, .ref q386421), (1, .ref q386422), (2, .int p386423)]) z396675 1 dr_cX17_merge_166 rfl hz396675.symm (Nat.le_of_ble_eq_true rfl) rfl ?_
                refine G_goto 20 dr_cX17_merge_169 (by decide +kernel) ?_
                refine G_lv (L' := [(5, .int z396675), (4, .ref q396239), (3, .int g396179), (0, .ref q386421), (1, .ref q386422), (2, .int p386423)]) [0, 2, 3, 4, 5, 6] rfl ?_
                exact ih20_396616 z396675 (gB_w bz396675 (by decide) (by decide)) (by omega)
              · have r396676 : p396661.toInt = 0 := gj_eq hc396673 (show Int32.toInt 0 = 0 by decide)
                have bp396661' : gB p396661 0 0 := ⟨by omega, by omega⟩
                refine G_aload 0 dr_cX17_merge_56 rfl ?_
                refine Gp_get 5 hm396659 he396660 dr_cX17_merge_58 (gk_X15 D I) (Nat.le_of_ble_eq_true rfl) wr_9_197 rfl ?_
                refine G_if_eq 166 dr_cX17_merge_61 (by decide +kernel) (fun hc396677 => ?_) (fun hc396677 => ?_)
                · have r396678 : p396666.toInt = 0 := gj_eq hc396677 (show Int32.toInt 0 = 0 by decide)
                  have bp396666' : gB p396666 0 0 := ⟨by omega, by omega⟩
                  obtain ⟨z396679, hz396679⟩ : ∃ z : Int32, z = g396616 + Int32.ofInt 1 := ⟨_, rfl⟩
                  have ez396679 : z396679.toInt = g396616.toInt + 1 := gI_inc hz396679 (by decide) bg396616' (by decide) (by decide)
                  have bz396679 : gB z396679 1 1000000 := ⟨by omega, by omega⟩
                  refine G_iinc (L' := [(5, .int z396679), (6, .ref q396648), (4, .ref q396239), (3, .int g396179), (0, .ref q386421), (1, .ref q386422), (2, .int p386423)]) z396679 1 dr_cX17_merge_166 rfl hz396679.symm (Nat.le_of_ble_eq_true rfl) rfl ?_
                  refine G_goto 20 dr_cX17_merge_169 (by decide +kernel) ?_
                  refine G_lv (L' := [(5, .int z396679), (4, .ref q396239), (3, .int g396179), (0, .ref q386421), (1, .ref q386422), (2, .int p386423)]) [0, 2, 3, 4, 5, 6] rfl ?_
                  exact ih20_396616 z396679 (gB_w bz396679 (by decide) (by decide)) (by omega)
                · have r396680 : p396666.toInt ≠ 0 := gj_neq hc396677 (show Int32.toInt 0 = 0 by decide)
                  have bp396666' : gB p396666 1 1 := ⟨by omega, by omega⟩
                  refine G_aload 0 dr_cX17_merge_64 rfl ?_
                  refine Gp_get 1 hm396659 he396660 dr_cX17_merge_66 (gk_X15 D I) (Nat.le_of_ble_eq_true rfl) wr_9_182 rfl ?_
                  refine G_aload 0 dr_cX17_merge_69 rfl ?_
                  refine Gp_get 2 hm396659 he396660 dr_cX17_merge_71 (gk_X15 D I) (Nat.le_of_ble_eq_true rfl) wr_9_186 rfl ?_
                  refine G_icmp_eq 98 dr_cX17_merge_74 (by decide +kernel) (fun hc396681 => ?_) (fun hc396681 => ?_)
                  · have r396682 : p396662.toInt = p396663.toInt := gC_eq hc396681
                    have bp396663' : gB p396663 0 1999 := ⟨by omega, by omega⟩
                    refine G_aload 0 dr_cX17_merge_98 rfl ?_
                    refine Gp_get 1 hm396659 he396660 dr_cX17_merge_100 (gk_X15 D I) (Nat.le_of_ble_eq_true rfl) wr_9_182 rfl ?_
                    refine G_aload 0 dr_cX17_merge_103 rfl ?_
                    refine Gp_get 2 hm396659 he396660 dr_cX17_merge_105 (gk_X15 D I) (Nat.le_of_ble_eq_true rfl) wr_9_186 rfl ?_
                    refine G_mmin dr_cX17_merge_108 wr_11_20 wr_3_227 wr_1_6 wr_3_228 (Nat.le_of_ble_eq_true rfl) (Nat.le_of_ble_eq_true rfl) (show ((rPh γ el f - rPh γ0 el0 f) / 18) ≤ (((387 * B + 6000) - rPh γ0 el0 f) / 18) by first | omega | decide) (show (rPh γ el f - rPh γ0 el0 f) ≤ ((387 * B + 6000) - rPh γ0 el0 f) by first | omega | decide) (G_nam fun z396683 hz396683 => ?_)
                    have ez396683 : p396662.toInt ≥ z396683.toInt ∧ p396663.toInt ≥ z396683.toInt ∧ (z396683.toInt = p396662.toInt ∨ z396683.toInt = p396663.toInt) := by have := gI_min hz396683; omega
                    have bz396683 : gB z396683 0 1999 := ⟨by omega, by omega⟩
                    refine G_istore (L' := [(7, .int z396683), (6, .ref q396648), (5, .int g396616), (4, .ref q396239), (3, .int g396179), (0, .ref q386421), (1, .ref q386422), (2, .int p386423)]) dr_cX17_merge_111 (Nat.le_of_ble_eq_true rfl) rfl ?_
                    refine G_aload 1 dr_cX17_merge_113 rfl ?_
                    refine Gp_get 1 hm396659 he396660 dr_cX17_merge_115 (gk_X15 D I) (Nat.le_of_ble_eq_true rfl) wr_9_182 rfl ?_
                    refine G_aload 1 dr_cX17_merge_118 rfl ?_
                    refine Gp_get 2 hm396659 he396660 dr_cX17_merge_120 (gk_X15 D I) (Nat.le_of_ble_eq_true rfl) wr_9_186 rfl ?_
                    refine G_mmax dr_cX17_merge_123 wr_11_21 wr_1_140 wr_1_6 wr_1_141 (Nat.le_of_ble_eq_true rfl) (Nat.le_of_ble_eq_true rfl) (show ((rPh γ el f - rPh γ0 el0 f) / 18) ≤ (((387 * B + 6000) - rPh γ0 el0 f) / 18) by first | omega | decide) (show (rPh γ el f - rPh γ0 el0 f) ≤ ((387 * B + 6000) - rPh γ0 el0 f) by first | omega | decide) (G_nam fun z396684 hz396684 => ?_)
                    have ez396684 : p396662.toInt ≤ z396684.toInt ∧ p396663.toInt ≤ z396684.toInt ∧ (z396684.toInt = p396662.toInt ∨ z396684.toInt = p396663.toInt) := by have := gI_max hz396684; omega
                    have bz396684 : gB z396684 0 1999 := ⟨by omega, by omega⟩
                    refine G_istore (L' := [(8, .int z396684), (7, .int z396683), (6, .ref q396648), (5, .int g396616), (4, .ref q396239), (3, .int g396179), (0, .ref q386421), (1, .ref q386422), (2, .int p386423)]) dr_cX17_merge_126 (Nat.le_of_ble_eq_true rfl) rfl ?_
                    refine G_aload 4 dr_cX17_merge_128 rfl ?_
                    refine Gp_get 0 hm396246 he396247 dr_cX17_merge_130 (gk_X12 D I) (Nat.le_of_ble_eq_true rfl) wr_9_220 rfl ?_
                    refine G_iload 3 dr_cX17_merge_133 rfl ?_
                    have rg396685 := rM_ge hT htq386422 hf1
                    have rm396686 := rM_bd hB
                    have bd396687 := rBd_c hT htq386422 hf1 hB
                    have rc396688 := rc_at hT htq386422 hf1
                    have r396690 : γ 14 (el (γ 14 q386422) g396179.toInt.toNat) = q396248 := by rw [r396275]; exact ht396258.1
                    have r396691 := rg396685.2.2 _ r396274
                    rw [r396690] at r396691
                    have r396692 := bd396687.2.2.2 _ r396274
                    rw [r396690] at r396692
                    obtain ⟨q396694, hq396694⟩ : ∃ x, x = el q396248 g396616.toInt.toNat := ⟨_, rfl⟩
                    refine Gt_rem (c := q386422) (f := f) hl0 dr_cX17_merge_135 ⟨wr_11_22, wr_1_18, wr_11_25, by decide, rfl, (Nat.le_of_ble_eq_true rfl), (Nat.le_of_ble_eq_true rfl)⟩ wr_11_23 wr_11_24 hT ht396252 hf396267 htq386422 hf1 (by omega) (by omega) (rm_zc pk386426) (rm_zs pk386426) (Nat.le_of_ble_eq_true rfl) (fun F396689 γ el hq396693 => ?_)
                    rw [← hq396694]
                    have vv396706 := RS_valid hT0 hzq386422 hf0 x386424
                    rw [← hγ0] at vv396706
                    have sm396705 := rDq_sum (m := γ0 6 f) hT htq386422 hf1 (show g396179.toInt.toNat < γ0 6 f by omega) (by omega) r396690 (show g396616.toInt.toNat < _ by omega) hq396693
                    rw [hγ0, hel0] at sm396705
                    have dn396707 := fun (N : Nat → Prop) hN => rPl_dx (N := N) hT htq386422 hf1 hq396693 r396690 (show g396179.toInt.toNat < _ by omega) (show g396616.toInt.toNat < _ by omega) hN
                    rw [hγ0, hel0] at dn396707
                    have nm396708 := fun (N : Nat → Prop) hN => rPl_nm (N := N) (f := f) (j := g396616.toInt.toNat) hN (show g396179.toInt.toNat < _ by omega) r396690 (show g396616.toInt.toNat < _ by omega) hx396649.symm he396660 (by omega) (by omega)
                    rw [hγ0, hel0] at nm396708
                    obtain ⟨hk396695, h2396696, hel396697, hot396698, h16396699, h18396700, hnu396701, hr396702, hM396703, hBB396704⟩ := hq396693
                    have hk396709 := rSk_of hk396695
                    have r396710 : (fI (F396689 q386422) 3).toInt = (fI (F386420 q386422) 3).toInt := by rw [rSk_F hk396709 htq386422 (by decide) (by decide)]
                    have hT396711 := hk396709.1
                    have hs396712 := rSk_tr hst hk396709 (by decide) (by decide) (by decide)
                    have kp396713 : F396689 q386421 = F386420 q386421 := rSk_F hk396709 htq386421 (by decide) (by decide)
                    have r396714 := rSk_F hk396709 htq386421 (by decide) (by decide)
                    have ht396715 : rKd γ q386421 10 := rSk_k hk396709 htq386421 (by decide) (by decide)
                    have ht396716 : rKd γ q386422 9 := rSk_k hk396709 htq386422 (by decide) (by decide)
                    have hf396717 : γ 1 q386422 = f := rSk_1 hk396709 htq386422 (by decide) hf1
                    have ht396718 : rKd γ q396239 2 := rSk_k hk396709 ht396244 (by decide) (by decide)
                    have hf396719 : γ 1 q396239 = f := rSk_1 hk396709 ht396244 (by decide) hf396266
                    have ht396720 : rKd γ q396248 3 := rSk_k hk396709 ht396252 (by decide) (by decide)
                    have hf396721 : γ 1 q396248 = f := rSk_1 hk396709 ht396252 (by decide) hf396267
                    have ht396722 : rKd γ q396648 1 := rSk_k hk396709 ht396651 (by decide) (by decide)
                    have hf396723 : γ 1 q396648 = f := rSk_1 hk396709 ht396651 (by decide) hf396653
                    have mk396724 : mKp (F386420 q386421) (F396689 q386421) := mKp_tr mKp_rf (mKp_eq (rSk_F hk396709 htq386421 (by decide) (by decide)))
                    have r396725 := (rSk_s hk396709 htq386422 (by decide)).2.1
                    have r396726 := hot396698 _ (by rw [rc396688.2.1]; decide) (fun q => by rw [q, show _ = 3 from ht396252] at rc396688; exact absurd rc396688.2.1 (by decide))
                    have r396727 : g396179.toInt.toNat < γ 2 (γ 14 q386422) := by rw [r396725, r396726.1]; exact r396274
                    have r396728 : el (γ 14 q386422) g396179.toInt.toNat = q396239 := by rw [r396725, r396726.2]; exact r396275
                    have he396729 : F396689 q396648 = .inr (20, [.int p396661, .int p396662, .int p396663, .int p396664, .int p396665, .int p396666, .int p396667]) := (rSk_F hk396709 ht396651 (by decide) (by decide)).trans he396660
                    have hm396730 : q396648 ∈ P386419 := RS_m hT396711 ht396722 (by decide)
                    clear r396191 r396192 r396193 r396194 r396195 r396196 r396198 r396199 r396200 r396201 bp396185 bp396186 bp396250 bp396251 r396259 r396260 rg396685 rm396686 bd396687 rc396688 r396691 r396692
                    have hm396731 : q386421 ∈ P386419 := RS_m hT396711 ht396715 (by decide)
                    obtain ⟨q396733, q396734, p396735, p396736, p396737, p396738, p396739, p396740, p396741, p396742, p396743, p396744, p396745, p396746, p396747, p396748, p396749, he396732, hB396776, ht396750, ht396751, ht396752, ht396753, ht396754, ht396755, ht396756, ht396757, ht396758, ht396759, ht396760, ht396761, ht396762, ht396763, ht396764, ht396765, ht396766, ht396767, ht396768, ht396769, ht396770, ht396771, ht396772, ht396773, hB396777⟩ := show rk_10 γ (F396689 q386421) from RS_o hT396711 ht396715
                    have r396778 : p396737.toInt = p386440.toInt := by have z : p396737 = p386440 := congrArg (fun e => fI e 11) (he396732.symm.trans (r396714.trans he386435)); rw [z]
                    have bp396737 : gB p396737 0 100 := (hB396776.2.2.1)
                    have r396779 : p396740.toInt = p386443.toInt := by have z : p396740 = p386443 := congrArg (fun e => fI e 14) (he396732.symm.trans (r396714.trans he386435)); rw [z]
                    have bp396740 : gB p396740 0 2000 := (hB396776.2.2.2.1)
                    obtain ⟨nu396780, nu396781, nu396782, nu396783⟩ := hnu396701
                    have hB396784 : rBd γ el f B := hBB396704 B hB
                    have hph396785 : rPh γ0 el0 f ≤ rPh γ el f := by rw [hr396702]; exact hph
                    have pk396786 : rPh γ el f ≤ 387 * B + 6000 := rm_pk (rM_ge hT396711 ht396716 hf396717).1 (rM_bd hB396784)
                    refine G_widen (cs' := ((rPh γ el f - rPh γ0 el0 f) / 18)) (sl' := (rPh γ el f - rPh γ0 el0 f)) (rm_ec hr396702) (rm_es hr396702) ?_
                    refine G_pop dr_cX17_merge_138 rfl ?_
                    refine G_aload_n 6 dr_cX17_merge_139 rfl ?_
                    refine G_dup dr_cX17_merge_140 rfl ?_
                    refine Gp_get 13 hm396731 he396732 dr_cX17_merge_141 (gk_X17 D I) (Nat.le_of_ble_eq_true rfl) wr_7_87 rfl ?_
                    have bp396739 : gB p396739 (-2147483648) 2147483647 := (gB_any p396739)
                    refine G_iconst 1 dr_cX17_merge_144 (by decide +kernel) ?_
                    refine G_iadd dr_cX17_merge_145 (G_nam fun z396787 hz396787 => ?_)
                    have bz396787 : gB z396787 (-2147483648) 2147483647 := gB_any z396787
                    refine Gp_put 13 hm396731 he396732 dr_cX17_merge_146 (gk_X17 D I) (Nat.le_of_ble_eq_true rfl) wr_7_87 rfl rfl rfl (Nat.le_of_ble_eq_true rfl) (fun F396788 e396789 n396790 => ?_)
                    have he396791 : F396788 q396648 = .inr (20, [.int p396661, .int p396662, .int p396663, .int p396664, .int p396665, .int p396666, .int p396667]) := (n396790 q396648 (rn_oo he396729 he396732 (by decide))).trans he396729
                    have he396792 : F396788 q386421 = .inr (22, [.ref (γ 9 0), .ref (γ 9 1), .ref (γ 9 2), .ref (γ 9 3), .ref (γ 9 4), .ref (γ 9 5), .ref (γ 9 6), .ref (γ 9 7), .ref (γ 9 8), .int p396735, .int p396736, .int p396737, .int p396738, .int z396787, .int p396740, .ref (γ 9 15), .ref (γ 9 16), .ref (γ 9 17), .ref (γ 9 18), .ref (γ 9 19), .ref (γ 9 20), .ref (γ 9 21), .ref (γ 9 22), .int p396741, .int p396742, .int p396743, .int p396744, .int p396745, .ref q396733, .ref (γ 9 29), .int p396746, .ref (γ 9 31), .int p396747, .int p396748, .int p396749, .ref q396734]) := e396789
                    have mk396793 : mKp (F386420 q386421) (F396788 q386421) := mKp_tr mk396724 (by rw [he396732, he396792]; exact ⟨rfl, rfl⟩)
                    have hT396794 : RS D I P386419 F396788 γ el := RS_set hT396711 n396790 ht396715 (by decide) ⟨q396733, q396734, p396735, p396736, p396737, p396738, z396787, p396740, p396741, p396742, p396743, p396744, p396745, p396746, p396747, p396748, p396749, he396792, ⟨(hB396776.1), (hB396776.2.1), bp396737, bp396740, (hB396776.2.2.2.2.1), (hB396776.2.2.2.2.2.1), (hB396776.2.2.2.2.2.2.1), (hB396776.2.2.2.2.2.2.2.1), (hB396776.2.2.2.2.2.2.2.2)⟩, ht396750, ht396751, ht396752, ht396753, ht396754, ht396755, ht396756, ht396757, ht396758, ht396759, ht396760, ht396761, ht396762, ht396763, ht396764, ht396765, ht396766, ht396767, ht396768, ht396769, ht396770, ht396771, ht396772, ht396773, hB396777⟩
                    have hs396795 := rSk_put hs396712 hT396794 n396790 ht396715 (by decide) (by decide)
                    have dn396796 : ∀ N : Nat → Prop, rPl γ0 el0 F386420 q386422 (γ0 6 f) (fun _ _ => rNx N) → rPl γ el F396788 q386422 (γ 6 f) (fun _ _ => rNx N) := fun N hN => rPl_fr hT396711 ht396716 hf396717 (dn396707 N hN) (fun b hb _ => n396790 b (rn_ty (show rKd γ b 1 from hb) ht396715 (by decide)))
                    refine G_iload 1 dr_cX17_merge_149 rfl ?_
                    refine G_iload 0 dr_cX17_merge_151 rfl ?_
                    refine G_icmp_eq 164 dr_cX17_merge_153 (by decide +kernel) (fun hc396797 => ?_) (fun hc396797 => ?_)
                    · have r396798 : z396683.toInt = z396684.toInt := gC_eq hc396797
                      have ac396799 : (fI (F396788 q386421) 11).toInt = p396737.toInt := by rw [he396792]; rfl
                      have ac396800 : (fI (F396788 q386421) 14).toInt = p396740.toInt := by rw [he396792]; rfl
                      refine G_iconst 1 dr_cX17_merge_164 (by decide +kernel) ?_
                      exact G_zretA FieldType.boolean dr_cX17_merge_165 rfl rfl (show ((rPh γ el f - rPh γ0 el0 f) / 18) ≤ (((387 * B + 6000) - rPh γ0 el0 f) / 18) by omega) (show (rPh γ el f - rPh γ0 el0 f) ≤ ((387 * B + 6000) - rPh γ0 el0 f) by omega) ⟨P386419, F396788, γ, el, 1, rfl, rfl, hs396795, ⟨by omega, by omega⟩, hB396784, (gB_w (gBl (show Int32.toInt 1 = 1 by decide)) (by decide) (by decide)), (by have qa0 : Int32.toInt 1 = 1 := (by decide); omega), (by have qa0 : Int32.toInt 1 = 1 := (by decide); omega), (by have qa0 : Int32.toInt 1 = 1 := (by decide); omega), (by have qa0 : Int32.toInt 1 = 1 := (by decide); omega), (Or.inr (by rw [show γ 6 f = γ0 6 f by omega]; exact Nat.le_of_eq sm396705)), dn396796, (by have qa0 : Int32.toInt 1 = 1 := (by decide); omega), (by have qa0 : Int32.toInt 1 = 1 := (by decide); omega), (fun h => absurd h (by decide)), mk396793⟩
                    · have r396801 : z396683.toInt ≠ z396684.toInt := gC_ne hc396797
                      refine G_aload_n 7 dr_cX17_merge_156 rfl ?_
                      refine G_iload 0 dr_cX17_merge_157 rfl ?_
                      refine G_iload 1 dr_cX17_merge_159 rfl ?_
                      have v0_396802 : 0 < γ 6 (γ 1 q386422) := by rw [hf396717]; omega
                      refine Gw_callS (As := [.ref q386422, .int z396684, .int z396683]) (gV_ok D I) (ct_359236_SpillForgeModel_rename l hl0 D I γ el P386419 F396788 q386422 z396684 z396683 hT396794 ht396716 bz396684 bz396683 (by omega)) dr_cX17_merge_161 ⟨wr_11_30, wr_1_14, wr_11_32, by decide, rfl, (Nat.le_of_ble_eq_true rfl), (Nat.le_of_ble_eq_true rfl)⟩ wr_11_31 (rm_zc pk396786) (rm_zs pk396786) (Nat.le_of_ble_eq_true rfl) (fun r396806 w396807 dc396803 ds396804 hp396805 => ?_) (fun _ _ _ _ _ z => z.elim)
                      obtain ⟨F396810, rfl, rfl, hT396811, hs396812, hdc, hds, x396808, x396809⟩ := hp396805
                      have hs396813 := rSk_str hs396795 hT396811 hs396812 (by decide) (by decide) (by decide)
                      have kp396814 : F396810 q386421 = F396788 q386421 := x396809 q386421 (rT0 ht396715 (by decide)) (rT2 ht396715 (by decide))
                      have mk396815 : mKp (F386420 q386421) (F396810 q386421) := mKp_tr mk396793 (mKp_eq (x396809 q386421 (rT0 ht396715 (by decide)) (rT2 ht396715 (by decide))))
                      have he396816 : F396810 q386421 = .inr (22, [.ref (γ 9 0), .ref (γ 9 1), .ref (γ 9 2), .ref (γ 9 3), .ref (γ 9 4), .ref (γ 9 5), .ref (γ 9 6), .ref (γ 9 7), .ref (γ 9 8), .int p396735, .int p396736, .int p396737, .int p396738, .int z396787, .int p396740, .ref (γ 9 15), .ref (γ 9 16), .ref (γ 9 17), .ref (γ 9 18), .ref (γ 9 19), .ref (γ 9 20), .ref (γ 9 21), .ref (γ 9 22), .int p396741, .int p396742, .int p396743, .int p396744, .int p396745, .ref q396733, .ref (γ 9 29), .int p396746, .ref (γ 9 31), .int p396747, .int p396748, .int p396749, .ref q396734]) := (x396809 q386421 (rT0 ht396715 (by decide)) (rT2 ht396715 (by decide))).trans he396792
                      change G _ _ _ _ _ _ _ _ _ _ _
                      refine G_widen (cs' := ((rPh γ el f - rPh γ0 el0 f) / 18)) (sl' := (rPh γ el f - rPh γ0 el0 f)) (rm_d0 hdc) (rm_d0 hds) ?_
                      have dn396817 : ∀ N : Nat → Prop, rPl γ0 el0 F386420 q386422 (γ0 6 f) (fun _ _ => rNx N) → rPl γ el F396810 q386422 (γ 6 f) (fun _ _ => rNx N) := fun N hN => by have z := x396808 N ((show z396683.toInt = p396662.toInt ∨ z396683.toInt = p396663.toInt by omega).elim (fun e => by rw [e]; exact (nm396708 N hN).1) (fun e => by rw [e]; exact (nm396708 N hN).2)) (by omega); rw [hf396717] at z; exact z (dn396796 N hN)
                      have ac396818 : (fI (F396810 q386421) 11).toInt = p396737.toInt := by rw [he396816]; rfl
                      have ac396819 : (fI (F396810 q386421) 14).toInt = p396740.toInt := by rw [he396816]; rfl
                      refine G_iconst 1 dr_cX17_merge_164 (by decide +kernel) ?_
                      exact G_zretA FieldType.boolean dr_cX17_merge_165 rfl rfl (show ((rPh γ el f - rPh γ0 el0 f) / 18) ≤ (((387 * B + 6000) - rPh γ0 el0 f) / 18) by omega) (show (rPh γ el f - rPh γ0 el0 f) ≤ ((387 * B + 6000) - rPh γ0 el0 f) by omega) ⟨P386419, F396810, γ, el, 1, rfl, rfl, hs396813, ⟨by omega, by omega⟩, hB396784, (gB_w (gBl (show Int32.toInt 1 = 1 by decide)) (by decide) (by decide)), (by have qa0 : Int32.toInt 1 = 1 := (by decide); omega), (by have qa0 : Int32.toInt 1 = 1 := (by decide); omega), (by have qa0 : Int32.toInt 1 = 1 := (by decide); omega), (by have qa0 : Int32.toInt 1 = 1 := (by decide); omega), (Or.inr (by rw [show γ 6 f = γ0 6 f by omega]; exact Nat.le_of_eq sm396705)), dn396817, (by have qa0 : Int32.toInt 1 = 1 := (by decide); omega), (by have qa0 : Int32.toInt 1 = 1 := (by decide); omega), (fun h => absurd h (by decide)), mk396815⟩
                  · have r396820 : p396662.toInt ≠ p396663.toInt := gC_ne hc396681
                    refine G_aload_n 4 dr_cX17_merge_77 rfl ?_
                    refine G_aload 0 dr_cX17_merge_78 rfl ?_
                    refine Gp_get 1 hm396659 he396660 dr_cX17_merge_80 (gk_X15 D I) (Nat.le_of_ble_eq_true rfl) wr_9_182 rfl ?_
                    refine G_aload 0 dr_cX17_merge_83 rfl ?_
                    refine Gp_get 2 hm396659 he396660 dr_cX17_merge_85 (gk_X15 D I) (Nat.le_of_ble_eq_true rfl) wr_9_186 rfl ?_
                    refine G_iload_n 6 dr_cX17_merge_88 rfl ?_
                    refine Gw_callV (As := [.int p396662, .int p396663, .int p386423]) (gV_ok D I) (ct_384552_SpillForgeModel_mayMerge l hl0 D I γ el P386419 F386420 q386421 p396662 p396663 p386423 hT htq386421 bp396662 ⟨by omega, by omega⟩) dr_cX17_merge_89 ⟨wr_11_12, wr_1_14, wr_11_15, by decide, rfl, (Nat.le_of_ble_eq_true rfl), (Nat.le_of_ble_eq_true rfl)⟩ wr_11_14 wr_p_102 hm386434 he386435 rfl (rm_zc pk386426) (rm_zs pk386426) (Nat.le_of_ble_eq_true rfl) (fun r396824 w396825 dc396821 ds396822 hp396823 => ?_) (fun _ _ _ _ _ z => z.elim)
                    obtain ⟨o396826, rfl, rfl, hdc, hds, bo396826, x396827⟩ := hp396823
                    change G _ _ _ _ _ _ _ (.int o396826 :: _) _ _ _
                    refine G_widen (cs' := ((rPh γ el f - rPh γ0 el0 f) / 18)) (sl' := (rPh γ el f - rPh γ0 el0 f)) (rm_d0 hdc) (rm_d0 hds) ?_
                    refine G_if_ne 98 dr_cX17_merge_92 (by decide +kernel) (fun hc396828 => ?_) (fun hc396828 => ?_)
                    · have r396829 : o396826.toInt ≠ 0 := gj_neq hc396828 (show Int32.toInt 0 = 0 by decide)
                      have bo396826' : gB o396826 1 1 := ⟨by omega, by omega⟩
                      have bp396663' : gB p396663 0 1999 := ⟨by omega, by omega⟩
                      refine G_aload 0 dr_cX17_merge_98 rfl ?_
                      refine Gp_get 1 hm396659 he396660 dr_cX17_merge_100 (gk_X15 D I) (Nat.le_of_ble_eq_true rfl) wr_9_182 rfl ?_
                      refine G_aload 0 dr_cX17_merge_103 rfl ?_
                      refine Gp_get 2 hm396659 he396660 dr_cX17_merge_105 (gk_X15 D I) (Nat.le_of_ble_eq_true rfl) wr_9_186 rfl ?_
                      refine G_mmin dr_cX17_merge_108 wr_11_20 wr_3_227 wr_1_6 wr_3_228 (Nat.le_of_ble_eq_true rfl) (Nat.le_of_ble_eq_true rfl) (show ((rPh γ el f - rPh γ0 el0 f) / 18) ≤ (((387 * B + 6000) - rPh γ0 el0 f) / 18) by first | omega | decide) (show (rPh γ el f - rPh γ0 el0 f) ≤ ((387 * B + 6000) - rPh γ0 el0 f) by first | omega | decide) (G_nam fun z396830 hz396830 => ?_)
                      have ez396830 : p396662.toInt ≥ z396830.toInt ∧ p396663.toInt ≥ z396830.toInt ∧ (z396830.toInt = p396662.toInt ∨ z396830.toInt = p396663.toInt) := by have := gI_min hz396830; omega
                      have bz396830 : gB z396830 0 1999 := ⟨by omega, by omega⟩
                      refine G_istore (L' := [(7, .int z396830), (6, .ref q396648), (5, .int g396616), (4, .ref q396239), (3, .int g396179), (0, .ref q386421), (1, .ref q386422), (2, .int p386423)]) dr_cX17_merge_111 (Nat.le_of_ble_eq_true rfl) rfl ?_
                      refine G_aload 1 dr_cX17_merge_113 rfl ?_
                      refine Gp_get 1 hm396659 he396660 dr_cX17_merge_115 (gk_X15 D I) (Nat.le_of_ble_eq_true rfl) wr_9_182 rfl ?_
                      refine G_aload 1 dr_cX17_merge_118 rfl ?_
                      refine Gp_get 2 hm396659 he396660 dr_cX17_merge_120 (gk_X15 D I) (Nat.le_of_ble_eq_true rfl) wr_9_186 rfl ?_
                      refine G_mmax dr_cX17_merge_123 wr_11_21 wr_1_140 wr_1_6 wr_1_141 (Nat.le_of_ble_eq_true rfl) (Nat.le_of_ble_eq_true rfl) (show ((rPh γ el f - rPh γ0 el0 f) / 18) ≤ (((387 * B + 6000) - rPh γ0 el0 f) / 18) by first | omega | decide) (show (rPh γ el f - rPh γ0 el0 f) ≤ ((387 * B + 6000) - rPh γ0 el0 f) by first | omega | decide) (G_nam fun z396831 hz396831 => ?_)
                      have ez396831 : p396662.toInt ≤ z396831.toInt ∧ p396663.toInt ≤ z396831.toInt ∧ (z396831.toInt = p396662.toInt ∨ z396831.toInt = p396663.toInt) := by have := gI_max hz396831; omega
                      have bz396831 : gB z396831 0 1999 := ⟨by omega, by omega⟩
                      refine G_istore (L' := [(8, .int z396831), (7, .int z396830), (6, .ref q396648), (5, .int g396616), (4, .ref q396239), (3, .int g396179), (0, .ref q386421), (1, .ref q386422), (2, .int p386423)]) dr_cX17_merge_126 (Nat.le_of_ble_eq_true rfl) rfl ?_
                      refine G_aload 4 dr_cX17_merge_128 rfl ?_
                      refine Gp_get 0 hm396246 he396247 dr_cX17_merge_130 (gk_X12 D I) (Nat.le_of_ble_eq_true rfl) wr_9_220 rfl ?_
                      refine G_iload 3 dr_cX17_merge_133 rfl ?_
                      have rg396832 := rM_ge hT htq386422 hf1
                      have rm396833 := rM_bd hB
                      have bd396834 := rBd_c hT htq386422 hf1 hB
                      have rc396835 := rc_at hT htq386422 hf1
                      have r396837 : γ 14 (el (γ 14 q386422) g396179.toInt.toNat) = q396248 := by rw [r396275]; exact ht396258.1
                      have r396838 := rg396832.2.2 _ r396274
                      rw [r396837] at r396838
                      have r396839 := bd396834.2.2.2 _ r396274
                      rw [r396837] at r396839
                      obtain ⟨q396841, hq396841⟩ : ∃ x, x = el q396248 g396616.toInt.toNat := ⟨_, rfl⟩
                      refine Gt_rem (c := q386422) (f := f) hl0 dr_cX17_merge_135 ⟨wr_11_22, wr_1_18, wr_11_25, by decide, rfl, (Nat.le_of_ble_eq_true rfl), (Nat.le_of_ble_eq_true rfl)⟩ wr_11_23 wr_11_24 hT ht396252 hf396267 htq386422 hf1 (by omega) (by omega) (rm_zc pk386426) (rm_zs pk386426) (Nat.le_of_ble_eq_true rfl) (fun F396836 γ el hq396840 => ?_)
                      rw [← hq396841]
                      have vv396853 := RS_valid hT0 hzq386422 hf0 x386424
                      rw [← hγ0] at vv396853
                      have sm396852 := rDq_sum (m := γ0 6 f) hT htq386422 hf1 (show g396179.toInt.toNat < γ0 6 f by omega) (by omega) r396837 (show g396616.toInt.toNat < _ by omega) hq396840
                      rw [hγ0, hel0] at sm396852
                      have dn396854 := fun (N : Nat → Prop) hN => rPl_dx (N := N) hT htq386422 hf1 hq396840 r396837 (show g396179.toInt.toNat < _ by omega) (show g396616.toInt.toNat < _ by omega) hN
                      rw [hγ0, hel0] at dn396854
                      have nm396855 := fun (N : Nat → Prop) hN => rPl_nm (N := N) (f := f) (j := g396616.toInt.toNat) hN (show g396179.toInt.toNat < _ by omega) r396837 (show g396616.toInt.toNat < _ by omega) hx396649.symm he396660 (by omega) (by omega)
                      rw [hγ0, hel0] at nm396855
                      obtain ⟨hk396842, h2396843, hel396844, hot396845, h16396846, h18396847, hnu396848, hr396849, hM396850, hBB396851⟩ := hq396840
                      have hk396856 := rSk_of hk396842
                      have r396857 : (fI (F396836 q386422) 3).toInt = (fI (F386420 q386422) 3).toInt := by rw [rSk_F hk396856 htq386422 (by decide) (by decide)]
                      have hT396858 := hk396856.1
                      have hs396859 := rSk_tr hst hk396856 (by decide) (by decide) (by decide)
                      have kp396860 : F396836 q386421 = F386420 q386421 := rSk_F hk396856 htq386421 (by decide) (by decide)
                      have r396861 := rSk_F hk396856 htq386421 (by decide) (by decide)
                      have ht396862 : rKd γ q386421 10 := rSk_k hk396856 htq386421 (by decide) (by decide)
                      have ht396863 : rKd γ q386422 9 := rSk_k hk396856 htq386422 (by decide) (by decide)
                      have hf396864 : γ 1 q386422 = f := rSk_1 hk396856 htq386422 (by decide) hf1
                      have ht396865 : rKd γ q396239 2 := rSk_k hk396856 ht396244 (by decide) (by decide)
                      have hf396866 : γ 1 q396239 = f := rSk_1 hk396856 ht396244 (by decide) hf396266
                      have ht396867 : rKd γ q396248 3 := rSk_k hk396856 ht396252 (by decide) (by decide)
                      have hf396868 : γ 1 q396248 = f := rSk_1 hk396856 ht396252 (by decide) hf396267
                      have ht396869 : rKd γ q396648 1 := rSk_k hk396856 ht396651 (by decide) (by decide)
                      have hf396870 : γ 1 q396648 = f := rSk_1 hk396856 ht396651 (by decide) hf396653
                      have mk396871 : mKp (F386420 q386421) (F396836 q386421) := mKp_tr mKp_rf (mKp_eq (rSk_F hk396856 htq386421 (by decide) (by decide)))
                      have r396872 := (rSk_s hk396856 htq386422 (by decide)).2.1
                      have r396873 := hot396845 _ (by rw [rc396835.2.1]; decide) (fun q => by rw [q, show _ = 3 from ht396252] at rc396835; exact absurd rc396835.2.1 (by decide))
                      have r396874 : g396179.toInt.toNat < γ 2 (γ 14 q386422) := by rw [r396872, r396873.1]; exact r396274
                      have r396875 : el (γ 14 q386422) g396179.toInt.toNat = q396239 := by rw [r396872, r396873.2]; exact r396275
                      have he396876 : F396836 q396648 = .inr (20, [.int p396661, .int p396662, .int p396663, .int p396664, .int p396665, .int p396666, .int p396667]) := (rSk_F hk396856 ht396651 (by decide) (by decide)).trans he396660
                      have hm396877 : q396648 ∈ P386419 := RS_m hT396858 ht396869 (by decide)
                      clear r396191 r396192 r396193 r396194 r396195 r396196 r396198 r396199 r396200 r396201 bp396185 bp396186 bp396250 bp396251 r396259 r396260 rg396832 rm396833 bd396834 rc396835 r396838 r396839
                      have hm396878 : q386421 ∈ P386419 := RS_m hT396858 ht396862 (by decide)
                      obtain ⟨q396880, q396881, p396882, p396883, p396884, p396885, p396886, p396887, p396888, p396889, p396890, p396891, p396892, p396893, p396894, p396895, p396896, he396879, hB396923, ht396897, ht396898, ht396899, ht396900, ht396901, ht396902, ht396903, ht396904, ht396905, ht396906, ht396907, ht396908, ht396909, ht396910, ht396911, ht396912, ht396913, ht396914, ht396915, ht396916, ht396917, ht396918, ht396919, ht396920, hB396924⟩ := show rk_10 γ (F396836 q386421) from RS_o hT396858 ht396862
                      have r396925 : p396884.toInt = p386440.toInt := by have z : p396884 = p386440 := congrArg (fun e => fI e 11) (he396879.symm.trans (r396861.trans he386435)); rw [z]
                      have bp396884 : gB p396884 0 100 := (hB396923.2.2.1)
                      have r396926 : p396887.toInt = p386443.toInt := by have z : p396887 = p386443 := congrArg (fun e => fI e 14) (he396879.symm.trans (r396861.trans he386435)); rw [z]
                      have bp396887 : gB p396887 0 2000 := (hB396923.2.2.2.1)
                      obtain ⟨nu396927, nu396928, nu396929, nu396930⟩ := hnu396848
                      have hB396931 : rBd γ el f B := hBB396851 B hB
                      have hph396932 : rPh γ0 el0 f ≤ rPh γ el f := by rw [hr396849]; exact hph
                      have pk396933 : rPh γ el f ≤ 387 * B + 6000 := rm_pk (rM_ge hT396858 ht396863 hf396864).1 (rM_bd hB396931)
                      refine G_widen (cs' := ((rPh γ el f - rPh γ0 el0 f) / 18)) (sl' := (rPh γ el f - rPh γ0 el0 f)) (rm_ec hr396849) (rm_es hr396849) ?_
                      refine G_pop dr_cX17_merge_138 rfl ?_
                      refine G_aload_n 6 dr_cX17_merge_139 rfl ?_
                      refine G_dup dr_cX17_merge_140 rfl ?_
                      refine Gp_get 13 hm396878 he396879 dr_cX17_merge_141 (gk_X17 D I) (Nat.le_of_ble_eq_true rfl) wr_7_87 rfl ?_
                      have bp396886 : gB p396886 (-2147483648) 2147483647 := (gB_any p396886)
                      refine G_iconst 1 dr_cX17_merge_144 (by decide +kernel) ?_
                      refine G_iadd dr_cX17_merge_145 (G_nam fun z396934 hz396934 => ?_)
                      have bz396934 : gB z396934 (-2147483648) 2147483647 := gB_any z396934
                      refine Gp_put 13 hm396878 he396879 dr_cX17_merge_146 (gk_X17 D I) (Nat.le_of_ble_eq_true rfl) wr_7_87 rfl rfl rfl (Nat.le_of_ble_eq_true rfl) (fun F396935 e396936 n396937 => ?_)
                      have he396938 : F396935 q396648 = .inr (20, [.int p396661, .int p396662, .int p396663, .int p396664, .int p396665, .int p396666, .int p396667]) := (n396937 q396648 (rn_oo he396876 he396879 (by decide))).trans he396876
                      have he396939 : F396935 q386421 = .inr (22, [.ref (γ 9 0), .ref (γ 9 1), .ref (γ 9 2), .ref (γ 9 3), .ref (γ 9 4), .ref (γ 9 5), .ref (γ 9 6), .ref (γ 9 7), .ref (γ 9 8), .int p396882, .int p396883, .int p396884, .int p396885, .int z396934, .int p396887, .ref (γ 9 15), .ref (γ 9 16), .ref (γ 9 17), .ref (γ 9 18), .ref (γ 9 19), .ref (γ 9 20), .ref (γ 9 21), .ref (γ 9 22), .int p396888, .int p396889, .int p396890, .int p396891, .int p396892, .ref q396880, .ref (γ 9 29), .int p396893, .ref (γ 9 31), .int p396894, .int p396895, .int p396896, .ref q396881]) := e396936
                      have mk396940 : mKp (F386420 q386421) (F396935 q386421) := mKp_tr mk396871 (by rw [he396879, he396939]; exact ⟨rfl, rfl⟩)
                      have hT396941 : RS D I P386419 F396935 γ el := RS_set hT396858 n396937 ht396862 (by decide) ⟨q396880, q396881, p396882, p396883, p396884, p396885, z396934, p396887, p396888, p396889, p396890, p396891, p396892, p396893, p396894, p396895, p396896, he396939, ⟨(hB396923.1), (hB396923.2.1), bp396884, bp396887, (hB396923.2.2.2.2.1), (hB396923.2.2.2.2.2.1), (hB396923.2.2.2.2.2.2.1), (hB396923.2.2.2.2.2.2.2.1), (hB396923.2.2.2.2.2.2.2.2)⟩, ht396897, ht396898, ht396899, ht396900, ht396901, ht396902, ht396903, ht396904, ht396905, ht396906, ht396907, ht396908, ht396909, ht396910, ht396911, ht396912, ht396913, ht396914, ht396915, ht396916, ht396917, ht396918, ht396919, ht396920, hB396924⟩
                      have hs396942 := rSk_put hs396859 hT396941 n396937 ht396862 (by decide) (by decide)
                      have dn396943 : ∀ N : Nat → Prop, rPl γ0 el0 F386420 q386422 (γ0 6 f) (fun _ _ => rNx N) → rPl γ el F396935 q386422 (γ 6 f) (fun _ _ => rNx N) := fun N hN => rPl_fr hT396858 ht396863 hf396864 (dn396854 N hN) (fun b hb _ => n396937 b (rn_ty (show rKd γ b 1 from hb) ht396862 (by decide)))
                      refine G_iload 1 dr_cX17_merge_149 rfl ?_
                      refine G_iload 0 dr_cX17_merge_151 rfl ?_
                      refine G_icmp_eq 164 dr_cX17_merge_153 (by decide +kernel) (fun hc396944 => ?_) (fun hc396944 => ?_)
                      · have r396945 : z396830.toInt = z396831.toInt := gC_eq hc396944
                        have ac396946 : (fI (F396935 q386421) 11).toInt = p396884.toInt := by rw [he396939]; rfl
                        have ac396947 : (fI (F396935 q386421) 14).toInt = p396887.toInt := by rw [he396939]; rfl
                        refine G_iconst 1 dr_cX17_merge_164 (by decide +kernel) ?_
                        exact G_zretA FieldType.boolean dr_cX17_merge_165 rfl rfl (show ((rPh γ el f - rPh γ0 el0 f) / 18) ≤ (((387 * B + 6000) - rPh γ0 el0 f) / 18) by omega) (show (rPh γ el f - rPh γ0 el0 f) ≤ ((387 * B + 6000) - rPh γ0 el0 f) by omega) ⟨P386419, F396935, γ, el, 1, rfl, rfl, hs396942, ⟨by omega, by omega⟩, hB396931, (gB_w (gBl (show Int32.toInt 1 = 1 by decide)) (by decide) (by decide)), (by have qa0 : Int32.toInt 1 = 1 := (by decide); omega), (by have qa0 : Int32.toInt 1 = 1 := (by decide); omega), (by have qa0 : Int32.toInt 1 = 1 := (by decide); omega), (by have qa0 : Int32.toInt 1 = 1 := (by decide); omega), (Or.inr (by rw [show γ 6 f = γ0 6 f by omega]; exact Nat.le_of_eq sm396852)), dn396943, (by have qa0 : Int32.toInt 1 = 1 := (by decide); omega), (by have qa0 : Int32.toInt 1 = 1 := (by decide); omega), (fun h => absurd h (by decide)), mk396940⟩
                      · have r396948 : z396830.toInt ≠ z396831.toInt := gC_ne hc396944
                        refine G_aload_n 7 dr_cX17_merge_156 rfl ?_
                        refine G_iload 0 dr_cX17_merge_157 rfl ?_
                        refine G_iload 1 dr_cX17_merge_159 rfl ?_
                        have v0_396949 : 0 < γ 6 (γ 1 q386422) := by rw [hf396864]; omega
                        refine Gw_callS (As := [.ref q386422, .int z396831, .int z396830]) (gV_ok D I) (ct_359236_SpillForgeModel_rename l hl0 D I γ el P386419 F396935 q386422 z396831 z396830 hT396941 ht396863 bz396831 bz396830 (by omega)) dr_cX17_merge_161 ⟨wr_11_30, wr_1_14, wr_11_32, by decide, rfl, (Nat.le_of_ble_eq_true rfl), (Nat.le_of_ble_eq_true rfl)⟩ wr_11_31 (rm_zc pk396933) (rm_zs pk396933) (Nat.le_of_ble_eq_true rfl) (fun r396953 w396954 dc396950 ds396951 hp396952 => ?_) (fun _ _ _ _ _ z => z.elim)
                        obtain ⟨F396957, rfl, rfl, hT396958, hs396959, hdc, hds, x396955, x396956⟩ := hp396952
                        have hs396960 := rSk_str hs396942 hT396958 hs396959 (by decide) (by decide) (by decide)
                        have kp396961 : F396957 q386421 = F396935 q386421 := x396956 q386421 (rT0 ht396862 (by decide)) (rT2 ht396862 (by decide))
                        have mk396962 : mKp (F386420 q386421) (F396957 q386421) := mKp_tr mk396940 (mKp_eq (x396956 q386421 (rT0 ht396862 (by decide)) (rT2 ht396862 (by decide))))
                        have he396963 : F396957 q386421 = .inr (22, [.ref (γ 9 0), .ref (γ 9 1), .ref (γ 9 2), .ref (γ 9 3), .ref (γ 9 4), .ref (γ 9 5), .ref (γ 9 6), .ref (γ 9 7), .ref (γ 9 8), .int p396882, .int p396883, .int p396884, .int p396885, .int z396934, .int p396887, .ref (γ 9 15), .ref (γ 9 16), .ref (γ 9 17), .ref (γ 9 18), .ref (γ 9 19), .ref (γ 9 20), .ref (γ 9 21), .ref (γ 9 22), .int p396888, .int p396889, .int p396890, .int p396891, .int p396892, .ref q396880, .ref (γ 9 29), .int p396893, .ref (γ 9 31), .int p396894, .int p396895, .int p396896, .ref q396881]) := (x396956 q386421 (rT0 ht396862 (by decide)) (rT2 ht396862 (by decide))).trans he396939
                        change G _ _ _ _ _ _ _ _ _ _ _
                        refine G_widen (cs' := ((rPh γ el f - rPh γ0 el0 f) / 18)) (sl' := (rPh γ el f - rPh γ0 el0 f)) (rm_d0 hdc) (rm_d0 hds) ?_
                        have dn396964 : ∀ N : Nat → Prop, rPl γ0 el0 F386420 q386422 (γ0 6 f) (fun _ _ => rNx N) → rPl γ el F396957 q386422 (γ 6 f) (fun _ _ => rNx N) := fun N hN => by have z := x396955 N ((show z396830.toInt = p396662.toInt ∨ z396830.toInt = p396663.toInt by omega).elim (fun e => by rw [e]; exact (nm396855 N hN).1) (fun e => by rw [e]; exact (nm396855 N hN).2)) (by omega); rw [hf396864] at z; exact z (dn396943 N hN)
                        have ac396965 : (fI (F396957 q386421) 11).toInt = p396884.toInt := by rw [he396963]; rfl
                        have ac396966 : (fI (F396957 q386421) 14).toInt = p396887.toInt := by rw [he396963]; rfl
                        refine G_iconst 1 dr_cX17_merge_164 (by decide +kernel) ?_
                        exact G_zretA FieldType.boolean dr_cX17_merge_165 rfl rfl (show ((rPh γ el f - rPh γ0 el0 f) / 18) ≤ (((387 * B + 6000) - rPh γ0 el0 f) / 18) by omega) (show (rPh γ el f - rPh γ0 el0 f) ≤ ((387 * B + 6000) - rPh γ0 el0 f) by omega) ⟨P386419, F396957, γ, el, 1, rfl, rfl, hs396960, ⟨by omega, by omega⟩, hB396931, (gB_w (gBl (show Int32.toInt 1 = 1 by decide)) (by decide) (by decide)), (by have qa0 : Int32.toInt 1 = 1 := (by decide); omega), (by have qa0 : Int32.toInt 1 = 1 := (by decide); omega), (by have qa0 : Int32.toInt 1 = 1 := (by decide); omega), (by have qa0 : Int32.toInt 1 = 1 := (by decide); omega), (Or.inr (by rw [show γ 6 f = γ0 6 f by omega]; exact Nat.le_of_eq sm396852)), dn396964, (by have qa0 : Int32.toInt 1 = 1 := (by decide); omega), (by have qa0 : Int32.toInt 1 = 1 := (by decide); omega), (fun h => absurd h (by decide)), mk396962⟩
                    · have r396967 : o396826.toInt = 0 := gj_eq hc396828 (show Int32.toInt 0 = 0 by decide)
                      have bo396826' : gB o396826 0 0 := ⟨by omega, by omega⟩
                      refine G_goto 166 dr_cX17_merge_95 (by decide +kernel) ?_
                      obtain ⟨z396968, hz396968⟩ : ∃ z : Int32, z = g396616 + Int32.ofInt 1 := ⟨_, rfl⟩
                      have ez396968 : z396968.toInt = g396616.toInt + 1 := gI_inc hz396968 (by decide) bg396616' (by decide) (by decide)
                      have bz396968 : gB z396968 1 1000000 := ⟨by omega, by omega⟩
                      refine G_iinc (L' := [(5, .int z396968), (6, .ref q396648), (4, .ref q396239), (3, .int g396179), (0, .ref q386421), (1, .ref q386422), (2, .int p386423)]) z396968 1 dr_cX17_merge_166 rfl hz396968.symm (Nat.le_of_ble_eq_true rfl) rfl ?_
                      refine G_goto 20 dr_cX17_merge_169 (by decide +kernel) ?_
                      refine G_lv (L' := [(5, .int z396968), (4, .ref q396239), (3, .int g396179), (0, .ref q386421), (1, .ref q386422), (2, .int p386423)]) [0, 2, 3, 4, 5, 6] rfl ?_
                      exact ih20_396616 z396968 (gB_w bz396968 (by decide) (by decide)) (by omega)
        exact hlp20_396616 (((1000001 : Int) - 0).toNat + 1) 0 (gB_w (gBl (show Int32.toInt 0 = 0 by decide)) (by decide) (by decide)) (Nat.lt_succ_self _)
  exact hlp2_396179 (((1000001 : Int) - 0).toNat + 1) 0 (gB_w (gBl (show Int32.toInt 0 = 0 by decide)) (by decide) (by decide)) (Nat.lt_succ_self _)
