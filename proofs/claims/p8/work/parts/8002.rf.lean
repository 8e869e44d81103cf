abbrev ky_394646_SpillForgeModel_mayMerge : gKey := (cX17_mayMerge, 8, "SpillForgeModel", (some FieldType.boolean), [], "mayMerge", fun _ _ => True)
def pt_394646_SpillForgeModel_mayMerge (D : va_G) (I : FieldType → ClassId) (γ el : Nat → Nat → Nat) (P394640 : List Nat) (F394641 : Nat → va_E) (q394642 : Nat) (p394643 : Int32) (p394644 : Int32) (p394645 : Int32) : Option Value → va_W → Nat → Nat → Prop := fun r w dc ds => ∃ (o396630 : Int32), r = some (.int o396630) ∧ w = va_pl P394640 F394641 ∧ dc ≤ 0 ∧ ds ≤ 0 ∧ gB o396630 0 1 ∧ (o396630.toInt = 0 ∨ (p394643.toInt < 100 ∧ p394644.toInt < 100))
set_option maxRecDepth 100000 in
set_option maxHeartbeats 4000000 in
theorem ct_394646_SpillForgeModel_mayMerge (l : Launch) (hl0 : l.stackTraces = false) (D : va_G) (I : FieldType → ClassId) (γ el : Nat → Nat → Nat) (P394640 : List Nat) (F394641 : Nat → va_E) (q394642 : Nat) (p394643 : Int32) (p394644 : Int32) (p394645 : Int32) (hT : RS D I P394640 F394641 γ el) (htq394642 : rKd γ q394642 10) (bp394643 : gB p394643 0 1999) (bp394644 : gB p394644 0 1999) : CtA (gV D I) l yX17_mayMerge cX17_mayMerge 8 (some FieldType.boolean) 2 43 0 0 [.ref q394642, .int p394643, .int p394644, .int p394645] (va_pl P394640 F394641) (pt_394646_SpillForgeModel_mayMerge D I γ el P394640 F394641 q394642 p394643 p394644 p394645) gNA := by
  refine CtA_of hl0 (by decide) (Nat.le_of_ble_eq_true rfl) ?_
  have bp394645 := gB_any p394645
  refine G_iload_n 1 dr_cX17_mayMerge_0 rfl ?_
  refine G_bipush 100 dr_cX17_mayMerge_1 (by decide +kernel) ?_
  refine G_icmp_ge 25 dr_cX17_mayMerge_3 (by decide +kernel) (fun hc394647 => ?_) (fun hc394647 => ?_)
  · have r394648 : 100 ≤ p394643.toInt := gj_leL hc394647 (show Int32.toInt 100 = 100 by decide)
    have bp394643' : gB p394643 100 1999 := ⟨by omega, by omega⟩
    refine G_iconst 0 dr_cX17_mayMerge_25 (by decide +kernel) ?_
    exact G_zretA FieldType.boolean dr_cX17_mayMerge_26 rfl rfl (Nat.le_of_ble_eq_true rfl) (Nat.le_of_ble_eq_true rfl) ⟨0, rfl, rfl, (Nat.le_of_ble_eq_true rfl), (Nat.le_of_ble_eq_true rfl), (gB_w (gBl (show Int32.toInt 0 = 0 by decide)) (by decide) (by decide)), (by have qa0 : Int32.toInt 0 = 0 := (by decide); omega)⟩
  · have r394649 : p394643.toInt < 100 := gj_nleL hc394647 (show Int32.toInt 100 = 100 by decide)
    have bp394643' : gB p394643 0 99 := ⟨by omega, by omega⟩
    refine G_iload_n 2 dr_cX17_mayMerge_6 rfl ?_
    refine G_bipush 100 dr_cX17_mayMerge_7 (by decide +kernel) ?_
    refine G_icmp_ge 25 dr_cX17_mayMerge_9 (by decide +kernel) (fun hc394650 => ?_) (fun hc394650 => ?_)
    · have r394651 : 100 ≤ p394644.toInt := gj_leL hc394650 (show Int32.toInt 100 = 100 by decide)
      have bp394644' : gB p394644 100 1999 := ⟨by omega, by omega⟩
      refine G_iconst 0 dr_cX17_mayMerge_25 (by decide +kernel) ?_
      exact G_zretA FieldType.boolean dr_cX17_mayMerge_26 rfl rfl (Nat.le_of_ble_eq_true rfl) (Nat.le_of_ble_eq_true rfl) ⟨0, rfl, rfl, (Nat.le_of_ble_eq_true rfl), (Nat.le_of_ble_eq_true rfl), (gB_w (gBl (show Int32.toInt 0 = 0 by decide)) (by decide) (by decide)), (by have qa0 : Int32.toInt 0 = 0 := (by decide); omega)⟩
    · have r394652 : p394644.toInt < 100 := gj_nleL hc394650 (show Int32.toInt 100 = 100 by decide)
      have bp394644' : gB p394644 0 99 := ⟨by omega, by omega⟩
      refine G_aload_n 0 dr_cX17_mayMerge_12 rfl ?_
      have hm394653 : q394642 ∈ P394640 := RS_m hT htq394642 (by decide)
      refine rk10_e (show rk_10 γ (F394641 q394642) from RS_o hT htq394642) (fun q394655 q394656 p394657 p394658 p394659 p394660 p394661 p394662 p394663 p394664 p394665 p394666 p394667 p394668 p394669 p394670 p394671 he394654 hB394698 ht394672 ht394673 ht394674 ht394675 ht394676 ht394677 ht394678 ht394679 ht394680 ht394681 ht394682 ht394683 ht394684 ht394685 ht394686 ht394687 ht394688 ht394689 ht394690 ht394691 ht394692 ht394693 ht394694 ht394695 hB394699 => ?_)
      refine Gp_get 1 hm394653 he394654 dr_cX17_mayMerge_13 (gk_X17 D I) (Nat.le_of_ble_eq_true rfl) wr_7_75 rfl ?_
      refine G_iload_n 1 dr_cX17_mayMerge_16 rfl ?_
      have hm394700 : (γ 9 1) ∈ P394640 := RS_m hT ht394675 (by decide)
      obtain ⟨f394702, he394701, hg394703⟩ := show rk_13 I γ (F394641 (γ 9 1)) from RS_o hT ht394675
      obtain ⟨q394704, hx394706⟩ : ∃ x, x = γ 11 p394643.toInt.toNat := ⟨_, rfl⟩
      have ht394705 : rKd γ q394704 36 := by rw [hx394706]; exact (hg394703 _ (show p394643.toInt.toNat < 2000 by omega)).2.1
      refine Gp_aald 5 hm394700 he394701 dr_cX17_mayMerge_17 rfl rfl (gB_in bp394643' (by decide) (by decide)) ?_
      rw [show f394702 p394643.toNatClampNeg = some q394704 from (hg394703 _ (show p394643.toInt.toNat < 2000 by omega)).1.trans (by rw [hx394706])]
      change G _ _ _ _ _ _ _ (.ref q394704 :: _) _ _ _
      refine G_iload_n 2 dr_cX17_mayMerge_18 rfl ?_
      have hm394707 : q394704 ∈ P394640 := RS_m hT ht394705 (by decide)
      obtain ⟨f394709, he394708, wf394709⟩ := show rk_36 I (F394641 q394704) from RS_o hT ht394705
      refine Gw_callS (As := [.ref q394704, .int p394644]) (gV_ok D I) (cp_1845_SpillForgeModel_has l hl0 D I P394640 F394641 q394704 p394644 f394709 hm394707 he394708 (gB_w bp394644' (by decide) (by decide))) dr_cX17_mayMerge_19 ⟨wr_10_203, wr_1_14, wr_10_205, by decide, rfl, (Nat.le_of_ble_eq_true rfl), (Nat.le_of_ble_eq_true rfl)⟩ wr_10_204 (show 0 + 0 ≤ 0 by first | omega | decide) (show 0 + 0 ≤ 0 by first | omega | decide) (Nat.le_of_ble_eq_true rfl) (fun r394713 w394714 dc394710 ds394711 hp394712 => ?_) (fun _ _ _ _ _ z => z.elim)
      rcases hp394712 with ⟨z394715, z394716, rfl, rfl, hdc, hds, r394717, r394718, r394719, r394720, r394721⟩ | ⟨z394722, z394723, rfl, rfl, hdc, hds, r394724, r394725, r394726, r394727, r394728⟩
      · change G _ _ _ _ _ _ _ (.int 0 :: _) _ _ _
        refine G_widen (cs' := 0) (sl' := 0) (by omega) (by omega) ?_
        refine G_if_eq 27 dr_cX17_mayMerge_22 (by decide +kernel) (fun _ => ?_) (fun hc => absurd hc (by decide))
        refine G_iconst 0 dr_cX17_mayMerge_27 (by decide +kernel) ?_
        refine G_istore (L' := [(4, .int 0), (0, .ref q394642), (1, .int p394643), (2, .int p394644), (3, .int p394645)]) dr_cX17_mayMerge_28 (Nat.le_of_ble_eq_true rfl) rfl ?_
        refine G_iconst 0 dr_cX17_mayMerge_30 (by decide +kernel) ?_
        refine G_istore (L' := [(5, .int 0), (4, .int 0), (0, .ref q394642), (1, .int p394643), (2, .int p394644), (3, .int p394645)]) dr_cX17_mayMerge_31 (Nat.le_of_ble_eq_true rfl) rfl ?_
        have hlp33_396480 : ∀ (n33_396480 : Nat) (g396479 : Int32) (g396480 : Int32), gB g396479 0 2000 → ((2001 : Int) - g396479.toInt).toNat < n33_396480 → G (gV D I) l (gRm 2 43 0 0) (gMA (gV D I) (pt_394646_SpillForgeModel_mayMerge D I γ el P394640 F394641 q394642 p394643 p394644 p394645) gNA 0 0) ky_394646_SpillForgeModel_mayMerge 33 [(5, .int g396479), (4, .int g396480), (0, .ref q394642), (1, .int p394643), (2, .int p394644), (3, .int p394645)] [] (va_pl P394640 F394641) 0 0 := by
          intro n33_396480
          induction n33_396480 with
          | zero => intro g396479 g396480 bg396479 hm33_396480; exact absurd hm33_396480 (Nat.not_lt_zero _)
          | succ n33_396480 ih33_396480 =>
            intro g396479 g396480 bg396479 hm33_396480
            have bg396480 := gB_any g396480
            refine G_iload 0 dr_cX17_mayMerge_33 rfl ?_
            refine G_sipush 2000 dr_cX17_mayMerge_35 (by decide +kernel) ?_
            refine G_icmp_ge 126 dr_cX17_mayMerge_38 (by decide +kernel) (fun hc396482 => ?_) (fun hc396482 => ?_)
            · have r396483 : 2000 ≤ g396479.toInt := gj_leL hc396482 (show Int32.toInt 2000 = 2000 by decide)
              have bg396479' : gB g396479 2000 2000 := ⟨by omega, by omega⟩
              refine G_iload 1 dr_cX17_mayMerge_126 rfl ?_
              refine G_iload_n 5 dr_cX17_mayMerge_128 rfl ?_
              refine G_icmp_ge 136 dr_cX17_mayMerge_129 (by decide +kernel) (fun hc396484 => ?_) (fun hc396484 => ?_)
              · have r396485 : p394645.toInt ≤ g396480.toInt := gC_le hc396484
                refine G_iconst 0 dr_cX17_mayMerge_136 (by decide +kernel) ?_
                exact G_zretA FieldType.boolean dr_cX17_mayMerge_137 rfl rfl (Nat.le_of_ble_eq_true rfl) (Nat.le_of_ble_eq_true rfl) ⟨0, rfl, rfl, (Nat.le_of_ble_eq_true rfl), (Nat.le_of_ble_eq_true rfl), (gB_w (gBl (show Int32.toInt 0 = 0 by decide)) (by decide) (by decide)), (by have qa0 : Int32.toInt 0 = 0 := (by decide); omega)⟩
              · have r396486 : g396480.toInt < p394645.toInt := gC_nle hc396484
                have bg396480' : gB g396480 (-2147483648) 2147483646 := ⟨by omega, by omega⟩
                have bp394645' : gB p394645 (-2147483647) 2147483647 := ⟨by omega, by omega⟩
                refine G_iconst 1 dr_cX17_mayMerge_132 (by decide +kernel) ?_
                refine G_goto 137 dr_cX17_mayMerge_133 (by decide +kernel) ?_
                exact G_zretA FieldType.boolean dr_cX17_mayMerge_137 rfl rfl (Nat.le_of_ble_eq_true rfl) (Nat.le_of_ble_eq_true rfl) ⟨1, rfl, rfl, (Nat.le_of_ble_eq_true rfl), (Nat.le_of_ble_eq_true rfl), (gB_w (gBl (show Int32.toInt 1 = 1 by decide)) (by decide) (by decide)), (by have qa0 : Int32.toInt 1 = 1 := (by decide); omega)⟩
            · have r396487 : g396479.toInt < 2000 := gj_nleL hc396482 (show Int32.toInt 2000 = 2000 by decide)
              have bg396479' : gB g396479 0 1999 := ⟨by omega, by omega⟩
              refine G_aload_n 2 dr_cX17_mayMerge_41 rfl ?_
              refine Gp_get 1 hm394653 he394654 dr_cX17_mayMerge_42 (gk_X17 D I) (Nat.le_of_ble_eq_true rfl) wr_7_75 rfl ?_
              refine G_iload_n 3 dr_cX17_mayMerge_45 rfl ?_
              obtain ⟨q396488, hx396490⟩ : ∃ x, x = γ 11 p394643.toInt.toNat := ⟨_, rfl⟩
              have ht396489 : rKd γ q396488 36 := by rw [hx396490]; exact (hg394703 _ (show p394643.toInt.toNat < 2000 by omega)).2.1
              refine Gp_aald 5 hm394700 he394701 dr_cX17_mayMerge_46 rfl rfl (gB_in bp394643' (by decide) (by decide)) ?_
              rw [show f394702 p394643.toNatClampNeg = some q396488 from (hg394703 _ (show p394643.toInt.toNat < 2000 by omega)).1.trans (by rw [hx396490])]
              change G _ _ _ _ _ _ _ (.ref q396488 :: _) _ _ _
              refine G_iload 0 dr_cX17_mayMerge_47 rfl ?_
              have hm396491 : q396488 ∈ P394640 := RS_m hT ht396489 (by decide)
              obtain ⟨f396493, he396492, wf396493⟩ := show rk_36 I (F394641 q396488) from RS_o hT ht396489
              refine Gw_callS (As := [.ref q396488, .int g396479]) (gV_ok D I) (cp_1845_SpillForgeModel_has l hl0 D I P394640 F394641 q396488 g396479 f396493 hm396491 he396492 (gB_w bg396479' (by decide) (by decide))) dr_cX17_mayMerge_49 ⟨wr_10_203, wr_1_14, wr_10_205, by decide, rfl, (Nat.le_of_ble_eq_true rfl), (Nat.le_of_ble_eq_true rfl)⟩ wr_10_204 (show 0 + 0 ≤ 0 by first | omega | decide) (show 0 + 0 ≤ 0 by first | omega | decide) (Nat.le_of_ble_eq_true rfl) (fun r396497 w396498 dc396494 ds396495 hp396496 => ?_) (fun _ _ _ _ _ z => z.elim)
              rcases hp396496 with ⟨z396499, z396500, rfl, rfl, hdc, hds, r396501, r396502, r396503, r396504, r396505⟩ | ⟨z396506, z396507, rfl, rfl, hdc, hds, r396508, r396509, r396510, r396511, r396512⟩
              · change G _ _ _ _ _ _ _ (.int 0 :: _) _ _ _
                refine G_widen (cs' := 0) (sl' := 0) (by omega) (by omega) ?_
                refine G_istore (L' := [(6, .int 0), (5, .int g396479), (4, .int g396480), (0, .ref q394642), (1, .int p394643), (2, .int p394644), (3, .int p394645)]) dr_cX17_mayMerge_52 (Nat.le_of_ble_eq_true rfl) rfl ?_
                refine G_aload_n 3 dr_cX17_mayMerge_54 rfl ?_
                refine Gp_get 1 hm394653 he394654 dr_cX17_mayMerge_55 (gk_X17 D I) (Nat.le_of_ble_eq_true rfl) wr_7_75 rfl ?_
                refine G_iload_n 5 dr_cX17_mayMerge_58 rfl ?_
                obtain ⟨q396514, hx396516⟩ : ∃ x, x = γ 11 p394644.toInt.toNat := ⟨_, rfl⟩
                have ht396515 : rKd γ q396514 36 := by rw [hx396516]; exact (hg394703 _ (show p394644.toInt.toNat < 2000 by omega)).2.1
                refine Gp_aald 5 hm394700 he394701 dr_cX17_mayMerge_59 rfl rfl (gB_in bp394644' (by decide) (by decide)) ?_
                rw [show f394702 p394644.toNatClampNeg = some q396514 from (hg394703 _ (show p394644.toInt.toNat < 2000 by omega)).1.trans (by rw [hx396516])]
                change G _ _ _ _ _ _ _ (.ref q396514 :: _) _ _ _
                refine G_iload 1 dr_cX17_mayMerge_60 rfl ?_
                have hm396517 : q396514 ∈ P394640 := RS_m hT ht396515 (by decide)
                obtain ⟨f396519, he396518, wf396519⟩ := show rk_36 I (F394641 q396514) from RS_o hT ht396515
                refine Gw_callS (As := [.ref q396514, .int g396479]) (gV_ok D I) (cp_1845_SpillForgeModel_has l hl0 D I P394640 F394641 q396514 g396479 f396519 hm396517 he396518 (gB_w bg396479' (by decide) (by decide))) dr_cX17_mayMerge_62 ⟨wr_10_203, wr_1_14, wr_10_205, by decide, rfl, (Nat.le_of_ble_eq_true rfl), (Nat.le_of_ble_eq_true rfl)⟩ wr_10_204 (show 0 + 0 ≤ 0 by first | omega | decide) (show 0 + 0 ≤ 0 by first | omega | decide) (Nat.le_of_ble_eq_true rfl) (fun r396523 w396524 dc396520 ds396521 hp396522 => ?_) (fun _ _ _ _ _ z => z.elim)
                rcases hp396522 with ⟨z396525, z396526, rfl, rfl, hdc, hds, r396527, r396528, r396529, r396530, r396531⟩ | ⟨z396532, z396533, rfl, rfl, hdc, hds, r396534, r396535, r396536, r396537, r396538⟩
                · change G _ _ _ _ _ _ _ (.int 0 :: _) _ _ _
                  refine G_widen (cs' := 0) (sl' := 0) (by omega) (by omega) ?_
                  refine G_istore (L' := [(7, .int 0), (6, .int 0), (5, .int g396479), (4, .int g396480), (0, .ref q394642), (1, .int p394643), (2, .int p394644), (3, .int p394645)]) dr_cX17_mayMerge_65 (Nat.le_of_ble_eq_true rfl) rfl ?_
                  refine G_iload 1 dr_cX17_mayMerge_67 rfl ?_
                  refine G_if_ne 80 dr_cX17_mayMerge_69 (by decide +kernel) (fun hc => absurd hc (by decide)) (fun _ => ?_)
                  refine G_iload 0 dr_cX17_mayMerge_72 rfl ?_
                  refine G_if_ne 80 dr_cX17_mayMerge_74 (by decide +kernel) (fun hc => absurd hc (by decide)) (fun _ => ?_)
                  refine G_goto 120 dr_cX17_mayMerge_77 (by decide +kernel) ?_
                  obtain ⟨z396540, hz396540⟩ : ∃ z : Int32, z = g396479 + Int32.ofInt 1 := ⟨_, rfl⟩
                  have ez396540 : z396540.toInt = g396479.toInt + 1 := gI_inc hz396540 (by decide) bg396479' (by decide) (by decide)
                  have bz396540 : gB z396540 1 2000 := ⟨by omega, by omega⟩
                  refine G_iinc (L' := [(5, .int z396540), (7, .int 0), (6, .int 0), (4, .int g396480), (0, .ref q394642), (1, .int p394643), (2, .int p394644), (3, .int p394645)]) z396540 2 dr_cX17_mayMerge_120 rfl hz396540.symm (Nat.le_of_ble_eq_true rfl) rfl ?_
                  refine G_goto 33 dr_cX17_mayMerge_123 (by decide +kernel) ?_
                  refine G_lv (L' := [(5, .int z396540), (4, .int g396480), (0, .ref q394642), (1, .int p394643), (2, .int p394644), (3, .int p394645)]) [0, 3, 4, 5, 6, 7] rfl ?_
                  exact ih33_396480 z396540 g396480 (gB_w bz396540 (by decide) (by decide)) (mz_up ez396540 (Int.le_trans bg396479'.2 (by decide)) hm33_396480)
                · change G _ _ _ _ _ _ _ (.int 1 :: _) _ _ _
                  refine G_widen (cs' := 0) (sl' := 0) (by omega) (by omega) ?_
                  refine G_istore (L' := [(7, .int 1), (6, .int 0), (5, .int g396479), (4, .int g396480), (0, .ref q394642), (1, .int p394643), (2, .int p394644), (3, .int p394645)]) dr_cX17_mayMerge_65 (Nat.le_of_ble_eq_true rfl) rfl ?_
                  refine G_iload 1 dr_cX17_mayMerge_67 rfl ?_
                  refine G_if_ne 80 dr_cX17_mayMerge_69 (by decide +kernel) (fun hc => absurd hc (by decide)) (fun _ => ?_)
                  refine G_iload 0 dr_cX17_mayMerge_72 rfl ?_
                  refine G_if_ne 80 dr_cX17_mayMerge_74 (by decide +kernel) (fun _ => ?_) (fun hc => absurd hc (by decide))
                  refine G_iload 3 dr_cX17_mayMerge_80 rfl ?_
                  refine G_aload_n 4 dr_cX17_mayMerge_82 rfl ?_
                  refine Gp_get 1 hm394653 he394654 dr_cX17_mayMerge_83 (gk_X17 D I) (Nat.le_of_ble_eq_true rfl) wr_7_75 rfl ?_
                  refine G_iload 2 dr_cX17_mayMerge_86 rfl ?_
                  obtain ⟨q396541, hx396543⟩ : ∃ x, x = γ 11 g396479.toInt.toNat := ⟨_, rfl⟩
                  have ht396542 : rKd γ q396541 36 := by rw [hx396543]; exact (hg394703 _ (show g396479.toInt.toNat < 2000 by omega)).2.1
                  refine Gp_aald 5 hm394700 he394701 dr_cX17_mayMerge_88 rfl rfl (gB_in bg396479' (by decide) (by decide)) ?_
                  rw [show f394702 g396479.toNatClampNeg = some q396541 from (hg394703 _ (show g396479.toInt.toNat < 2000 by omega)).1.trans (by rw [hx396543])]
                  change G _ _ _ _ _ _ _ (.ref q396541 :: _) _ _ _
                  have hm396544 : q396541 ∈ P394640 := RS_m hT ht396542 (by decide)
                  obtain ⟨f396546, he396545, wf396546⟩ := show rk_36 I (F394641 q396541) from RS_o hT ht396542
                  refine Gw_callS (As := [.ref q396541]) (gV_ok D I) (cp_1899_SpillForgeModel_count l hl0 D I P394640 F394641 q396541 f396546 hm396544 he396545) dr_cX17_mayMerge_89 ⟨wr_11_16, wr_1_14, wr_11_18, by decide, rfl, (Nat.le_of_ble_eq_true rfl), (Nat.le_of_ble_eq_true rfl)⟩ wr_11_17 (show 0 + 0 ≤ 0 by first | omega | decide) (show 0 + 0 ≤ 0 by first | omega | decide) (Nat.le_of_ble_eq_true rfl) (fun r396550 w396551 dc396547 ds396548 hp396549 => ?_) (fun _ _ _ _ _ z => z.elim)
                  obtain ⟨o396552, rfl, rfl, hdc, hds, ht396553⟩ := hp396549
                  have bo396552 := gB_any o396552
                  change G _ _ _ _ _ _ _ (.int o396552 :: _) _ _ _
                  refine G_widen (cs' := 0) (sl' := 0) (by omega) (by omega) ?_
                  refine G_iload 1 dr_cX17_mayMerge_92 rfl ?_
                  refine G_if_eq 106 dr_cX17_mayMerge_94 (by decide +kernel) (fun _ => ?_) (fun hc => absurd hc (by decide))
                  refine G_iconst 0 dr_cX17_mayMerge_106 (by decide +kernel) ?_
                  refine G_isub dr_cX17_mayMerge_107 (G_nam fun z396554 hz396554 => ?_)
                  have ez396554 : z396554.toInt = o396552.toInt - 0 := by rw [gI_sub hz396554 bo396552 (gBl (show Int32.toInt 0 = 0 by decide)) (by decide) (by decide), show Int32.toInt 0 = 0 from by decide]
                  have bz396554 : gB z396554 (-2147483648) 2147483647 := gB_sub (gI_sub hz396554 bo396552 (gBl (show Int32.toInt 0 = 0 by decide)) (by decide) (by decide)) bo396552 (gBl (show Int32.toInt 0 = 0 by decide)) (by decide) (by decide)
                  refine G_iload_n 7 dr_cX17_mayMerge_108 rfl ?_
                  refine G_icmp_lt 116 dr_cX17_mayMerge_109 (by decide +kernel) (fun hc396555 => ?_) (fun hc396555 => ?_)
                  · have r396556 : z396554.toInt < p394645.toInt := gC_lt hc396555
                    have bz396554' : gB z396554 (-2147483648) 2147483646 := ⟨by omega, by omega⟩
                    have bp394645' : gB p394645 (-2147483647) 2147483647 := ⟨by omega, by omega⟩
                    refine G_iconst 0 dr_cX17_mayMerge_116 (by decide +kernel) ?_
                    refine G_iadd dr_cX17_mayMerge_117 (G_nam fun z396557 hz396557 => ?_)
                    have ez396557 : z396557.toInt = g396480.toInt + 0 := by rw [gI_add hz396557 bg396480 (gBl (show Int32.toInt 0 = 0 by decide)) (by decide) (by decide), show Int32.toInt 0 = 0 from by decide]
                    have bz396557 : gB z396557 (-2147483648) 2147483647 := gB_add (gI_add hz396557 bg396480 (gBl (show Int32.toInt 0 = 0 by decide)) (by decide) (by decide)) bg396480 (gBl (show Int32.toInt 0 = 0 by decide)) (by decide) (by decide)
                    refine G_istore (L' := [(4, .int z396557), (7, .int 1), (6, .int 0), (5, .int g396479), (0, .ref q394642), (1, .int p394643), (2, .int p394644), (3, .int p394645)]) dr_cX17_mayMerge_118 (Nat.le_of_ble_eq_true rfl) rfl ?_
                    obtain ⟨z396558, hz396558⟩ : ∃ z : Int32, z = g396479 + Int32.ofInt 1 := ⟨_, rfl⟩
                    have ez396558 : z396558.toInt = g396479.toInt + 1 := gI_inc hz396558 (by decide) bg396479' (by decide) (by decide)
                    have bz396558 : gB z396558 1 2000 := ⟨by omega, by omega⟩
                    refine G_iinc (L' := [(5, .int z396558), (4, .int z396557), (7, .int 1), (6, .int 0), (0, .ref q394642), (1, .int p394643), (2, .int p394644), (3, .int p394645)]) z396558 3 dr_cX17_mayMerge_120 rfl hz396558.symm (Nat.le_of_ble_eq_true rfl) rfl ?_
                    refine G_goto 33 dr_cX17_mayMerge_123 (by decide +kernel) ?_
                    refine G_lv (L' := [(5, .int z396558), (4, .int z396557), (0, .ref q394642), (1, .int p394643), (2, .int p394644), (3, .int p394645)]) [0, 1, 4, 5, 6, 7] rfl ?_
                    exact ih33_396480 z396558 z396557 (gB_w bz396558 (by decide) (by decide)) (mz_up ez396558 (Int.le_trans bg396479'.2 (by decide)) hm33_396480)
                  · have r396559 : p394645.toInt ≤ z396554.toInt := gC_nlt hc396555
                    refine G_iconst 1 dr_cX17_mayMerge_112 (by decide +kernel) ?_
                    refine G_goto 117 dr_cX17_mayMerge_113 (by decide +kernel) ?_
                    refine G_iadd dr_cX17_mayMerge_117 (G_nam fun z396560 hz396560 => ?_)
                    have bz396560 : gB z396560 (-2147483648) 2147483647 := gB_any z396560
                    refine G_istore (L' := [(4, .int z396560), (7, .int 1), (6, .int 0), (5, .int g396479), (0, .ref q394642), (1, .int p394643), (2, .int p394644), (3, .int p394645)]) dr_cX17_mayMerge_118 (Nat.le_of_ble_eq_true rfl) rfl ?_
                    obtain ⟨z396561, hz396561⟩ : ∃ z : Int32, z = g396479 + Int32.ofInt 1 := ⟨_, rfl⟩
                    have ez396561 : z396561.toInt = g396479.toInt + 1 := gI_inc hz396561 (by decide) bg396479' (by decide) (by decide)
                    have bz396561 : gB z396561 1 2000 := ⟨by omega, by omega⟩
                    refine G_iinc (L' := [(5, .int z396561), (4, .int z396560), (7, .int 1), (6, .int 0), (0, .ref q394642), (1, .int p394643), (2, .int p394644), (3, .int p394645)]) z396561 3 dr_cX17_mayMerge_120 rfl hz396561.symm (Nat.le_of_ble_eq_true rfl) rfl ?_
                    refine G_goto 33 dr_cX17_mayMerge_123 (by decide +kernel) ?_
                    refine G_lv (L' := [(5, .int z396561), (4, .int z396560), (0, .ref q394642), (1, .int p394643), (2, .int p394644), (3, .int p394645)]) [0, 1, 4, 5, 6, 7] rfl ?_
                    exact ih33_396480 z396561 z396560 (gB_w bz396561 (by decide) (by decide)) (mz_up ez396561 (Int.le_trans bg396479'.2 (by decide)) hm33_396480)
              · change G _ _ _ _ _ _ _ (.int 1 :: _) _ _ _
                refine G_widen (cs' := 0) (sl' := 0) (by omega) (by omega) ?_
                refine G_istore (L' := [(6, .int 1), (5, .int g396479), (4, .int g396480), (0, .ref q394642), (1, .int p394643), (2, .int p394644), (3, .int p394645)]) dr_cX17_mayMerge_52 (Nat.le_of_ble_eq_true rfl) rfl ?_
                refine G_aload_n 3 dr_cX17_mayMerge_54 rfl ?_
                refine Gp_get 1 hm394653 he394654 dr_cX17_mayMerge_55 (gk_X17 D I) (Nat.le_of_ble_eq_true rfl) wr_7_75 rfl ?_
                refine G_iload_n 5 dr_cX17_mayMerge_58 rfl ?_
                obtain ⟨q396562, hx396564⟩ : ∃ x, x = γ 11 p394644.toInt.toNat := ⟨_, rfl⟩
                have ht396563 : rKd γ q396562 36 := by rw [hx396564]; exact (hg394703 _ (show p394644.toInt.toNat < 2000 by omega)).2.1
                refine Gp_aald 5 hm394700 he394701 dr_cX17_mayMerge_59 rfl rfl (gB_in bp394644' (by decide) (by decide)) ?_
                rw [show f394702 p394644.toNatClampNeg = some q396562 from (hg394703 _ (show p394644.toInt.toNat < 2000 by omega)).1.trans (by rw [hx396564])]
                change G _ _ _ _ _ _ _ (.ref q396562 :: _) _ _ _
                refine G_iload 1 dr_cX17_mayMerge_60 rfl ?_
                have hm396565 : q396562 ∈ P394640 := RS_m hT ht396563 (by decide)
                obtain ⟨f396567, he396566, wf396567⟩ := show rk_36 I (F394641 q396562) from RS_o hT ht396563
                refine Gw_callS (As := [.ref q396562, .int g396479]) (gV_ok D I) (cp_1845_SpillForgeModel_has l hl0 D I P394640 F394641 q396562 g396479 f396567 hm396565 he396566 (gB_w bg396479' (by decide) (by decide))) dr_cX17_mayMerge_62 ⟨wr_10_203, wr_1_14, wr_10_205, by decide, rfl, (Nat.le_of_ble_eq_true rfl), (Nat.le_of_ble_eq_true rfl)⟩ wr_10_204 (show 0 + 0 ≤ 0 by first | omega | decide) (show 0 + 0 ≤ 0 by first | omega | decide) (Nat.le_of_ble_eq_true rfl) (fun r396571 w396572 dc396568 ds396569 hp396570 => ?_) (fun _ _ _ _ _ z => z.elim)
                rcases hp396570 with ⟨z396573, z396574, rfl, rfl, hdc, hds, r396575, r396576, r396577, r396578, r396579⟩ | ⟨z396580, z396581, rfl, rfl, hdc, hds, r396582, r396583, r396584, r396585, r396586⟩
                · change G _ _ _ _ _ _ _ (.int 0 :: _) _ _ _
                  refine G_widen (cs' := 0) (sl' := 0) (by omega) (by omega) ?_
                  refine G_istore (L' := [(7, .int 0), (6, .int 1), (5, .int g396479), (4, .int g396480), (0, .ref q394642), (1, .int p394643), (2, .int p394644), (3, .int p394645)]) dr_cX17_mayMerge_65 (Nat.le_of_ble_eq_true rfl) rfl ?_
                  refine G_iload 1 dr_cX17_mayMerge_67 rfl ?_
                  refine G_if_ne 80 dr_cX17_mayMerge_69 (by decide +kernel) (fun _ => ?_) (fun hc => absurd hc (by decide))
                  refine G_iload 3 dr_cX17_mayMerge_80 rfl ?_
                  refine G_aload_n 4 dr_cX17_mayMerge_82 rfl ?_
                  refine Gp_get 1 hm394653 he394654 dr_cX17_mayMerge_83 (gk_X17 D I) (Nat.le_of_ble_eq_true rfl) wr_7_75 rfl ?_
                  refine G_iload 2 dr_cX17_mayMerge_86 rfl ?_
                  obtain ⟨q396588, hx396590⟩ : ∃ x, x = γ 11 g396479.toInt.toNat := ⟨_, rfl⟩
                  have ht396589 : rKd γ q396588 36 := by rw [hx396590]; exact (hg394703 _ (show g396479.toInt.toNat < 2000 by omega)).2.1
                  refine Gp_aald 5 hm394700 he394701 dr_cX17_mayMerge_88 rfl rfl (gB_in bg396479' (by decide) (by decide)) ?_
                  rw [show f394702 g396479.toNatClampNeg = some q396588 from (hg394703 _ (show g396479.toInt.toNat < 2000 by omega)).1.trans (by rw [hx396590])]
                  change G _ _ _ _ _ _ _ (.ref q396588 :: _) _ _ _
                  have hm396591 : q396588 ∈ P394640 := RS_m hT ht396589 (by decide)
                  obtain ⟨f396593, he396592, wf396593⟩ := show rk_36 I (F394641 q396588) from RS_o hT ht396589
                  refine Gw_callS (As := [.ref q396588]) (gV_ok D I) (cp_1899_SpillForgeModel_count l hl0 D I P394640 F394641 q396588 f396593 hm396591 he396592) dr_cX17_mayMerge_89 ⟨wr_11_16, wr_1_14, wr_11_18, by decide, rfl, (Nat.le_of_ble_eq_true rfl), (Nat.le_of_ble_eq_true rfl)⟩ wr_11_17 (show 0 + 0 ≤ 0 by first | omega | decide) (show 0 + 0 ≤ 0 by first | omega | decide) (Nat.le_of_ble_eq_true rfl) (fun r396597 w396598 dc396594 ds396595 hp396596 => ?_) (fun _ _ _ _ _ z => z.elim)
                  obtain ⟨o396599, rfl, rfl, hdc, hds, ht396600⟩ := hp396596
                  have bo396599 := gB_any o396599
                  change G _ _ _ _ _ _ _ (.int o396599 :: _) _ _ _
                  refine G_widen (cs' := 0) (sl' := 0) (by omega) (by omega) ?_
                  refine G_iload 1 dr_cX17_mayMerge_92 rfl ?_
                  refine G_if_eq 106 dr_cX17_mayMerge_94 (by decide +kernel) (fun hc => absurd hc (by decide)) (fun _ => ?_)
                  refine G_iload 0 dr_cX17_mayMerge_97 rfl ?_
                  refine G_if_eq 106 dr_cX17_mayMerge_99 (by decide +kernel) (fun _ => ?_) (fun hc => absurd hc (by decide))
                  refine G_iconst 0 dr_cX17_mayMerge_106 (by decide +kernel) ?_
                  refine G_isub dr_cX17_mayMerge_107 (G_nam fun z396601 hz396601 => ?_)
                  have ez396601 : z396601.toInt = o396599.toInt - 0 := by rw [gI_sub hz396601 bo396599 (gBl (show Int32.toInt 0 = 0 by decide)) (by decide) (by decide), show Int32.toInt 0 = 0 from by decide]
                  have bz396601 : gB z396601 (-2147483648) 2147483647 := gB_sub (gI_sub hz396601 bo396599 (gBl (show Int32.toInt 0 = 0 by decide)) (by decide) (by decide)) bo396599 (gBl (show Int32.toInt 0 = 0 by decide)) (by decide) (by decide)
                  refine G_iload_n 7 dr_cX17_mayMerge_108 rfl ?_
                  refine G_icmp_lt 116 dr_cX17_mayMerge_109 (by decide +kernel) (fun hc396602 => ?_) (fun hc396602 => ?_)
                  · have r396603 : z396601.toInt < p394645.toInt := gC_lt hc396602
                    have bz396601' : gB z396601 (-2147483648) 2147483646 := ⟨by omega, by omega⟩
                    have bp394645' : gB p394645 (-2147483647) 2147483647 := ⟨by omega, by omega⟩
                    refine G_iconst 0 dr_cX17_mayMerge_116 (by decide +kernel) ?_
                    refine G_iadd dr_cX17_mayMerge_117 (G_nam fun z396604 hz396604 => ?_)
                    have ez396604 : z396604.toInt = g396480.toInt + 0 := by rw [gI_add hz396604 bg396480 (gBl (show Int32.toInt 0 = 0 by decide)) (by decide) (by decide), show Int32.toInt 0 = 0 from by decide]
                    have bz396604 : gB z396604 (-2147483648) 2147483647 := gB_add (gI_add hz396604 bg396480 (gBl (show Int32.toInt 0 = 0 by decide)) (by decide) (by decide)) bg396480 (gBl (show Int32.toInt 0 = 0 by decide)) (by decide) (by decide)
                    refine G_istore (L' := [(4, .int z396604), (7, .int 0), (6, .int 1), (5, .int g396479), (0, .ref q394642), (1, .int p394643), (2, .int p394644), (3, .int p394645)]) dr_cX17_mayMerge_118 (Nat.le_of_ble_eq_true rfl) rfl ?_
                    obtain ⟨z396605, hz396605⟩ : ∃ z : Int32, z = g396479 + Int32.ofInt 1 := ⟨_, rfl⟩
                    have ez396605 : z396605.toInt = g396479.toInt + 1 := gI_inc hz396605 (by decide) bg396479' (by decide) (by decide)
                    have bz396605 : gB z396605 1 2000 := ⟨by omega, by omega⟩
                    refine G_iinc (L' := [(5, .int z396605), (4, .int z396604), (7, .int 0), (6, .int 1), (0, .ref q394642), (1, .int p394643), (2, .int p394644), (3, .int p394645)]) z396605 3 dr_cX17_mayMerge_120 rfl hz396605.symm (Nat.le_of_ble_eq_true rfl) rfl ?_
                    refine G_goto 33 dr_cX17_mayMerge_123 (by decide +kernel) ?_
                    refine G_lv (L' := [(5, .int z396605), (4, .int z396604), (0, .ref q394642), (1, .int p394643), (2, .int p394644), (3, .int p394645)]) [0, 1, 4, 5, 6, 7] rfl ?_
                    exact ih33_396480 z396605 z396604 (gB_w bz396605 (by decide) (by decide)) (mz_up ez396605 (Int.le_trans bg396479'.2 (by decide)) hm33_396480)
                  · have r396606 : p394645.toInt ≤ z396601.toInt := gC_nlt hc396602
                    refine G_iconst 1 dr_cX17_mayMerge_112 (by decide +kernel) ?_
                    refine G_goto 117 dr_cX17_mayMerge_113 (by decide +kernel) ?_
                    refine G_iadd dr_cX17_mayMerge_117 (G_nam fun z396607 hz396607 => ?_)
                    have bz396607 : gB z396607 (-2147483648) 2147483647 := gB_any z396607
                    refine G_istore (L' := [(4, .int z396607), (7, .int 0), (6, .int 1), (5, .int g396479), (0, .ref q394642), (1, .int p394643), (2, .int p394644), (3, .int p394645)]) dr_cX17_mayMerge_118 (Nat.le_of_ble_eq_true rfl) rfl ?_
                    obtain ⟨z396608, hz396608⟩ : ∃ z : Int32, z = g396479 + Int32.ofInt 1 := ⟨_, rfl⟩
                    have ez396608 : z396608.toInt = g396479.toInt + 1 := gI_inc hz396608 (by decide) bg396479' (by decide) (by decide)
                    have bz396608 : gB z396608 1 2000 := ⟨by omega, by omega⟩
                    refine G_iinc (L' := [(5, .int z396608), (4, .int z396607), (7, .int 0), (6, .int 1), (0, .ref q394642), (1, .int p394643), (2, .int p394644), (3, .int p394645)]) z396608 3 dr_cX17_mayMerge_120 rfl hz396608.symm (Nat.le_of_ble_eq_true rfl) rfl ?_
                    refine G_goto 33 dr_cX17_mayMerge_123 (by decide +kernel) ?_
                    refine G_lv (L' := [(5, .int z396608), (4, .int z396607), (0, .ref q394642), (1, .int p394643), (2, .int p394644), (3, .int p394645)]) [0, 1, 4, 5, 6, 7] rfl ?_
                    exact ih33_396480 z396608 z396607 (gB_w bz396608 (by decide) (by decide)) (mz_up ez396608 (Int.le_trans bg396479'.2 (by decide)) hm33_396480)
                · change G _ _ _ _ _ _ _ (.int 1 :: _) _ _ _
                  refine G_widen (cs' := 0) (sl' := 0) (by omega) (by omega) ?_
                  refine G_istore (L' := [(7, .int 1), (6, .int 1), (5, .int g396479), (4, .int g396480), (0, .ref q394642), (1, .int p394643), (2, .int p394644), (3, .int p394645)]) dr_cX17_mayMerge_65 (Nat.le_of_ble_eq_true rfl) rfl ?_
                  refine G_iload 1 dr_cX17_mayMerge_67 rfl ?_
                  refine G_if_ne 80 dr_cX17_mayMerge_69 (by decide +kernel) (fun _ => ?_) (fun hc => absurd hc (by decide))
                  refine G_iload 3 dr_cX17_mayMerge_80 rfl ?_
                  refine G_aload_n 4 dr_cX17_mayMerge_82 rfl ?_
                  refine Gp_get 1 hm394653 he394654 dr_cX17_mayMerge_83 (gk_X17 D I) (Nat.le_of_ble_eq_true rfl) wr_7_75 rfl ?_
                  refine G_iload 2 dr_cX17_mayMerge_86 rfl ?_
                  obtain ⟨q396609, hx396611⟩ : ∃ x, x = γ 11 g396479.toInt.toNat := ⟨_, rfl⟩
                  have ht396610 : rKd γ q396609 36 := by rw [hx396611]; exact (hg394703 _ (show g396479.toInt.toNat < 2000 by omega)).2.1
                  refine Gp_aald 5 hm394700 he394701 dr_cX17_mayMerge_88 rfl rfl (gB_in bg396479' (by decide) (by decide)) ?_
                  rw [show f394702 g396479.toNatClampNeg = some q396609 from (hg394703 _ (show g396479.toInt.toNat < 2000 by omega)).1.trans (by rw [hx396611])]
                  change G _ _ _ _ _ _ _ (.ref q396609 :: _) _ _ _
                  have hm396612 : q396609 ∈ P394640 := RS_m hT ht396610 (by decide)
                  obtain ⟨f396614, he396613, wf396614⟩ := show rk_36 I (F394641 q396609) from RS_o hT ht396610
                  refine Gw_callS (As := [.ref q396609]) (gV_ok D I) (cp_1899_SpillForgeModel_count l hl0 D I P394640 F394641 q396609 f396614 hm396612 he396613) dr_cX17_mayMerge_89 ⟨wr_11_16, wr_1_14, wr_11_18, by decide, rfl, (Nat.le_of_ble_eq_true rfl), (Nat.le_of_ble_eq_true rfl)⟩ wr_11_17 (show 0 + 0 ≤ 0 by first | omega | decide) (show 0 + 0 ≤ 0 by first | omega | decide) (Nat.le_of_ble_eq_true rfl) (fun r396618 w396619 dc396615 ds396616 hp396617 => ?_) (fun _ _ _ _ _ z => z.elim)
                  obtain ⟨o396620, rfl, rfl, hdc, hds, ht396621⟩ := hp396617
                  have bo396620 := gB_any o396620
                  change G _ _ _ _ _ _ _ (.int o396620 :: _) _ _ _
                  refine G_widen (cs' := 0) (sl' := 0) (by omega) (by omega) ?_
                  refine G_iload 1 dr_cX17_mayMerge_92 rfl ?_
                  refine G_if_eq 106 dr_cX17_mayMerge_94 (by decide +kernel) (fun hc => absurd hc (by decide)) (fun _ => ?_)
                  refine G_iload 0 dr_cX17_mayMerge_97 rfl ?_
                  refine G_if_eq 106 dr_cX17_mayMerge_99 (by decide +kernel) (fun hc => absurd hc (by decide)) (fun _ => ?_)
                  refine G_iconst 1 dr_cX17_mayMerge_102 (by decide +kernel) ?_
                  refine G_goto 107 dr_cX17_mayMerge_103 (by decide +kernel) ?_
                  refine G_isub dr_cX17_mayMerge_107 (G_nam fun z396622 hz396622 => ?_)
                  have bz396622 : gB z396622 (-2147483648) 2147483647 := gB_any z396622
                  refine G_iload_n 7 dr_cX17_mayMerge_108 rfl ?_
                  refine G_icmp_lt 116 dr_cX17_mayMerge_109 (by decide +kernel) (fun hc396623 => ?_) (fun hc396623 => ?_)
                  · have r396624 : z396622.toInt < p394645.toInt := gC_lt hc396623
                    have bz396622' : gB z396622 (-2147483648) 2147483646 := ⟨by omega, by omega⟩
                    have bp394645' : gB p394645 (-2147483647) 2147483647 := ⟨by omega, by omega⟩
                    refine G_iconst 0 dr_cX17_mayMerge_116 (by decide +kernel) ?_
                    refine G_iadd dr_cX17_mayMerge_117 (G_nam fun z396625 hz396625 => ?_)
                    have ez396625 : z396625.toInt = g396480.toInt + 0 := by rw [gI_add hz396625 bg396480 (gBl (show Int32.toInt 0 = 0 by decide)) (by decide) (by decide), show Int32.toInt 0 = 0 from by decide]
                    have bz396625 : gB z396625 (-2147483648) 2147483647 := gB_add (gI_add hz396625 bg396480 (gBl (show Int32.toInt 0 = 0 by decide)) (by decide) (by decide)) bg396480 (gBl (show Int32.toInt 0 = 0 by decide)) (by decide) (by decide)
                    refine G_istore (L' := [(4, .int z396625), (7, .int 1), (6, .int 1), (5, .int g396479), (0, .ref q394642), (1, .int p394643), (2, .int p394644), (3, .int p394645)]) dr_cX17_mayMerge_118 (Nat.le_of_ble_eq_true rfl) rfl ?_
                    obtain ⟨z396626, hz396626⟩ : ∃ z : Int32, z = g396479 + Int32.ofInt 1 := ⟨_, rfl⟩
                    have ez396626 : z396626.toInt = g396479.toInt + 1 := gI_inc hz396626 (by decide) bg396479' (by decide) (by decide)
                    have bz396626 : gB z396626 1 2000 := ⟨by omega, by omega⟩
                    refine G_iinc (L' := [(5, .int z396626), (4, .int z396625), (7, .int 1), (6, .int 1), (0, .ref q394642), (1, .int p394643), (2, .int p394644), (3, .int p394645)]) z396626 3 dr_cX17_mayMerge_120 rfl hz396626.symm (Nat.le_of_ble_eq_true rfl) rfl ?_
                    refine G_goto 33 dr_cX17_mayMerge_123 (by decide +kernel) ?_
                    refine G_lv (L' := [(5, .int z396626), (4, .int z396625), (0, .ref q394642), (1, .int p394643), (2, .int p394644), (3, .int p394645)]) [0, 1, 4, 5, 6, 7] rfl ?_
                    exact ih33_396480 z396626 z396625 (gB_w bz396626 (by decide) (by decide)) (mz_up ez396626 (Int.le_trans bg396479'.2 (by decide)) hm33_396480)
                  · have r396627 : p394645.toInt ≤ z396622.toInt := gC_nlt hc396623
                    refine G_iconst 1 dr_cX17_mayMerge_112 (by decide +kernel) ?_
                    refine G_goto 117 dr_cX17_mayMerge_113 (by decide +kernel) ?_
                    refine G_iadd dr_cX17_mayMerge_117 (G_nam fun z396628 hz396628 => ?_)
                    have bz396628 : gB z396628 (-2147483648) 2147483647 := gB_any z396628
                    refine G_istore (L' := [(4, .int z396628), (7, .int 1), (6, .int 1), (5, .int g396479), (0, .ref q394642), (1, .int p394643), (2, .int p394644), (3, .int p394645)]) dr_cX17_mayMerge_118 (Nat.le_of_ble_eq_true rfl) rfl ?_
                    obtain ⟨z396629, hz396629⟩ : ∃ z : Int32, z = g396479 + Int32.ofInt 1 := ⟨_, rfl⟩
                    have ez396629 : z396629.toInt = g396479.toInt + 1 := gI_inc hz396629 (by decide) bg396479' (by decide) (by decide)
                    have bz396629 : gB z396629 1 2000 := ⟨by omega, by omega⟩
                    refine G_iinc (L' := [(5, .int z396629), (4, .int z396628), (7, .int 1), (6, .int 1), (0, .ref q394642), (1, .int p394643), (2, .int p394644), (3, .int p394645)]) z396629 3 dr_cX17_mayMerge_120 rfl hz396629.symm (Nat.le_of_ble_eq_true rfl) rfl ?_
                    refine G_goto 33 dr_cX17_mayMerge_123 (by decide +kernel) ?_
                    refine G_lv (L' := [(5, .int z396629), (4, .int z396628), (0, .ref q394642), (1, .int p394643), (2, .int p394644), (3, .int p394645)]) [0, 1, 4, 5, 6, 7] rfl ?_
                    exact ih33_396480 z396629 z396628 (gB_w bz396629 (by decide) (by decide)) (mz_up ez396629 (Int.le_trans bg396479'.2 (by decide)) hm33_396480)
        exact hlp33_396480 (((2001 : Int) - 0).toNat + 1) 0 0 (gB_w (gBl (show Int32.toInt 0 = 0 by decide)) (by decide) (by decide)) (Nat.lt_succ_self _)
      · change G _ _ _ _ _ _ _ (.int 1 :: _) _ _ _
        refine G_widen (cs' := 0) (sl' := 0) (by omega) (by omega) ?_
        refine G_if_eq 27 dr_cX17_mayMerge_22 (by decide +kernel) (fun hc => absurd hc (by decide)) (fun _ => ?_)
        refine G_iconst 0 dr_cX17_mayMerge_25 (by decide +kernel) ?_
        exact G_zretA FieldType.boolean dr_cX17_mayMerge_26 rfl rfl (Nat.le_of_ble_eq_true rfl) (Nat.le_of_ble_eq_true rfl) ⟨0, rfl, rfl, (Nat.le_of_ble_eq_true rfl), (Nat.le_of_ble_eq_true rfl), (gB_w (gBl (show Int32.toInt 0 = 0 by decide)) (by decide) (by decide)), (by have qa0 : Int32.toInt 0 = 0 := (by decide); omega)⟩
abbrev ky_396638_SpillForgeModel_merge : gKey := (cX17_merge, 9, "SpillForgeModel", (some FieldType.boolean), [], "merge", fun _ _ => True)
def pg_396638_SpillForgeModel_merge (D : va_G) (I : FieldType → ClassId) (γ0 el0 : Nat → Nat → Nat) (f : Nat) (B : Nat) (P396632 : List Nat) (F396633 : Nat → va_E) (q396634 : Nat) (q396635 : Nat) (p396636 : Int32) : Option Value → va_W → Nat → Nat → Prop := fun r w dc ds => ∃ (P407249 : List Nat) (F407250 : Nat → va_E) (γ el : Nat → Nat → Nat) (o407248 : Int32), r = some (.int o407248) ∧ w = va_pl P407249 F407250 ∧ rSk f [] ([1, 3, 6] ++ npk) D I P396632 F396633 γ0 el0 P407249 F407250 γ el ∧ (18 * dc + rPh γ0 el0 f ≤ rPh γ el f ∧ ds + rPh γ0 el0 f ≤ rPh γ el f) ∧ rBd γ el f B ∧ gB o407248 0 1 ∧ γ 6 f = γ0 6 f ∧ γ 7 f = γ0 7 f ∧ γ 16 f = γ0 16 f ∧ γ 18 f = γ0 18 f ∧ (o407248.toInt = 0 ∨ rsum (fun i => γ 2 (γ 14 (el (γ 14 q396635) i))) (γ 6 f) + 1 ≤ rsum (fun i => γ0 2 (γ0 14 (el0 (γ0 14 q396635) i))) (γ0 6 f)) ∧ (∀ N : Nat → Prop, rPl γ0 el0 F396633 q396635 (γ0 6 f) (fun _ _ => rNx N) → rPl γ el F407250 q396635 (γ 6 f) (fun _ _ => rNx N)) ∧ (fI (F407250 q396634) 11).toInt = (fI (F396633 q396634) 11).toInt ∧ (fI (F407250 q396634) 14).toInt = (fI (F396633 q396634) 14).toInt ∧ (gIp (o407248.toInt = 0) (γ = γ0 ∧ el = el0 ∧ F407250 = F396633)) ∧ mKp (F396633 q396634) (F407250 q396634)
set_option maxRecDepth 100000 in
set_option maxHeartbeats 1500000 in
theorem cg_396638_SpillForgeModel_merge (l : Launch) (hl0 : l.stackTraces = false) (D : va_G) (I : FieldType → ClassId) (γ0 el0 : Nat → Nat → Nat) (f : Nat) (B : Nat) (P396632 : List Nat) (F396633 : Nat → va_E) (q396634 : Nat) (q396635 : Nat) (p396636 : Int32) (hT0 : RS D I P396632 F396633 γ0 el0) (hzq396634 : rKd γ0 q396634 10) (hzq396635 : rKd γ0 q396635 9) (hf0 : γ0 1 q396635 = f) (hB0 : rBd γ0 el0 f B) (hBk : B ≤ 100000) (x396637 : 0 < γ0 6 f) : CtA (gV D I) l yX17_merge cX17_merge 9 (some FieldType.boolean) 5 111 (((387 * B + 6000) - rPh γ0 el0 f) / 18) ((387 * B + 6000) - rPh γ0 el0 f) [.ref q396634, .ref q396635, .int p396636] (va_pl P396632 F396633) (pg_396638_SpillForgeModel_merge D I γ0 el0 f B P396632 F396633 q396634 q396635 p396636) gNA := by
  refine CtA_of hl0 (by decide) (Nat.le_of_ble_eq_true rfl) ?_
  have bp396636 := gB_any p396636
  obtain ⟨γ, hγ0⟩ : ∃ z, z = γ0 := ⟨_, rfl⟩
  obtain ⟨el, hel0⟩ : ∃ z, z = el0 := ⟨_, rfl⟩
  have hT : RS D I P396632 F396633 γ el := by rw [hγ0, hel0]; exact hT0
  have hst : rSk f [] ([1, 3, 6] ++ npk) D I P396632 F396633 γ0 el0 P396632 F396633 γ el := by rw [hγ0, hel0]; exact rSk_rf hT0
  have hph : rPh γ0 el0 f ≤ rPh γ el f := by rw [hγ0, hel0]; exact Nat.le_refl _
  have hB : rBd γ el f B := by rw [hγ0, hel0]; exact hB0
  have htq396634 : rKd γ q396634 10 := by rw [hγ0]; exact hzq396634
  have htq396635 : rKd γ q396635 9 := by rw [hγ0]; exact hzq396635
  have hf1 : γ 1 q396635 = f := by rw [hγ0]; exact hf0
  have x396637n : 0 < γ 6 f := by rw [hγ0]; exact x396637
  have pk396639 : rPh γ el f ≤ 387 * B + 6000 := rm_pk (rM_ge hT htq396635 hf1).1 (rM_bd hB)
  refine G_widen (cs' := ((rPh γ el f - rPh γ0 el0 f) / 18)) (sl' := (rPh γ el f - rPh γ0 el0 f)) (Nat.zero_le _) (Nat.zero_le _) ?_
  have e0_396640 : γ 6 f = γ0 6 f := by rw [hγ0]
  have e0_396641 : γ 7 f = γ0 7 f := by rw [hγ0]
  have e0_396642 : γ 16 f = γ0 16 f := by rw [hγ0]
  have e0_396643 : γ 18 f = γ0 18 f := by rw [hγ0]
  have e0_396644 : γ 19 f = γ0 19 f := by rw [hγ0]
  have v0_396645 : 0 < γ 6 (γ 1 q396635) := by rw [hf1, hγ0]; exact x396637
  have s0_396646 : rsum (fun i => γ 2 (γ 14 (el (γ 14 q396635) i))) (γ 6 f) = rsum (fun i => γ0 2 (γ0 14 (el0 (γ0 14 q396635) i))) (γ0 6 f) := by rw [hγ0, hel0]
  have hm396647 : q396634 ∈ P396632 := RS_m hT htq396634 (by decide)
  obtain ⟨q396649, q396650, p396651, p396652, p396653, p396654, p396655, p396656, p396657, p396658, p396659, p396660, p396661, p396662, p396663, p396664, p396665, he396648, hB396692, ht396666, ht396667, ht396668, ht396669, ht396670, ht396671, ht396672, ht396673, ht396674, ht396675, ht396676, ht396677, ht396678, ht396679, ht396680, ht396681, ht396682, ht396683, ht396684, ht396685, ht396686, ht396687, ht396688, ht396689, hB396693⟩ := show rk_10 γ (F396633 q396634) from RS_o hT htq396634
  have ac0_11 : (fI (F396633 q396634) 11).toInt = p396653.toInt := by rw [he396648]; rfl
  have ac0_14 : (fI (F396633 q396634) 14).toInt = p396656.toInt := by rw [he396648]; rfl
  have bp396653 : gB p396653 0 100 := (hB396692.2.2.1)
  have bp396656 : gB p396656 0 2000 := (hB396692.2.2.2.1)
  refine G_iconst 0 dr_cX17_merge_0 (by decide +kernel) ?_
  refine G_istore_n (L' := [(3, .int 0), (0, .ref q396634), (1, .ref q396635), (2, .int p396636)]) dr_cX17_merge_1 (Nat.le_of_ble_eq_true rfl) rfl ?_
  have hlp2_406453 : ∀ (n2_406453 : Nat) (g406453 : Int32), gB g406453 0 1000000 → ((1000001 : Int) - g406453.toInt).toNat < n2_406453 → G (gV D I) l (gRm 5 111 (((387 * B + 6000) - rPh γ0 el0 f) / 18) ((387 * B + 6000) - rPh γ0 el0 f)) (gMA (gV D I) (pg_396638_SpillForgeModel_merge D I γ0 el0 f B P396632 F396633 q396634 q396635 p396636) gNA (((387 * B + 6000) - rPh γ0 el0 f) / 18) ((387 * B + 6000) - rPh γ0 el0 f)) ky_396638_SpillForgeModel_merge 2 [(3, .int g406453), (0, .ref q396634), (1, .ref q396635), (2, .int p396636)] [] (va_pl P396632 F396633) ((rPh γ el f - rPh γ0 el0 f) / 18) (rPh γ el f - rPh γ0 el0 f) := by
    intro n2_406453
    induction n2_406453 with
    | zero => intro g406453 bg406453 hm2_406453; exact absurd hm2_406453 (Nat.not_lt_zero _)
    | succ n2_406453 ih2_406453 =>
      intro g406453 bg406453 hm2_406453
      refine G_iload_n 0 dr_cX17_merge_2 rfl ?_
      refine G_aload_n 2 dr_cX17_merge_3 rfl ?_
      have hm406455 : q396635 ∈ P396632 := RS_m hT htq396635 (by decide)
      obtain ⟨q406457, q406458, p406459, p406460, he406456, ht406476, ht406461, ht406462, ht406463, ht406464, r406465, r406466, r406467, r406468, r406469, r406470, r406471, r406472, r406473, r406474, r406475⟩ := show rk_9 γ el q396635 (F396633 q396635) from RS_o hT htq396635
      have bp406459 : gB p406459 0 1000000 := ⟨by omega, by omega⟩
      have bp406460 : gB p406460 0 1000000 := ⟨by omega, by omega⟩
      have hf406477 : γ 1 q406457 = f := (show γ 1 q406457 = γ 1 q396635 from ht406462).trans hf1
      have hf406478 : γ 1 q406458 = f := (show γ 1 q406458 = γ 1 q396635 from ht406464).trans hf1
      have r406479 : γ 6 (γ 1 q396635) = γ 6 f := by rw [hf1]
      have r406480 : γ 16 (γ 1 q396635) = γ 16 f := by rw [hf1]
      have r406481 : p406460.toInt = γ 6 f ∧ p406460.toInt ≤ 40 := by omega
      clear r406471
      refine Gw_callV (As := []) (gV_ok D I) (cp_12780_Code_size l hl0 D I P396632 F396633 q396635 q406457 q406458 p406459 p406460 hm406455 he406456) dr_cX17_merge_4 ⟨wr_10_160, wr_1_15, wr_9_131, by decide, rfl, (Nat.le_of_ble_eq_true rfl), (Nat.le_of_ble_eq_true rfl)⟩ wr_9_129 wr_9_130 hm406455 he406456 rfl (rm_zc pk396639) (rm_zs pk396639) (Nat.le_of_ble_eq_true rfl) (fun r406485 w406486 dc406482 ds406483 hp406484 => ?_) (fun _ _ _ _ _ z => z.elim)
      obtain ⟨rfl, rfl, hdc, hds⟩ := hp406484
      change G _ _ _ _ _ _ _ (.int p406460 :: _) _ _ _
      refine G_widen (cs' := ((rPh γ el f - rPh γ0 el0 f) / 18)) (sl' := (rPh γ el f - rPh γ0 el0 f)) (rm_d0 hdc) (rm_d0 hds) ?_
      refine G_icmp_ge 178 dr_cX17_merge_7 (by decide +kernel) (fun hc406487 => ?_) (fun hc406487 => ?_)
      · have r406488 : p406460.toInt ≤ g406453.toInt := gC_le hc406487
        have ac406489 : (fI (F396633 q396634) 11).toInt = p396653.toInt := by rw [he396648]; rfl
        have ac406490 : (fI (F396633 q396634) 14).toInt = p396656.toInt := by rw [he396648]; rfl
        refine G_iconst 0 dr_cX17_merge_178 (by decide +kernel) ?_
        exact G_zretA FieldType.boolean dr_cX17_merge_179 rfl rfl (show ((rPh γ el f - rPh γ0 el0 f) / 18) ≤ (((387 * B + 6000) - rPh γ0 el0 f) / 18) by omega) (show (rPh γ el f - rPh γ0 el0 f) ≤ ((387 * B + 6000) - rPh γ0 el0 f) by omega) ⟨P396632, F396633, γ, el, 0, rfl, rfl, hst, ⟨by omega, by omega⟩, hB, (gB_w (gBl (show Int32.toInt 0 = 0 by decide)) (by decide) (by decide)), (by have qa0 : Int32.toInt 0 = 0 := (by decide); omega), (by have qa0 : Int32.toInt 0 = 0 := (by decide); omega), (by have qa0 : Int32.toInt 0 = 0 := (by decide); omega), (by have qa0 : Int32.toInt 0 = 0 := (by decide); omega), (Or.inl (by decide)), (fun N h => by rw [hγ0, hel0]; exact h), (by have qa0 : Int32.toInt 0 = 0 := (by decide); omega), (by have qa0 : Int32.toInt 0 = 0 := (by decide); omega), (fun _ => ⟨hγ0, hel0, rfl⟩), mKp_rf⟩
      · have r406491 : g406453.toInt < p406460.toInt := gC_nle hc406487
        have bg406453' : gB g406453 0 999999 := ⟨by omega, by omega⟩
        have bp406460' : gB p406460 1 1000000 := ⟨by omega, by omega⟩
        refine G_aload_n 2 dr_cX17_merge_10 rfl ?_
        refine G_iload_n 0 dr_cX17_merge_11 rfl ?_
        have hm406492 : q406457 ∈ P396632 := RS_m hT ht406461 (by decide)
        obtain ⟨⟨p406494, p406495, q406496, he406493, r406497, r406498, r406499, r406501⟩, r406500⟩ := show rk_4 D I γ el F396633 q406457 from RS_o hT ht406461
        have bp406494 := gB_any p406494
        have bp406495 : gB p406495 0 1000000 := ⟨by omega, by omega⟩
        obtain ⟨r406502, r406503, n406510, f406511, r406504, r406505, r406506, r406507, r406508, r406509⟩ := rLC_n r406499 (by omega)
        have hm406512 : q406496 ∈ P396632 := RS_m hT r406502 (by decide)
        obtain ⟨q406513, hx406514⟩ : ∃ x, x = el q406457 g406453.toInt.toNat := ⟨_, rfl⟩
        have hx406515 : f406511 g406453.toNatClampNeg = some q406513 := (r406508 _ (show g406453.toInt.toNat < γ 2 q406457 by first | assumption | omega)).trans (by rw [hx406514])
        have ht406518 : rKd γ q406513 2 := by rw [hx406514]; exact (r406472 _ (by omega)).resolve_right (fun z => absurd z.1 (by omega))
        have ht406519 : rFm γ q406513 q406457 := by rw [hx406514]; exact (r406500 _ (show g406453.toInt.toNat < γ 2 q406457 by omega)).2.1
        have hm406520 : q406513 ∈ P396632 := RS_m hT ht406518 (by decide)
        obtain ⟨q406522, q406523, p406524, p406525, he406521, ht406532, ht406526, ht406527, ht406528, ht406529, ht406530, bp406524, bp406525, r406531, r406533, r406534⟩ := show rk_2 γ q406513 (F396633 q406513) from RS_o hT ht406518
        refine Gw_callV (As := [.int g406453]) (gV_ok D I) (cp_7901_Code_get l hl0 D I P396632 F396633 q396635 q406457 q406496 g406453 q406458 p406459 p406460 p406494 p406495 f406511 n406510 q406513 q406522 q406523 p406524 p406525 hm406455 hm406492 hm406512 hm406520 he406456 he406493 r406504 he406521 (gB_w bg406453' (by decide) (by decide)) (gB_w bp406495 (by decide) (by decide)) (by omega) (by omega) (by assumption) (by omega)) dr_cX17_merge_12 ⟨wr_10_161, wr_1_15, wr_10_141, by decide, rfl, (Nat.le_of_ble_eq_true rfl), (Nat.le_of_ble_eq_true rfl)⟩ wr_10_139 wr_10_140 hm406455 he406456 rfl (rm_zc pk396639) (rm_zs pk396639) (Nat.le_of_ble_eq_true rfl) (fun r406538 w406539 dc406535 ds406536 hp406537 => ?_) (fun _ _ _ _ _ z => z.elim)
        obtain ⟨rfl, rfl, hdc, hds, ht406540⟩ := hp406537
        change G _ _ _ _ _ _ _ (.ref q406513 :: _) _ _ _
        refine G_widen (cs' := ((rPh γ el f - rPh γ0 el0 f) / 18)) (sl' := (rPh γ el f - rPh γ0 el0 f)) (rm_d0 hdc) (rm_d0 hds) ?_
        have hf406541 : γ 1 q406513 = f := (show γ 1 q406513 = γ 1 q406457 from ht406519).trans ((show γ 1 q406457 = γ 1 q396635 from ht406462).trans hf1)
        have hf406542 : γ 1 q406522 = f := (show γ 1 q406522 = γ 1 q406513 from ht406527).trans hf406541
        have hf406543 : γ 1 q406523 = f := (show γ 1 q406523 = γ 1 q406513 from ht406529).trans hf406541
        have r406544 : γ 6 (γ 1 q406513) = γ 6 f := by rw [hf406541]
        have r406545 : γ 7 (γ 1 q406513) = γ 7 f := by rw [hf406541]
        have r406546 : γ 19 (γ 1 q406513) = γ 19 f := by rw [hf406541]
        have r406547 := r406531.resolve_left (by omega)
        clear r406531
        have r406548 : γ 2 (γ 14 q406513) = γ 2 q406522 := by rw [ht406532.1]
        have r406549 : g406453.toInt.toNat < γ 2 (γ 14 q396635) := by rw [ht406476.1]; omega
        have r406550 : el (γ 14 q396635) g406453.toInt.toNat = q406513 := by rw [ht406476.1, hx406514]
        refine G_astore (L' := [(4, .ref q406513), (3, .int g406453), (0, .ref q396634), (1, .ref q396635), (2, .int p396636)]) dr_cX17_merge_15 (Nat.le_of_ble_eq_true rfl) rfl ?_
        refine G_iconst 0 dr_cX17_merge_17 (by decide +kernel) ?_
        refine G_istore (L' := [(5, .int 0), (4, .ref q406513), (3, .int g406453), (0, .ref q396634), (1, .ref q396635), (2, .int p396636)]) dr_cX17_merge_18 (Nat.le_of_ble_eq_true rfl) rfl ?_
        have hlp20_406893 : ∀ (n20_406893 : Nat) (g406893 : Int32), gB g406893 0 1000000 → ((1000001 : Int) - g406893.toInt).toNat < n20_406893 → G (gV D I) l (gRm 5 111 (((387 * B + 6000) - rPh γ0 el0 f) / 18) ((387 * B + 6000) - rPh γ0 el0 f)) (gMA (gV D I) (pg_396638_SpillForgeModel_merge D I γ0 el0 f B P396632 F396633 q396634 q396635 p396636) gNA (((387 * B + 6000) - rPh γ0 el0 f) / 18) ((387 * B + 6000) - rPh γ0 el0 f)) ky_396638_SpillForgeModel_merge 20 [(5, .int g406893), (4, .ref q406513), (3, .int g406453), (0, .ref q396634), (1, .ref q396635), (2, .int p396636)] [] (va_pl P396632 F396633) ((rPh γ el f - rPh γ0 el0 f) / 18) (rPh γ el f - rPh γ0 el0 f) := by
          intro n20_406893
          induction n20_406893 with
          | zero => intro g406893 bg406893 hm20_406893; exact absurd hm20_406893 (Nat.not_lt_zero _)
          | succ n20_406893 ih20_406893 =>
            intro g406893 bg406893 hm20_406893
            refine G_iload 0 dr_cX17_merge_20 rfl ?_
            refine G_aload 1 dr_cX17_merge_22 rfl ?_
            refine Gp_get 0 hm406520 he406521 dr_cX17_merge_24 (gk_X12 D I) (Nat.le_of_ble_eq_true rfl) wr_9_220 rfl ?_
            have hm406895 : q406522 ∈ P396632 := RS_m hT ht406526 (by decide)
            obtain ⟨⟨p406897, p406898, q406899, he406896, r406900, r406901, r406902, r406904⟩, r406903⟩ := show rk_3 D I γ el F396633 q406522 from RS_o hT ht406526
            have bp406897 := gB_any p406897
            have bp406898 : gB p406898 0 1000000 := ⟨by omega, by omega⟩
            refine Gw_callV (As := []) (gV_ok D I) (cp_7_ArrayList_size l hl0 D I P396632 F396633 q406522 p406897 q406899 p406898 hm406895 he406896 (gB_w bp406898 (by decide) (by decide))) dr_cX17_merge_27 ⟨wr_10_200, wr_1_18, wr_9_160, by decide, rfl, (Nat.le_of_ble_eq_true rfl), (Nat.le_of_ble_eq_true rfl)⟩ wr_9_158 wr_9_159 hm406895 he406896 rfl (rm_zc pk396639) (rm_zs pk396639) (Nat.le_of_ble_eq_true rfl) (fun r406908 w406909 dc406905 ds406906 hp406907 => ?_) (fun _ _ _ _ _ z => z.elim)
            obtain ⟨rfl, rfl, hdc, hds⟩ := hp406907
            change G _ _ _ _ _ _ _ (.int p406898 :: _) _ _ _
            refine G_widen (cs' := ((rPh γ el f - rPh γ0 el0 f) / 18)) (sl' := (rPh γ el f - rPh γ0 el0 f)) (rm_d0 hdc) (rm_d0 hds) ?_
            refine G_icmp_ge 172 dr_cX17_merge_30 (by decide +kernel) (fun hc406910 => ?_) (fun hc406910 => ?_)
            · have r406911 : p406898.toInt ≤ g406893.toInt := gC_le hc406910
              obtain ⟨z406912, hz406912⟩ : ∃ z : Int32, z = g406453 + Int32.ofInt 1 := ⟨_, rfl⟩
              have ez406912 : z406912.toInt = g406453.toInt + 1 := gI_inc hz406912 (by decide) bg406453' (by decide) (by decide)
              have bz406912 : gB z406912 1 1000000 := ⟨by omega, by omega⟩
              refine G_iinc (L' := [(3, .int z406912), (5, .int g406893), (4, .ref q406513), (0, .ref q396634), (1, .ref q396635), (2, .int p396636)]) z406912 2 dr_cX17_merge_172 rfl hz406912.symm (Nat.le_of_ble_eq_true rfl) rfl ?_
              refine G_goto 2 dr_cX17_merge_175 (by decide +kernel) ?_
              refine G_lv (L' := [(3, .int z406912), (0, .ref q396634), (1, .ref q396635), (2, .int p396636)]) [0, 3, 4, 5] rfl ?_
              exact ih2_406453 z406912 (gB_w bz406912 (by decide) (by decide)) (by omega)
            · have r406913 : g406893.toInt < p406898.toInt := gC_nle hc406910
              have bg406893' : gB g406893 0 999999 := ⟨by omega, by omega⟩
              have bp406898' : gB p406898 1 1000000 := ⟨by omega, by omega⟩
              refine G_aload 1 dr_cX17_merge_33 rfl ?_
              refine Gp_get 0 hm406520 he406521 dr_cX17_merge_35 (gk_X12 D I) (Nat.le_of_ble_eq_true rfl) wr_9_220 rfl ?_
              refine G_iload 0 dr_cX17_merge_38 rfl ?_
              obtain ⟨r406914, r406915, n406922, f406923, r406916, r406917, r406918, r406919, r406920, r406921⟩ := rLC_n r406902 (by omega)
              have hm406924 : q406899 ∈ P396632 := RS_m hT r406914 (by decide)
              obtain ⟨q406925, hx406926⟩ : ∃ x, x = el q406522 g406893.toInt.toNat := ⟨_, rfl⟩
              have hx406927 : f406923 g406893.toNatClampNeg = some q406925 := (r406920 _ (show g406893.toInt.toNat < γ 2 q406522 by first | assumption | omega)).trans (by rw [hx406926])
              have ht406928 : rKd γ q406925 1 := by rw [hx406926]; exact (r406903 _ (show g406893.toInt.toNat < γ 2 q406522 by first | assumption | omega)).1
              have ht406929 : rFm γ q406925 q406522 := by rw [hx406926]; exact (r406903 _ (show g406893.toInt.toNat < γ 2 q406522 by first | assumption | omega)).2.1
              have hf406930 : γ 1 q406925 = f := (show γ 1 q406925 = γ 1 q406522 from ht406929).trans hf406542
              refine Gw_callV (As := [.int g406893]) (gV_ok D I) (cp_22_ArrayList_get l hl0 D I P396632 F396633 q406522 q406899 g406893 p406897 p406898 f406923 n406922 q406925 hm406895 hm406924 he406896 r406916 (gB_w bg406893' (by decide) (by decide)) (gB_w bp406898' (by decide) (by decide)) (by omega) (by omega) (by assumption) (by omega)) dr_cX17_merge_40 ⟨wr_10_201, wr_1_18, wr_10_65, by decide, rfl, (Nat.le_of_ble_eq_true rfl), (Nat.le_of_ble_eq_true rfl)⟩ wr_10_63 wr_10_64 hm406895 he406896 rfl (rm_zc pk396639) (rm_zs pk396639) (Nat.le_of_ble_eq_true rfl) (fun r406934 w406935 dc406931 ds406932 hp406933 => ?_) (fun _ _ _ _ _ z => z.elim)
              obtain ⟨rfl, rfl, hdc, hds, ht406936⟩ := hp406933
              change G _ _ _ _ _ _ _ (.ref q406925 :: _) _ _ _
              refine G_widen (cs' := ((rPh γ el f - rPh γ0 el0 f) / 18)) (sl' := (rPh γ el f - rPh γ0 el0 f)) (rm_d0 hdc) (rm_d0 hds) ?_
              have hm406937 : q406925 ∈ P396632 := RS_m hT ht406928 (by decide)
              obtain ⟨p406939, p406940, p406941, p406942, p406943, p406944, p406945, he406938, bp406939, bp406940, bp406943, bp406944, bp406945, r406946, r406947, r406948, r406949, r406950⟩ := show rk_1 γ q406925 (F396633 q406925) from RS_o hT ht406928
              have bp406941 := gB_any p406941
              have bp406942 := gB_any p406942
              have r406951 : γ 7 (γ 1 q406925) = γ 7 f := by rw [hf406930]
              refine Gp_cast hm406937 he406938 rfl dr_cX17_merge_43 wr_10_202 (gr_cast 1 rfl) ?_
              refine G_astore (L' := [(6, .ref q406925), (5, .int g406893), (4, .ref q406513), (3, .int g406453), (0, .ref q396634), (1, .ref q396635), (2, .int p396636)]) dr_cX17_merge_46 (Nat.le_of_ble_eq_true rfl) rfl ?_
              refine G_aload 0 dr_cX17_merge_48 rfl ?_
              refine Gp_get 0 hm406937 he406938 dr_cX17_merge_50 (gk_X15 D I) (Nat.le_of_ble_eq_true rfl) wr_9_177 rfl ?_
              refine G_if_ne 166 dr_cX17_merge_53 (by decide +kernel) (fun hc406952 => ?_) (fun hc406952 => ?_)
              · have r406953 : p406939.toInt ≠ 0 := gj_neq hc406952 (show Int32.toInt 0 = 0 by decide)
                have bp406939' : gB p406939 1 32 := ⟨by omega, by omega⟩
                obtain ⟨z406954, hz406954⟩ : ∃ z : Int32, z = g406893 + Int32.ofInt 1 := ⟨_, rfl⟩
                have ez406954 : z406954.toInt = g406893.toInt + 1 := gI_inc hz406954 (by decide) bg406893' (by decide) (by decide)
                have bz406954 : gB z406954 1 1000000 := ⟨by omega, by omega⟩
                refine G_iinc (L' := [(5, .int z406954), (6, .ref q406925), (4, .ref q406513), (3, .int g406453), (0, .ref q396634), (1, .ref q396635), (2, .int p396636)]) z406954 1 dr_cX17_merge_166 rfl hz406954.symm (Nat.le_of_ble_eq_true rfl) rfl ?_
                refine G_goto 20 dr_cX17_merge_169 (by decide +kernel) ?_
                refine G_lv (L' := [(5, .int z406954), (4, .ref q406513), (3, .int g406453), (0, .ref q396634), (1, .ref q396635), (2, .int p396636)]) [0, 2, 3, 4, 5, 6] rfl ?_
                exact ih20_406893 z406954 (gB_w bz406954 (by decide) (by decide)) (by omega)
              · have r406955 : p406939.toInt = 0 := gj_eq hc406952 (show Int32.toInt 0 = 0 by decide)
                have bp406939' : gB p406939 0 0 := ⟨by omega, by omega⟩
                refine G_aload 0 dr_cX17_merge_56 rfl ?_
                refine Gp_get 5 hm406937 he406938 dr_cX17_merge_58 (gk_X15 D I) (Nat.le_of_ble_eq_true rfl) wr_9_197 rfl ?_
                refine G_if_eq 166 dr_cX17_merge_61 (by decide +kernel) (fun hc406956 => ?_) (fun hc406956 => ?_)
                · have r406957 : p406944.toInt = 0 := gj_eq hc406956 (show Int32.toInt 0 = 0 by decide)
                  have bp406944' : gB p406944 0 0 := ⟨by omega, by omega⟩
                  obtain ⟨z406958, hz406958⟩ : ∃ z : Int32, z = g406893 + Int32.ofInt 1 := ⟨_, rfl⟩
                  have ez406958 : z406958.toInt = g406893.toInt + 1 := gI_inc hz406958 (by decide) bg406893' (by decide) (by decide)
                  have bz406958 : gB z406958 1 1000000 := ⟨by omega, by omega⟩
                  refine G_iinc (L' := [(5, .int z406958), (6, .ref q406925), (4, .ref q406513), (3, .int g406453), (0, .ref q396634), (1, .ref q396635), (2, .int p396636)]) z406958 1 dr_cX17_merge_166 rfl hz406958.symm (Nat.le_of_ble_eq_true rfl) rfl ?_
                  refine G_goto 20 dr_cX17_merge_169 (by decide +kernel) ?_
                  refine G_lv (L' := [(5, .int z406958), (4, .ref q406513), (3, .int g406453), (0, .ref q396634), (1, .ref q396635), (2, .int p396636)]) [0, 2, 3, 4, 5, 6] rfl ?_
                  exact ih20_406893 z406958 (gB_w bz406958 (by decide) (by decide)) (by omega)
                · have r406959 : p406944.toInt ≠ 0 := gj_neq hc406956 (show Int32.toInt 0 = 0 by decide)
                  have bp406944' : gB p406944 1 1 := ⟨by omega, by omega⟩
                  refine G_aload 0 dr_cX17_merge_64 rfl ?_
                  refine Gp_get 1 hm406937 he406938 dr_cX17_merge_66 (gk_X15 D I) (Nat.le_of_ble_eq_true rfl) wr_9_182 rfl ?_
                  refine G_aload 0 dr_cX17_merge_69 rfl ?_
                  refine Gp_get 2 hm406937 he406938 dr_cX17_merge_71 (gk_X15 D I) (Nat.le_of_ble_eq_true rfl) wr_9_186 rfl ?_
                  refine G_icmp_eq 98 dr_cX17_merge_74 (by decide +kernel) (fun hc406960 => ?_) (fun hc406960 => ?_)
                  · have r406961 : p406940.toInt = p406941.toInt := gC_eq hc406960
                    have bp406941' : gB p406941 0 1999 := ⟨by omega, by omega⟩
                    refine G_aload 0 dr_cX17_merge_98 rfl ?_
                    refine Gp_get 1 hm406937 he406938 dr_cX17_merge_100 (gk_X15 D I) (Nat.le_of_ble_eq_true rfl) wr_9_182 rfl ?_
                    refine G_aload 0 dr_cX17_merge_103 rfl ?_
                    refine Gp_get 2 hm406937 he406938 dr_cX17_merge_105 (gk_X15 D I) (Nat.le_of_ble_eq_true rfl) wr_9_186 rfl ?_
                    refine G_mmin dr_cX17_merge_108 wr_11_20 wr_3_227 wr_1_6 wr_3_228 (Nat.le_of_ble_eq_true rfl) (Nat.le_of_ble_eq_true rfl) (show ((rPh γ el f - rPh γ0 el0 f) / 18) ≤ (((387 * B + 6000) - rPh γ0 el0 f) / 18) by first | omega | decide) (show (rPh γ el f - rPh γ0 el0 f) ≤ ((387 * B + 6000) - rPh γ0 el0 f) by first | omega | decide) (G_nam fun z406962 hz406962 => ?_)
                    have ez406962 : p406940.toInt ≥ z406962.toInt ∧ p406941.toInt ≥ z406962.toInt ∧ (z406962.toInt = p406940.toInt ∨ z406962.toInt = p406941.toInt) := by have := gI_min hz406962; omega
                    have bz406962 : gB z406962 0 1999 := ⟨by omega, by omega⟩
                    refine G_istore (L' := [(7, .int z406962), (6, .ref q406925), (5, .int g406893), (4, .ref q406513), (3, .int g406453), (0, .ref q396634), (1, .ref q396635), (2, .int p396636)]) dr_cX17_merge_111 (Nat.le_of_ble_eq_true rfl) rfl ?_
                    refine G_aload 1 dr_cX17_merge_113 rfl ?_
                    refine Gp_get 1 hm406937 he406938 dr_cX17_merge_115 (gk_X15 D I) (Nat.le_of_ble_eq_true rfl) wr_9_182 rfl ?_
                    refine G_aload 1 dr_cX17_merge_118 rfl ?_
                    refine Gp_get 2 hm406937 he406938 dr_cX17_merge_120 (gk_X15 D I) (Nat.le_of_ble_eq_true rfl) wr_9_186 rfl ?_
                    refine G_mmax dr_cX17_merge_123 wr_11_21 wr_1_140 wr_1_6 wr_1_141 (Nat.le_of_ble_eq_true rfl) (Nat.le_of_ble_eq_true rfl) (show ((rPh γ el f - rPh γ0 el0 f) / 18) ≤ (((387 * B + 6000) - rPh γ0 el0 f) / 18) by first | omega | decide) (show (rPh γ el f - rPh γ0 el0 f) ≤ ((387 * B + 6000) - rPh γ0 el0 f) by first | omega | decide) (G_nam fun z406963 hz406963 => ?_)
                    have ez406963 : p406940.toInt ≤ z406963.toInt ∧ p406941.toInt ≤ z406963.toInt ∧ (z406963.toInt = p406940.toInt ∨ z406963.toInt = p406941.toInt) := by have := gI_max hz406963; omega
                    have bz406963 : gB z406963 0 1999 := ⟨by omega, by omega⟩
                    refine G_istore (L' := [(8, .int z406963), (7, .int z406962), (6, .ref q406925), (5, .int g406893), (4, .ref q406513), (3, .int g406453), (0, .ref q396634), (1, .ref q396635), (2, .int p396636)]) dr_cX17_merge_126 (Nat.le_of_ble_eq_true rfl) rfl ?_
                    refine G_aload 4 dr_cX17_merge_128 rfl ?_
                    refine Gp_get 0 hm406520 he406521 dr_cX17_merge_130 (gk_X12 D I) (Nat.le_of_ble_eq_true rfl) wr_9_220 rfl ?_
                    refine G_iload 3 dr_cX17_merge_133 rfl ?_
                    have rg406964 := rM_ge hT htq396635 hf1
                    have rm406965 := rM_bd hB
                    have bd406966 := rBd_c hT htq396635 hf1 hB
                    have rc406967 := rc_at hT htq396635 hf1
                    have r406969 : γ 14 (el (γ 14 q396635) g406453.toInt.toNat) = q406522 := by rw [r406550]; exact ht406532.1
                    have r406970 := rg406964.2.2 _ r406549
                    rw [r406969] at r406970
                    have r406971 := bd406966.2.2.2 _ r406549
                    rw [r406969] at r406971
                    obtain ⟨q406973, hq406973⟩ : ∃ x, x = el q406522 g406893.toInt.toNat := ⟨_, rfl⟩
                    refine Gt_rem (c := q396635) (f := f) hl0 dr_cX17_merge_135 ⟨wr_11_22, wr_1_18, wr_11_25, by decide, rfl, (Nat.le_of_ble_eq_true rfl), (Nat.le_of_ble_eq_true rfl)⟩ wr_11_23 wr_11_24 hT ht406526 hf406542 htq396635 hf1 (by omega) (by omega) (rm_zc pk396639) (rm_zs pk396639) (Nat.le_of_ble_eq_true rfl) (fun F406968 γ el hq406972 => ?_)
                    rw [← hq406973]
                    have vv406985 := RS_valid hT0 hzq396635 hf0 x396637
                    rw [← hγ0] at vv406985
                    have sm406984 := rDq_sum (m := γ0 6 f) hT htq396635 hf1 (show g406453.toInt.toNat < γ0 6 f by omega) (by omega) r406969 (show g406893.toInt.toNat < _ by omega) hq406972
                    rw [hγ0, hel0] at sm406984
                    have dn406986 := fun (N : Nat → Prop) hN => rPl_dx (N := N) hT htq396635 hf1 hq406972 r406969 (show g406453.toInt.toNat < _ by omega) (show g406893.toInt.toNat < _ by omega) hN
                    rw [hγ0, hel0] at dn406986
                    have nm406987 := fun (N : Nat → Prop) hN => rPl_nm (N := N) (f := f) (j := g406893.toInt.toNat) hN (show g406453.toInt.toNat < _ by omega) r406969 (show g406893.toInt.toNat < _ by omega) hx406926.symm he406938 (by omega) (by omega)
                    rw [hγ0, hel0] at nm406987
                    obtain ⟨hk406974, h2406975, hel406976, hot406977, h16406978, h18406979, hnu406980, hr406981, hM406982, hBB406983⟩ := hq406972
                    have hk406988 := rSk_of hk406974
                    have r406989 : (fI (F406968 q396635) 3).toInt = (fI (F396633 q396635) 3).toInt := by rw [rSk_F hk406988 htq396635 (by decide) (by decide)]
                    have hT406990 := hk406988.1
                    have hs406991 := rSk_tr hst hk406988 (by decide) (by decide) (by decide)
                    have kp406992 : F406968 q396634 = F396633 q396634 := rSk_F hk406988 htq396634 (by decide) (by decide)
                    have r406993 := rSk_F hk406988 htq396634 (by decide) (by decide)
                    have ht406994 : rKd γ q396634 10 := rSk_k hk406988 htq396634 (by decide) (by decide)
                    have ht406995 : rKd γ q396635 9 := rSk_k hk406988 htq396635 (by decide) (by decide)
                    have hf406996 : γ 1 q396635 = f := rSk_1 hk406988 htq396635 (by decide) hf1
                    have ht406997 : rKd γ q406513 2 := rSk_k hk406988 ht406518 (by decide) (by decide)
                    have hf406998 : γ 1 q406513 = f := rSk_1 hk406988 ht406518 (by decide) hf406541
                    have ht406999 : rKd γ q406522 3 := rSk_k hk406988 ht406526 (by decide) (by decide)
                    have hf407000 : γ 1 q406522 = f := rSk_1 hk406988 ht406526 (by decide) hf406542
                    have ht407001 : rKd γ q406925 1 := rSk_k hk406988 ht406928 (by decide) (by decide)
                    have hf407002 : γ 1 q406925 = f := rSk_1 hk406988 ht406928 (by decide) hf406930
                    have mk407003 : mKp (F396633 q396634) (F406968 q396634) := mKp_tr mKp_rf (mKp_eq (rSk_F hk406988 htq396634 (by decide) (by decide)))
                    have r407004 := (rSk_s hk406988 htq396635 (by decide)).2.1
                    have r407005 := hot406977 _ (by rw [rc406967.2.1]; decide) (fun q => by rw [q, show _ = 3 from ht406526] at rc406967; exact absurd rc406967.2.1 (by decide))
                    have r407006 : g406453.toInt.toNat < γ 2 (γ 14 q396635) := by rw [r407004, r407005.1]; exact r406549
                    have r407007 : el (γ 14 q396635) g406453.toInt.toNat = q406513 := by rw [r407004, r407005.2]; exact r406550
                    have he407008 : F406968 q406925 = .inr (20, [.int p406939, .int p406940, .int p406941, .int p406942, .int p406943, .int p406944, .int p406945]) := (rSk_F hk406988 ht406928 (by decide) (by decide)).trans he406938
                    have hm407009 : q406925 ∈ P396632 := RS_m hT406990 ht407001 (by decide)
                    clear r406465 r406466 r406467 r406468 r406469 r406470 r406472 r406473 r406474 r406475 bp406459 bp406460 bp406524 bp406525 r406533 r406534 rg406964 rm406965 bd406966 rc406967 r406970 r406971
                    have hm407010 : q396634 ∈ P396632 := RS_m hT406990 ht406994 (by decide)
                    obtain ⟨q407012, q407013, p407014, p407015, p407016, p407017, p407018, p407019, p407020, p407021, p407022, p407023, p407024, p407025, p407026, p407027, p407028, he407011, hB407055, ht407029, ht407030, ht407031, ht407032, ht407033, ht407034, ht407035, ht407036, ht407037, ht407038, ht407039, ht407040, ht407041, ht407042, ht407043, ht407044, ht407045, ht407046, ht407047, ht407048, ht407049, ht407050, ht407051, ht407052, hB407056⟩ := show rk_10 γ (F406968 q396634) from RS_o hT406990 ht406994
                    have r407057 : p407016.toInt = p396653.toInt := by have z : p407016 = p396653 := congrArg (fun e => fI e 11) (he407011.symm.trans (r406993.trans he396648)); rw [z]
                    have bp407016 : gB p407016 0 100 := (hB407055.2.2.1)
                    have r407058 : p407019.toInt = p396656.toInt := by have z : p407019 = p396656 := congrArg (fun e => fI e 14) (he407011.symm.trans (r406993.trans he396648)); rw [z]
                    have bp407019 : gB p407019 0 2000 := (hB407055.2.2.2.1)
                    obtain ⟨nu407059, nu407060, nu407061, nu407062⟩ := hnu406980
                    have hB407063 : rBd γ el f B := hBB406983 B hB
                    have hph407064 : rPh γ0 el0 f ≤ rPh γ el f := by rw [hr406981]; exact hph
                    have pk407065 : rPh γ el f ≤ 387 * B + 6000 := rm_pk (rM_ge hT406990 ht406995 hf406996).1 (rM_bd hB407063)
                    refine G_widen (cs' := ((rPh γ el f - rPh γ0 el0 f) / 18)) (sl' := (rPh γ el f - rPh γ0 el0 f)) (rm_ec hr406981) (rm_es hr406981) ?_
                    refine G_pop dr_cX17_merge_138 rfl ?_
                    refine G_aload_n 6 dr_cX17_merge_139 rfl ?_
                    refine G_dup dr_cX17_merge_140 rfl ?_
                    refine Gp_get 13 hm407010 he407011 dr_cX17_merge_141 (gk_X17 D I) (Nat.le_of_ble_eq_true rfl) wr_7_87 rfl ?_
                    have bp407018 : gB p407018 (-2147483648) 2147483647 := (gB_any p407018)
                    refine G_iconst 1 dr_cX17_merge_144 (by decide +kernel) ?_
                    refine G_iadd dr_cX17_merge_145 (G_nam fun z407066 hz407066 => ?_)
                    have bz407066 : gB z407066 (-2147483648) 2147483647 := gB_any z407066
                    refine Gp_put 13 hm407010 he407011 dr_cX17_merge_146 (gk_X17 D I) (Nat.le_of_ble_eq_true rfl) wr_7_87 rfl rfl rfl (Nat.le_of_ble_eq_true rfl) (fun F407067 e407068 n407069 => ?_)
                    have he407070 : F407067 q406925 = .inr (20, [.int p406939, .int p406940, .int p406941, .int p406942, .int p406943, .int p406944, .int p406945]) := (n407069 q406925 (rn_oo he407008 he407011 (by decide))).trans he407008
                    have he407071 : F407067 q396634 = .inr (22, [.ref (γ 9 0), .ref (γ 9 1), .ref (γ 9 2), .ref (γ 9 3), .ref (γ 9 4), .ref (γ 9 5), .ref (γ 9 6), .ref (γ 9 7), .ref (γ 9 8), .int p407014, .int p407015, .int p407016, .int p407017, .int z407066, .int p407019, .ref (γ 9 15), .ref (γ 9 16), .ref (γ 9 17), .ref (γ 9 18), .ref (γ 9 19), .ref (γ 9 20), .ref (γ 9 21), .ref (γ 9 22), .int p407020, .int p407021, .int p407022, .int p407023, .int p407024, .ref q407012, .ref (γ 9 29), .int p407025, .ref (γ 9 31), .int p407026, .int p407027, .int p407028, .ref q407013]) := e407068
                    have mk407072 : mKp (F396633 q396634) (F407067 q396634) := mKp_tr mk407003 (by rw [he407011, he407071]; exact ⟨rfl, rfl⟩)
                    have hT407073 : RS D I P396632 F407067 γ el := RS_set hT406990 n407069 ht406994 (by decide) ⟨q407012, q407013, p407014, p407015, p407016, p407017, z407066, p407019, p407020, p407021, p407022, p407023, p407024, p407025, p407026, p407027, p407028, he407071, ⟨(hB407055.1), (hB407055.2.1), bp407016, bp407019, (hB407055.2.2.2.2.1), (hB407055.2.2.2.2.2.1), (hB407055.2.2.2.2.2.2.1), (hB407055.2.2.2.2.2.2.2.1), (hB407055.2.2.2.2.2.2.2.2)⟩, ht407029, ht407030, ht407031, ht407032, ht407033, ht407034, ht407035, ht407036, ht407037, ht407038, ht407039, ht407040, ht407041, ht407042, ht407043, ht407044, ht407045, ht407046, ht407047, ht407048, ht407049, ht407050, ht407051, ht407052, hB407056⟩
                    have hs407074 := rSk_put hs406991 hT407073 n407069 ht406994 (by decide) (by decide)
                    have dn407075 : ∀ N : Nat → Prop, rPl γ0 el0 F396633 q396635 (γ0 6 f) (fun _ _ => rNx N) → rPl γ el F407067 q396635 (γ 6 f) (fun _ _ => rNx N) := fun N hN => rPl_fr hT406990 ht406995 hf406996 (dn406986 N hN) (fun b hb _ => n407069 b (rn_ty (show rKd γ b 1 from hb) ht406994 (by decide)))
                    refine G_iload 1 dr_cX17_merge_149 rfl ?_
                    refine G_iload 0 dr_cX17_merge_151 rfl ?_
                    refine G_icmp_eq 164 dr_cX17_merge_153 (by decide +kernel) (fun hc407076 => ?_) (fun hc407076 => ?_)
                    · have r407077 : z406962.toInt = z406963.toInt := gC_eq hc407076
                      have ac407078 : (fI (F407067 q396634) 11).toInt = p407016.toInt := by rw [he407071]; rfl
                      have ac407079 : (fI (F407067 q396634) 14).toInt = p407019.toInt := by rw [he407071]; rfl
                      refine G_iconst 1 dr_cX17_merge_164 (by decide +kernel) ?_
                      exact G_zretA FieldType.boolean dr_cX17_merge_165 rfl rfl (show ((rPh γ el f - rPh γ0 el0 f) / 18) ≤ (((387 * B + 6000) - rPh γ0 el0 f) / 18) by omega) (show (rPh γ el f - rPh γ0 el0 f) ≤ ((387 * B + 6000) - rPh γ0 el0 f) by omega) ⟨P396632, F407067, γ, el, 1, rfl, rfl, hs407074, ⟨by omega, by omega⟩, hB407063, (gB_w (gBl (show Int32.toInt 1 = 1 by decide)) (by decide) (by decide)), (by have qa0 : Int32.toInt 1 = 1 := (by decide); omega), (by have qa0 : Int32.toInt 1 = 1 := (by decide); omega), (by have qa0 : Int32.toInt 1 = 1 := (by decide); omega), (by have qa0 : Int32.toInt 1 = 1 := (by decide); omega), (Or.inr (by rw [show γ 6 f = γ0 6 f by omega]; exact Nat.le_of_eq sm406984)), dn407075, (by have qa0 : Int32.toInt 1 = 1 := (by decide); omega), (by have qa0 : Int32.toInt 1 = 1 := (by decide); omega), (fun h => absurd h (by decide)), mk407072⟩
                    · have r407080 : z406962.toInt ≠ z406963.toInt := gC_ne hc407076
                      refine G_aload_n 7 dr_cX17_merge_156 rfl ?_
                      refine G_iload 0 dr_cX17_merge_157 rfl ?_
                      refine G_iload 1 dr_cX17_merge_159 rfl ?_
                      have v0_407081 : 0 < γ 6 (γ 1 q396635) := by rw [hf406996]; omega
                      refine Gw_callS (As := [.ref q396635, .int z406963, .int z406962]) (gV_ok D I) (ct_368450_SpillForgeModel_rename l hl0 D I γ el P396632 F407067 q396635 z406963 z406962 hT407073 ht406995 bz406963 bz406962 (by omega)) dr_cX17_merge_161 ⟨wr_11_30, wr_1_14, wr_11_32, by decide, rfl, (Nat.le_of_ble_eq_true rfl), (Nat.le_of_ble_eq_true rfl)⟩ wr_11_31 (rm_zc pk407065) (rm_zs pk407065) (Nat.le_of_ble_eq_true rfl) (fun r407085 w407086 dc407082 ds407083 hp407084 => ?_) (fun _ _ _ _ _ z => z.elim)
                      obtain ⟨F407089, rfl, rfl, hT407090, hs407091, hdc, hds, x407087, x407088⟩ := hp407084
                      have hs407092 := rSk_str hs407074 hT407090 hs407091 (by decide) (by decide) (by decide)
                      have kp407093 : F407089 q396634 = F407067 q396634 := x407088 q396634 (rT0 ht406994 (by decide)) (rT2 ht406994 (by decide))
                      have mk407094 : mKp (F396633 q396634) (F407089 q396634) := mKp_tr mk407072 (mKp_eq (x407088 q396634 (rT0 ht406994 (by decide)) (rT2 ht406994 (by decide))))
                      have he407095 : F407089 q396634 = .inr (22, [.ref (γ 9 0), .ref (γ 9 1), .ref (γ 9 2), .ref (γ 9 3), .ref (γ 9 4), .ref (γ 9 5), .ref (γ 9 6), .ref (γ 9 7), .ref (γ 9 8), .int p407014, .int p407015, .int p407016, .int p407017, .int z407066, .int p407019, .ref (γ 9 15), .ref (γ 9 16), .ref (γ 9 17), .ref (γ 9 18), .ref (γ 9 19), .ref (γ 9 20), .ref (γ 9 21), .ref (γ 9 22), .int p407020, .int p407021, .int p407022, .int p407023, .int p407024, .ref q407012, .ref (γ 9 29), .int p407025, .ref (γ 9 31), .int p407026, .int p407027, .int p407028, .ref q407013]) := (x407088 q396634 (rT0 ht406994 (by decide)) (rT2 ht406994 (by decide))).trans he407071
                      change G _ _ _ _ _ _ _ _ _ _ _
                      refine G_widen (cs' := ((rPh γ el f - rPh γ0 el0 f) / 18)) (sl' := (rPh γ el f - rPh γ0 el0 f)) (rm_d0 hdc) (rm_d0 hds) ?_
                      have dn407096 : ∀ N : Nat → Prop, rPl γ0 el0 F396633 q396635 (γ0 6 f) (fun _ _ => rNx N) → rPl γ el F407089 q396635 (γ 6 f) (fun _ _ => rNx N) := fun N hN => by have z := x407087 N ((show z406962.toInt = p406940.toInt ∨ z406962.toInt = p406941.toInt by omega).elim (fun e => by rw [e]; exact (nm406987 N hN).1) (fun e => by rw [e]; exact (nm406987 N hN).2)) (by omega); rw [hf406996] at z; exact z (dn407075 N hN)
                      have ac407097 : (fI (F407089 q396634) 11).toInt = p407016.toInt := by rw [he407095]; rfl
                      have ac407098 : (fI (F407089 q396634) 14).toInt = p407019.toInt := by rw [he407095]; rfl
                      refine G_iconst 1 dr_cX17_merge_164 (by decide +kernel) ?_
                      exact G_zretA FieldType.boolean dr_cX17_merge_165 rfl rfl (show ((rPh γ el f - rPh γ0 el0 f) / 18) ≤ (((387 * B + 6000) - rPh γ0 el0 f) / 18) by omega) (show (rPh γ el f - rPh γ0 el0 f) ≤ ((387 * B + 6000) - rPh γ0 el0 f) by omega) ⟨P396632, F407089, γ, el, 1, rfl, rfl, hs407092, ⟨by omega, by omega⟩, hB407063, (gB_w (gBl (show Int32.toInt 1 = 1 by decide)) (by decide) (by decide)), (by have qa0 : Int32.toInt 1 = 1 := (by decide); omega), (by have qa0 : Int32.toInt 1 = 1 := (by decide); omega), (by have qa0 : Int32.toInt 1 = 1 := (by decide); omega), (by have qa0 : Int32.toInt 1 = 1 := (by decide); omega), (Or.inr (by rw [show γ 6 f = γ0 6 f by omega]; exact Nat.le_of_eq sm406984)), dn407096, (by have qa0 : Int32.toInt 1 = 1 := (by decide); omega), (by have qa0 : Int32.toInt 1 = 1 := (by decide); omega), (fun h => absurd h (by decide)), mk407094⟩
                  · have r407099 : p406940.toInt ≠ p406941.toInt := gC_ne hc406960
                    refine G_aload_n 4 dr_cX17_merge_77 rfl ?_
                    refine G_aload 0 dr_cX17_merge_78 rfl ?_
                    refine Gp_get 1 hm406937 he406938 dr_cX17_merge_80 (gk_X15 D I) (Nat.le_of_ble_eq_true rfl) wr_9_182 rfl ?_
                    refine G_aload 0 dr_cX17_merge_83 rfl ?_
                    refine Gp_get 2 hm406937 he406938 dr_cX17_merge_85 (gk_X15 D I) (Nat.le_of_ble_eq_true rfl) wr_9_186 rfl ?_
                    refine G_iload_n 6 dr_cX17_merge_88 rfl ?_
                    refine Gw_callV (As := [.int p406940, .int p406941, .int p396636]) (gV_ok D I) (ct_394646_SpillForgeModel_mayMerge l hl0 D I γ el P396632 F396633 q396634 p406940 p406941 p396636 hT htq396634 bp406940 ⟨by omega, by omega⟩) dr_cX17_merge_89 ⟨wr_11_12, wr_1_14, wr_11_15, by decide, rfl, (Nat.le_of_ble_eq_true rfl), (Nat.le_of_ble_eq_true rfl)⟩ wr_11_14 wr_p_102 hm396647 he396648 rfl (rm_zc pk396639) (rm_zs pk396639) (Nat.le_of_ble_eq_true rfl) (fun r407103 w407104 dc407100 ds407101 hp407102 => ?_) (fun _ _ _ _ _ z => z.elim)
                    obtain ⟨o407105, rfl, rfl, hdc, hds, bo407105, x407106⟩ := hp407102
                    change G _ _ _ _ _ _ _ (.int o407105 :: _) _ _ _
                    refine G_widen (cs' := ((rPh γ el f - rPh γ0 el0 f) / 18)) (sl' := (rPh γ el f - rPh γ0 el0 f)) (rm_d0 hdc) (rm_d0 hds) ?_
                    refine G_if_ne 98 dr_cX17_merge_92 (by decide +kernel) (fun hc407107 => ?_) (fun hc407107 => ?_)
                    · have r407108 : o407105.toInt ≠ 0 := gj_neq hc407107 (show Int32.toInt 0 = 0 by decide)
                      have bo407105' : gB o407105 1 1 := ⟨by omega, by omega⟩
                      have bp406941' : gB p406941 0 1999 := ⟨by omega, by omega⟩
                      refine G_aload 0 dr_cX17_merge_98 rfl ?_
                      refine Gp_get 1 hm406937 he406938 dr_cX17_merge_100 (gk_X15 D I) (Nat.le_of_ble_eq_true rfl) wr_9_182 rfl ?_
                      refine G_aload 0 dr_cX17_merge_103 rfl ?_
                      refine Gp_get 2 hm406937 he406938 dr_cX17_merge_105 (gk_X15 D I) (Nat.le_of_ble_eq_true rfl) wr_9_186 rfl ?_
                      refine G_mmin dr_cX17_merge_108 wr_11_20 wr_3_227 wr_1_6 wr_3_228 (Nat.le_of_ble_eq_true rfl) (Nat.le_of_ble_eq_true rfl) (show ((rPh γ el f - rPh γ0 el0 f) / 18) ≤ (((387 * B + 6000) - rPh γ0 el0 f) / 18) by first | omega | decide) (show (rPh γ el f - rPh γ0 el0 f) ≤ ((387 * B + 6000) - rPh γ0 el0 f) by first | omega | decide) (G_nam fun z407109 hz407109 => ?_)
                      have ez407109 : p406940.toInt ≥ z407109.toInt ∧ p406941.toInt ≥ z407109.toInt ∧ (z407109.toInt = p406940.toInt ∨ z407109.toInt = p406941.toInt) := by have := gI_min hz407109; omega
                      have bz407109 : gB z407109 0 1999 := ⟨by omega, by omega⟩
                      refine G_istore (L' := [(7, .int z407109), (6, .ref q406925), (5, .int g406893), (4, .ref q406513), (3, .int g406453), (0, .ref q396634), (1, .ref q396635), (2, .int p396636)]) dr_cX17_merge_111 (Nat.le_of_ble_eq_true rfl) rfl ?_
                      refine G_aload 1 dr_cX17_merge_113 rfl ?_
                      refine Gp_get 1 hm406937 he406938 dr_cX17_merge_115 (gk_X15 D I) (Nat.le_of_ble_eq_true rfl) wr_9_182 rfl ?_
                      refine G_aload 1 dr_cX17_merge_118 rfl ?_
                      refine Gp_get 2 hm406937 he406938 dr_cX17_merge_120 (gk_X15 D I) (Nat.le_of_ble_eq_true rfl) wr_9_186 rfl ?_
                      refine G_mmax dr_cX17_merge_123 wr_11_21 wr_1_140 wr_1_6 wr_1_141 (Nat.le_of_ble_eq_true rfl) (Nat.le_of_ble_eq_true rfl) (show ((rPh γ el f - rPh γ0 el0 f) / 18) ≤ (((387 * B + 6000) - rPh γ0 el0 f) / 18) by first | omega | decide) (show (rPh γ el f - rPh γ0 el0 f) ≤ ((387 * B + 6000) - rPh γ0 el0 f) by first | omega | decide) (G_nam fun z407110 hz407110 => ?_)
                      have ez407110 : p406940.toInt ≤ z407110.toInt ∧ p406941.toInt ≤ z407110.toInt ∧ (z407110.toInt = p406940.toInt ∨ z407110.toInt = p406941.toInt) := by have := gI_max hz407110; omega
                      have bz407110 : gB z407110 0 1999 := ⟨by omega, by omega⟩
                      refine G_istore (L' := [(8, .int z407110), (7, .int z407109), (6, .ref q406925), (5, .int g406893), (4, .ref q406513), (3, .int g406453), (0, .ref q396634), (1, .ref q396635), (2, .int p396636)]) dr_cX17_merge_126 (Nat.le_of_ble_eq_true rfl) rfl ?_
                      refine G_aload 4 dr_cX17_merge_128 rfl ?_
                      refine Gp_get 0 hm406520 he406521 dr_cX17_merge_130 (gk_X12 D I) (Nat.le_of_ble_eq_true rfl) wr_9_220 rfl ?_
                      refine G_iload 3 dr_cX17_merge_133 rfl ?_
                      have rg407111 := rM_ge hT htq396635 hf1
                      have rm407112 := rM_bd hB
                      have bd407113 := rBd_c hT htq396635 hf1 hB
                      have rc407114 := rc_at hT htq396635 hf1
                      have r407116 : γ 14 (el (γ 14 q396635) g406453.toInt.toNat) = q406522 := by rw [r406550]; exact ht406532.1
                      have r407117 := rg407111.2.2 _ r406549
                      rw [r407116] at r407117
                      have r407118 := bd407113.2.2.2 _ r406549
                      rw [r407116] at r407118
                      obtain ⟨q407120, hq407120⟩ : ∃ x, x = el q406522 g406893.toInt.toNat := ⟨_, rfl⟩
                      refine Gt_rem (c := q396635) (f := f) hl0 dr_cX17_merge_135 ⟨wr_11_22, wr_1_18, wr_11_25, by decide, rfl, (Nat.le_of_ble_eq_true rfl), (Nat.le_of_ble_eq_true rfl)⟩ wr_11_23 wr_11_24 hT ht406526 hf406542 htq396635 hf1 (by omega) (by omega) (rm_zc pk396639) (rm_zs pk396639) (Nat.le_of_ble_eq_true rfl) (fun F407115 γ el hq407119 => ?_)
                      rw [← hq407120]
                      have vv407132 := RS_valid hT0 hzq396635 hf0 x396637
                      rw [← hγ0] at vv407132
                      have sm407131 := rDq_sum (m := γ0 6 f) hT htq396635 hf1 (show g406453.toInt.toNat < γ0 6 f by omega) (by omega) r407116 (show g406893.toInt.toNat < _ by omega) hq407119
                      rw [hγ0, hel0] at sm407131
                      have dn407133 := fun (N : Nat → Prop) hN => rPl_dx (N := N) hT htq396635 hf1 hq407119 r407116 (show g406453.toInt.toNat < _ by omega) (show g406893.toInt.toNat < _ by omega) hN
                      rw [hγ0, hel0] at dn407133
                      have nm407134 := fun (N : Nat → Prop) hN => rPl_nm (N := N) (f := f) (j := g406893.toInt.toNat) hN (show g406453.toInt.toNat < _ by omega) r407116 (show g406893.toInt.toNat < _ by omega) hx406926.symm he406938 (by omega) (by omega)
                      rw [hγ0, hel0] at nm407134
                      obtain ⟨hk407121, h2407122, hel407123, hot407124, h16407125, h18407126, hnu407127, hr407128, hM407129, hBB407130⟩ := hq407119
                      have hk407135 := rSk_of hk407121
                      have r407136 : (fI (F407115 q396635) 3).toInt = (fI (F396633 q396635) 3).toInt := by rw [rSk_F hk407135 htq396635 (by decide) (by decide)]
                      have hT407137 := hk407135.1
                      have hs407138 := rSk_tr hst hk407135 (by decide) (by decide) (by decide)
                      have kp407139 : F407115 q396634 = F396633 q396634 := rSk_F hk407135 htq396634 (by decide) (by decide)
                      have r407140 := rSk_F hk407135 htq396634 (by decide) (by decide)
                      have ht407141 : rKd γ q396634 10 := rSk_k hk407135 htq396634 (by decide) (by decide)
                      have ht407142 : rKd γ q396635 9 := rSk_k hk407135 htq396635 (by decide) (by decide)
                      have hf407143 : γ 1 q396635 = f := rSk_1 hk407135 htq396635 (by decide) hf1
                      have ht407144 : rKd γ q406513 2 := rSk_k hk407135 ht406518 (by decide) (by decide)
                      have hf407145 : γ 1 q406513 = f := rSk_1 hk407135 ht406518 (by decide) hf406541
                      have ht407146 : rKd γ q406522 3 := rSk_k hk407135 ht406526 (by decide) (by decide)
                      have hf407147 : γ 1 q406522 = f := rSk_1 hk407135 ht406526 (by decide) hf406542
                      have ht407148 : rKd γ q406925 1 := rSk_k hk407135 ht406928 (by decide) (by decide)
                      have hf407149 : γ 1 q406925 = f := rSk_1 hk407135 ht406928 (by decide) hf406930
                      have mk407150 : mKp (F396633 q396634) (F407115 q396634) := mKp_tr mKp_rf (mKp_eq (rSk_F hk407135 htq396634 (by decide) (by decide)))
                      have r407151 := (rSk_s hk407135 htq396635 (by decide)).2.1
                      have r407152 := hot407124 _ (by rw [rc407114.2.1]; decide) (fun q => by rw [q, show _ = 3 from ht406526] at rc407114; exact absurd rc407114.2.1 (by decide))
                      have r407153 : g406453.toInt.toNat < γ 2 (γ 14 q396635) := by rw [r407151, r407152.1]; exact r406549
                      have r407154 : el (γ 14 q396635) g406453.toInt.toNat = q406513 := by rw [r407151, r407152.2]; exact r406550
                      have he407155 : F407115 q406925 = .inr (20, [.int p406939, .int p406940, .int p406941, .int p406942, .int p406943, .int p406944, .int p406945]) := (rSk_F hk407135 ht406928 (by decide) (by decide)).trans he406938
                      have hm407156 : q406925 ∈ P396632 := RS_m hT407137 ht407148 (by decide)
                      clear r406465 r406466 r406467 r406468 r406469 r406470 r406472 r406473 r406474 r406475 bp406459 bp406460 bp406524 bp406525 r406533 r406534 rg407111 rm407112 bd407113 rc407114 r407117 r407118
                      have hm407157 : q396634 ∈ P396632 := RS_m hT407137 ht407141 (by decide)
                      obtain ⟨q407159, q407160, p407161, p407162, p407163, p407164, p407165, p407166, p407167, p407168, p407169, p407170, p407171, p407172, p407173, p407174, p407175, he407158, hB407202, ht407176, ht407177, ht407178, ht407179, ht407180, ht407181, ht407182, ht407183, ht407184, ht407185, ht407186, ht407187, ht407188, ht407189, ht407190, ht407191, ht407192, ht407193, ht407194, ht407195, ht407196, ht407197, ht407198, ht407199, hB407203⟩ := show rk_10 γ (F407115 q396634) from RS_o hT407137 ht407141
                      have r407204 : p407163.toInt = p396653.toInt := by have z : p407163 = p396653 := congrArg (fun e => fI e 11) (he407158.symm.trans (r407140.trans he396648)); rw [z]
                      have bp407163 : gB p407163 0 100 := (hB407202.2.2.1)
                      have r407205 : p407166.toInt = p396656.toInt := by have z : p407166 = p396656 := congrArg (fun e => fI e 14) (he407158.symm.trans (r407140.trans he396648)); rw [z]
                      have bp407166 : gB p407166 0 2000 := (hB407202.2.2.2.1)
                      obtain ⟨nu407206, nu407207, nu407208, nu407209⟩ := hnu407127
                      have hB407210 : rBd γ el f B := hBB407130 B hB
                      have hph407211 : rPh γ0 el0 f ≤ rPh γ el f := by rw [hr407128]; exact hph
                      have pk407212 : rPh γ el f ≤ 387 * B + 6000 := rm_pk (rM_ge hT407137 ht407142 hf407143).1 (rM_bd hB407210)
                      refine G_widen (cs' := ((rPh γ el f - rPh γ0 el0 f) / 18)) (sl' := (rPh γ el f - rPh γ0 el0 f)) (rm_ec hr407128) (rm_es hr407128) ?_
                      refine G_pop dr_cX17_merge_138 rfl ?_
                      refine G_aload_n 6 dr_cX17_merge_139 rfl ?_
                      refine G_dup dr_cX17_merge_140 rfl ?_
                      refine Gp_get 13 hm407157 he407158 dr_cX17_merge_141 (gk_X17 D I) (Nat.le_of_ble_eq_true rfl) wr_7_87 rfl ?_
                      have bp407165 : gB p407165 (-2147483648) 2147483647 := (gB_any p407165)
                      refine G_iconst 1 dr_cX17_merge_144 (by decide +kernel) ?_
                      refine G_iadd dr_cX17_merge_145 (G_nam fun z407213 hz407213 => ?_)
                      have bz407213 : gB z407213 (-2147483648) 2147483647 := gB_any z407213
                      refine Gp_put 13 hm407157 he407158 dr_cX17_merge_146 (gk_X17 D I) (Nat.le_of_ble_eq_true rfl) wr_7_87 rfl rfl rfl (Nat.le_of_ble_eq_true rfl) (fun F407214 e407215 n407216 => ?_)
                      have he407217 : F407214 q406925 = .inr (20, [.int p406939, .int p406940, .int p406941, .int p406942, .int p406943, .int p406944, .int p406945]) := (n407216 q406925 (rn_oo he407155 he407158 (by decide))).trans he407155
                      have he407218 : F407214 q396634 = .inr (22, [.ref (γ 9 0), .ref (γ 9 1), .ref (γ 9 2), .ref (γ 9 3), .ref (γ 9 4), .ref (γ 9 5), .ref (γ 9 6), .ref (γ 9 7), .ref (γ 9 8), .int p407161, .int p407162, .int p407163, .int p407164, .int z407213, .int p407166, .ref (γ 9 15), .ref (γ 9 16), .ref (γ 9 17), .ref (γ 9 18), .ref (γ 9 19), .ref (γ 9 20), .ref (γ 9 21), .ref (γ 9 22), .int p407167, .int p407168, .int p407169, .int p407170, .int p407171, .ref q407159, .ref (γ 9 29), .int p407172, .ref (γ 9 31), .int p407173, .int p407174, .int p407175, .ref q407160]) := e407215
                      have mk407219 : mKp (F396633 q396634) (F407214 q396634) := mKp_tr mk407150 (by rw [he407158, he407218]; exact ⟨rfl, rfl⟩)
                      have hT407220 : RS D I P396632 F407214 γ el := RS_set hT407137 n407216 ht407141 (by decide) ⟨q407159, q407160, p407161, p407162, p407163, p407164, z407213, p407166, p407167, p407168, p407169, p407170, p407171, p407172, p407173, p407174, p407175, he407218, ⟨(hB407202.1), (hB407202.2.1), bp407163, bp407166, (hB407202.2.2.2.2.1), (hB407202.2.2.2.2.2.1), (hB407202.2.2.2.2.2.2.1), (hB407202.2.2.2.2.2.2.2.1), (hB407202.2.2.2.2.2.2.2.2)⟩, ht407176, ht407177, ht407178, ht407179, ht407180, ht407181, ht407182, ht407183, ht407184, ht407185, ht407186, ht407187, ht407188, ht407189, ht407190, ht407191, ht407192, ht407193, ht407194, ht407195, ht407196, ht407197, ht407198, ht407199, hB407203⟩
                      have hs407221 := rSk_put hs407138 hT407220 n407216 ht407141 (by decide) (by decide)
                      have dn407222 : ∀ N : Nat → Prop, rPl γ0 el0 F396633 q396635 (γ0 6 f) (fun _ _ => rNx N) → rPl γ el F407214 q396635 (γ 6 f) (fun _ _ => rNx N) := fun N hN => rPl_fr hT407137 ht407142 hf407143 (dn407133 N hN) (fun b hb _ => n407216 b (rn_ty (show rKd γ b 1 from hb) ht407141 (by decide)))
                      refine G_iload 1 dr_cX17_merge_149 rfl ?_
                      refine G_iload 0 dr_cX17_merge_151 rfl ?_
                      refine G_icmp_eq 164 dr_cX17_merge_153 (by decide +kernel) (fun hc407223 => ?_) (fun hc407223 => ?_)
                      · have r407224 : z407109.toInt = z407110.toInt := gC_eq hc407223
                        have ac407225 : (fI (F407214 q396634) 11).toInt = p407163.toInt := by rw [he407218]; rfl
                        have ac407226 : (fI (F407214 q396634) 14).toInt = p407166.toInt := by rw [he407218]; rfl
                        refine G_iconst 1 dr_cX17_merge_164 (by decide +kernel) ?_
                        exact G_zretA FieldType.boolean dr_cX17_merge_165 rfl rfl (show ((rPh γ el f - rPh γ0 el0 f) / 18) ≤ (((387 * B + 6000) - rPh γ0 el0 f) / 18) by omega) (show (rPh γ el f - rPh γ0 el0 f) ≤ ((387 * B + 6000) - rPh γ0 el0 f) by omega) ⟨P396632, F407214, γ, el, 1, rfl, rfl, hs407221, ⟨by omega, by omega⟩, hB407210, (gB_w (gBl (show Int32.toInt 1 = 1 by decide)) (by decide) (by decide)), (by have qa0 : Int32.toInt 1 = 1 := (by decide); omega), (by have qa0 : Int32.toInt 1 = 1 := (by decide); omega), (by have qa0 : Int32.toInt 1 = 1 := (by decide); omega), (by have qa0 : Int32.toInt 1 = 1 := (by decide); omega), (Or.inr (by rw [show γ 6 f = γ0 6 f by omega]; exact Nat.le_of_eq sm407131)), dn407222, (by have qa0 : Int32.toInt 1 = 1 := (by decide); omega), (by have qa0 : Int32.toInt 1 = 1 := (by decide); omega), (fun h => absurd h (by decide)), mk407219⟩
                      · have r407227 : z407109.toInt ≠ z407110.toInt := gC_ne hc407223
                        refine G_aload_n 7 dr_cX17_merge_156 rfl ?_
                        refine G_iload 0 dr_cX17_merge_157 rfl ?_
                        refine G_iload 1 dr_cX17_merge_159 rfl ?_
                        have v0_407228 : 0 < γ 6 (γ 1 q396635) := by rw [hf407143]; omega
                        refine Gw_callS (As := [.ref q396635, .int z407110, .int z407109]) (gV_ok D I) (ct_368450_SpillForgeModel_rename l hl0 D I γ el P396632 F407214 q396635 z407110 z407109 hT407220 ht407142 bz407110 bz407109 (by omega)) dr_cX17_merge_161 ⟨wr_11_30, wr_1_14, wr_11_32, by decide, rfl, (Nat.le_of_ble_eq_true rfl), (Nat.le_of_ble_eq_true rfl)⟩ wr_11_31 (rm_zc pk407212) (rm_zs pk407212) (Nat.le_of_ble_eq_true rfl) (fun r407232 w407233 dc407229 ds407230 hp407231 => ?_) (fun _ _ _ _ _ z => z.elim)
                        obtain ⟨F407236, rfl, rfl, hT407237, hs407238, hdc, hds, x407234, x407235⟩ := hp407231
                        have hs407239 := rSk_str hs407221 hT407237 hs407238 (by decide) (by decide) (by decide)
                        have kp407240 : F407236 q396634 = F407214 q396634 := x407235 q396634 (rT0 ht407141 (by decide)) (rT2 ht407141 (by decide))
                        have mk407241 : mKp (F396633 q396634) (F407236 q396634) := mKp_tr mk407219 (mKp_eq (x407235 q396634 (rT0 ht407141 (by decide)) (rT2 ht407141 (by decide))))
                        have he407242 : F407236 q396634 = .inr (22, [.ref (γ 9 0), .ref (γ 9 1), .ref (γ 9 2), .ref (γ 9 3), .ref (γ 9 4), .ref (γ 9 5), .ref (γ 9 6), .ref (γ 9 7), .ref (γ 9 8), .int p407161, .int p407162, .int p407163, .int p407164, .int z407213, .int p407166, .ref (γ 9 15), .ref (γ 9 16), .ref (γ 9 17), .ref (γ 9 18), .ref (γ 9 19), .ref (γ 9 20), .ref (γ 9 21), .ref (γ 9 22), .int p407167, .int p407168, .int p407169, .int p407170, .int p407171, .ref q407159, .ref (γ 9 29), .int p407172, .ref (γ 9 31), .int p407173, .int p407174, .int p407175, .ref q407160]) := (x407235 q396634 (rT0 ht407141 (by decide)) (rT2 ht407141 (by decide))).trans he407218
                        change G _ _ _ _ _ _ _ _ _ _ _
                        refine G_widen (cs' := ((rPh γ el f - rPh γ0 el0 f) / 18)) (sl' := (rPh γ el f - rPh γ0 el0 f)) (rm_d0 hdc) (rm_d0 hds) ?_
                        have dn407243 : ∀ N : Nat → Prop, rPl γ0 el0 F396633 q396635 (γ0 6 f) (fun _ _ => rNx N) → rPl γ el F407236 q396635 (γ 6 f) (fun _ _ => rNx N) := fun N hN => by have z := x407234 N ((show z407109.toInt = p406940.toInt ∨ z407109.toInt = p406941.toInt by omega).elim (fun e => by rw [e]; exact (nm407134 N hN).1) (fun e => by rw [e]; exact (nm407134 N hN).2)) (by omega); rw [hf407143] at z; exact z (dn407222 N hN)
                        have ac407244 : (fI (F407236 q396634) 11).toInt = p407163.toInt := by rw [he407242]; rfl
                        have ac407245 : (fI (F407236 q396634) 14).toInt = p407166.toInt := by rw [he407242]; rfl
                        refine G_iconst 1 dr_cX17_merge_164 (by decide +kernel) ?_
                        exact G_zretA FieldType.boolean dr_cX17_merge_165 rfl rfl (show ((rPh γ el f - rPh γ0 el0 f) / 18) ≤ (((387 * B + 6000) - rPh γ0 el0 f) / 18) by omega) (show (rPh γ el f - rPh γ0 el0 f) ≤ ((387 * B + 6000) - rPh γ0 el0 f) by omega) ⟨P396632, F407236, γ, el, 1, rfl, rfl, hs407239, ⟨by omega, by omega⟩, hB407210, (gB_w (gBl (show Int32.toInt 1 = 1 by decide)) (by decide) (by decide)), (by have qa0 : Int32.toInt 1 = 1 := (by decide); omega), (by have qa0 : Int32.toInt 1 = 1 := (by decide); omega), (by have qa0 : Int32.toInt 1 = 1 := (by decide); omega), (by have qa0 : Int32.toInt 1 = 1 := (by decide); omega), (Or.inr (by rw [show γ 6 f = γ0 6 f by omega]; exact Nat.le_of_eq sm407131)), dn407243, (by have qa0 : Int32.toInt 1 = 1 := (by decide); omega), (by have qa0 : Int32.toInt 1 = 1 := (by decide); omega), (fun h => absurd h (by decide)), mk407241⟩
                    · have r407246 : o407105.toInt = 0 := gj_eq hc407107 (show Int32.toInt 0 = 0 by decide)
                      have bo407105' : gB o407105 0 0 := ⟨by omega, by omega⟩
                      refine G_goto 166 dr_cX17_merge_95 (by decide +kernel) ?_
                      obtain ⟨z407247, hz407247⟩ : ∃ z : Int32, z = g406893 + Int32.ofInt 1 := ⟨_, rfl⟩
                      have ez407247 : z407247.toInt = g406893.toInt + 1 := gI_inc hz407247 (by decide) bg406893' (by decide) (by decide)
                      have bz407247 : gB z407247 1 1000000 := ⟨by omega, by omega⟩
                      refine G_iinc (L' := [(5, .int z407247), (6, .ref q406925), (4, .ref q406513), (3, .int g406453), (0, .ref q396634), (1, .ref q396635), (2, .int p396636)]) z407247 1 dr_cX17_merge_166 rfl hz407247.symm (Nat.le_of_ble_eq_true rfl) rfl ?_
                      refine G_goto 20 dr_cX17_merge_169 (by decide +kernel) ?_
                      refine G_lv (L' := [(5, .int z407247), (4, .ref q406513), (3, .int g406453), (0, .ref q396634), (1, .ref q396635), (2, .int p396636)]) [0, 2, 3, 4, 5, 6] rfl ?_
                      exact ih20_406893 z407247 (gB_w bz407247 (by decide) (by decide)) (by omega)
        exact hlp20_406893 (((1000001 : Int) - 0).toNat + 1) 0 (gB_w (gBl (show Int32.toInt 0 = 0 by decide)) (by decide) (by decide)) (Nat.lt_succ_self _)
  exact hlp2_406453 (((1000001 : Int) - 0).toNat + 1) 0 (gB_w (gBl (show Int32.toInt 0 = 0 by decide)) (by decide) (by decide)) (Nat.lt_succ_self _)
