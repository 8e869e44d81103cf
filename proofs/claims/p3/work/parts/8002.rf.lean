abbrev ky_385748_SpillForgeModel_mayMerge : gKey := (cX17_mayMerge, 8, "SpillForgeModel", (some FieldType.boolean), [], "mayMerge", fun _ _ => True)
def pt_385748_SpillForgeModel_mayMerge (D : va_G) (I : FieldType → ClassId) (γ el : Nat → Nat → Nat) (P385742 : List Nat) (F385743 : Nat → va_E) (q385744 : Nat) (p385745 : Int32) (p385746 : Int32) (p385747 : Int32) : Option Value → va_W → Nat → Nat → Prop := fun r w dc ds => ∃ (o387613 : Int32), r = some (.int o387613) ∧ w = va_pl P385742 F385743 ∧ dc ≤ 0 ∧ ds ≤ 0 ∧ gB o387613 0 1 ∧ (o387613.toInt = 0 ∨ (p385745.toInt < 100 ∧ p385746.toInt < 100))
set_option maxRecDepth 100000 in
set_option maxHeartbeats 4000000 in
theorem ct_385748_SpillForgeModel_mayMerge (l : Launch) (hl0 : l.stackTraces = false) (D : va_G) (I : FieldType → ClassId) (γ el : Nat → Nat → Nat) (P385742 : List Nat) (F385743 : Nat → va_E) (q385744 : Nat) (p385745 : Int32) (p385746 : Int32) (p385747 : Int32) (hT : RS D I P385742 F385743 γ el) (htq385744 : rKd γ q385744 10) (bp385745 : gB p385745 0 1999) (bp385746 : gB p385746 0 1999) : CtA (gV D I) l yX17_mayMerge cX17_mayMerge 8 (some FieldType.boolean) 2 43 0 0 [.ref q385744, .int p385745, .int p385746, .int p385747] (va_pl P385742 F385743) (pt_385748_SpillForgeModel_mayMerge D I γ el P385742 F385743 q385744 p385745 p385746 p385747) gNA := by
  refine CtA_of hl0 (by decide) (Nat.le_of_ble_eq_true rfl) ?_
  have bp385747 := gB_any p385747
  refine G_iload_n 1 dr_cX17_mayMerge_0 rfl ?_
  refine G_bipush 100 dr_cX17_mayMerge_1 (by decide +kernel) ?_
  refine G_icmp_ge 25 dr_cX17_mayMerge_3 (by decide +kernel) (fun hc385749 => ?_) (fun hc385749 => ?_)
  · have r385750 : 100 ≤ p385745.toInt := gj_leL hc385749 (show Int32.toInt 100 = 100 by decide)
    have bp385745' : gB p385745 100 1999 := ⟨by omega, by omega⟩
    refine G_iconst 0 dr_cX17_mayMerge_25 (by decide +kernel) ?_
    exact G_zretA FieldType.boolean dr_cX17_mayMerge_26 rfl rfl (Nat.le_of_ble_eq_true rfl) (Nat.le_of_ble_eq_true rfl) ⟨0, rfl, rfl, (Nat.le_of_ble_eq_true rfl), (Nat.le_of_ble_eq_true rfl), (gB_w (gBl (show Int32.toInt 0 = 0 by decide)) (by decide) (by decide)), (by have qa0 : Int32.toInt 0 = 0 := (by decide); omega)⟩
  · have r385751 : p385745.toInt < 100 := gj_nleL hc385749 (show Int32.toInt 100 = 100 by decide)
    have bp385745' : gB p385745 0 99 := ⟨by omega, by omega⟩
    refine G_iload_n 2 dr_cX17_mayMerge_6 rfl ?_
    refine G_bipush 100 dr_cX17_mayMerge_7 (by decide +kernel) ?_
    refine G_icmp_ge 25 dr_cX17_mayMerge_9 (by decide +kernel) (fun hc385752 => ?_) (fun hc385752 => ?_)
    · have r385753 : 100 ≤ p385746.toInt := gj_leL hc385752 (show Int32.toInt 100 = 100 by decide)
      have bp385746' : gB p385746 100 1999 := ⟨by omega, by omega⟩
      refine G_iconst 0 dr_cX17_mayMerge_25 (by decide +kernel) ?_
      exact G_zretA FieldType.boolean dr_cX17_mayMerge_26 rfl rfl (Nat.le_of_ble_eq_true rfl) (Nat.le_of_ble_eq_true rfl) ⟨0, rfl, rfl, (Nat.le_of_ble_eq_true rfl), (Nat.le_of_ble_eq_true rfl), (gB_w (gBl (show Int32.toInt 0 = 0 by decide)) (by decide) (by decide)), (by have qa0 : Int32.toInt 0 = 0 := (by decide); omega)⟩
    · have r385754 : p385746.toInt < 100 := gj_nleL hc385752 (show Int32.toInt 100 = 100 by decide)
      have bp385746' : gB p385746 0 99 := ⟨by omega, by omega⟩
      refine G_aload_n 0 dr_cX17_mayMerge_12 rfl ?_
      have hm385755 : q385744 ∈ P385742 := RS_m hT htq385744 (by decide)
      refine rk10_e (show rk_10 γ (F385743 q385744) from RS_o hT htq385744) (fun q385757 q385758 p385759 p385760 p385761 p385762 p385763 p385764 p385765 p385766 p385767 p385768 p385769 p385770 p385771 p385772 p385773 he385756 hB385800 ht385774 ht385775 ht385776 ht385777 ht385778 ht385779 ht385780 ht385781 ht385782 ht385783 ht385784 ht385785 ht385786 ht385787 ht385788 ht385789 ht385790 ht385791 ht385792 ht385793 ht385794 ht385795 ht385796 ht385797 hB385801 => ?_)
      refine Gp_get 1 hm385755 he385756 dr_cX17_mayMerge_13 (gk_X17 D I) (Nat.le_of_ble_eq_true rfl) wr_7_75 rfl ?_
      refine G_iload_n 1 dr_cX17_mayMerge_16 rfl ?_
      have hm385802 : (γ 9 1) ∈ P385742 := RS_m hT ht385777 (by decide)
      obtain ⟨f385804, he385803, hg385805⟩ := show rk_13 I γ (F385743 (γ 9 1)) from RS_o hT ht385777
      obtain ⟨q385806, hx385808⟩ : ∃ x, x = γ 11 p385745.toInt.toNat := ⟨_, rfl⟩
      have ht385807 : rKd γ q385806 36 := by rw [hx385808]; exact (hg385805 _ (show p385745.toInt.toNat < 2000 by omega)).2.1
      refine Gp_aald 5 hm385802 he385803 dr_cX17_mayMerge_17 rfl rfl (gB_in bp385745' (by decide) (by decide)) ?_
      rw [show f385804 p385745.toNatClampNeg = some q385806 from (hg385805 _ (show p385745.toInt.toNat < 2000 by omega)).1.trans (by rw [hx385808])]
      change G _ _ _ _ _ _ _ (.ref q385806 :: _) _ _ _
      refine G_iload_n 2 dr_cX17_mayMerge_18 rfl ?_
      have hm385809 : q385806 ∈ P385742 := RS_m hT ht385807 (by decide)
      obtain ⟨f385811, he385810, wf385811⟩ := show rk_36 I (F385743 q385806) from RS_o hT ht385807
      refine Gw_callS (As := [.ref q385806, .int p385746]) (gV_ok D I) (cp_1838_SpillForgeModel_has l hl0 D I P385742 F385743 q385806 p385746 f385811 hm385809 he385810 (gB_w bp385746' (by decide) (by decide))) dr_cX17_mayMerge_19 ⟨wr_10_203, wr_1_14, wr_10_205, by decide, rfl, (Nat.le_of_ble_eq_true rfl), (Nat.le_of_ble_eq_true rfl)⟩ wr_10_204 (show 0 + 0 ≤ 0 by first | omega | decide) (show 0 + 0 ≤ 0 by first | omega | decide) (Nat.le_of_ble_eq_true rfl) (fun r385815 w385816 dc385812 ds385813 hp385814 => ?_) (fun _ _ _ _ _ z => z.elim)
      rcases hp385814 with ⟨z385817, z385818, rfl, rfl, hdc, hds, r385819, r385820, r385821, r385822⟩ | ⟨z385823, z385824, rfl, rfl, hdc, hds, r385825, r385826, r385827, r385828⟩
      · change G _ _ _ _ _ _ _ (.int 0 :: _) _ _ _
        refine G_widen (cs' := 0) (sl' := 0) (by omega) (by omega) ?_
        refine G_if_eq 27 dr_cX17_mayMerge_22 (by decide +kernel) (fun _ => ?_) (fun hc => absurd hc (by decide))
        refine G_iconst 0 dr_cX17_mayMerge_27 (by decide +kernel) ?_
        refine G_istore (L' := [(4, .int 0), (0, .ref q385744), (1, .int p385745), (2, .int p385746), (3, .int p385747)]) dr_cX17_mayMerge_28 (Nat.le_of_ble_eq_true rfl) rfl ?_
        refine G_iconst 0 dr_cX17_mayMerge_30 (by decide +kernel) ?_
        refine G_istore (L' := [(5, .int 0), (4, .int 0), (0, .ref q385744), (1, .int p385745), (2, .int p385746), (3, .int p385747)]) dr_cX17_mayMerge_31 (Nat.le_of_ble_eq_true rfl) rfl ?_
        have hlp33_387472 : ∀ (n33_387472 : Nat) (g387471 : Int32) (g387472 : Int32), gB g387471 0 2000 → ((2001 : Int) - g387471.toInt).toNat < n33_387472 → G (gV D I) l (gRm 2 43 0 0) (gMA (gV D I) (pt_385748_SpillForgeModel_mayMerge D I γ el P385742 F385743 q385744 p385745 p385746 p385747) gNA 0 0) ky_385748_SpillForgeModel_mayMerge 33 [(5, .int g387471), (4, .int g387472), (0, .ref q385744), (1, .int p385745), (2, .int p385746), (3, .int p385747)] [] (va_pl P385742 F385743) 0 0 := by
          intro n33_387472
          induction n33_387472 with
          | zero => intro g387471 g387472 bg387471 hm33_387472; exact absurd hm33_387472 (Nat.not_lt_zero _)
          | succ n33_387472 ih33_387472 =>
            intro g387471 g387472 bg387471 hm33_387472
            have bg387472 := gB_any g387472
            refine G_iload 0 dr_cX17_mayMerge_33 rfl ?_
            refine G_sipush 2000 dr_cX17_mayMerge_35 (by decide +kernel) ?_
            refine G_icmp_ge 126 dr_cX17_mayMerge_38 (by decide +kernel) (fun hc387474 => ?_) (fun hc387474 => ?_)
            · have r387475 : 2000 ≤ g387471.toInt := gj_leL hc387474 (show Int32.toInt 2000 = 2000 by decide)
              have bg387471' : gB g387471 2000 2000 := ⟨by omega, by omega⟩
              refine G_iload 1 dr_cX17_mayMerge_126 rfl ?_
              refine G_iload_n 5 dr_cX17_mayMerge_128 rfl ?_
              refine G_icmp_ge 136 dr_cX17_mayMerge_129 (by decide +kernel) (fun hc387476 => ?_) (fun hc387476 => ?_)
              · have r387477 : p385747.toInt ≤ g387472.toInt := gC_le hc387476
                refine G_iconst 0 dr_cX17_mayMerge_136 (by decide +kernel) ?_
                exact G_zretA FieldType.boolean dr_cX17_mayMerge_137 rfl rfl (Nat.le_of_ble_eq_true rfl) (Nat.le_of_ble_eq_true rfl) ⟨0, rfl, rfl, (Nat.le_of_ble_eq_true rfl), (Nat.le_of_ble_eq_true rfl), (gB_w (gBl (show Int32.toInt 0 = 0 by decide)) (by decide) (by decide)), (by have qa0 : Int32.toInt 0 = 0 := (by decide); omega)⟩
              · have r387478 : g387472.toInt < p385747.toInt := gC_nle hc387476
                have bg387472' : gB g387472 (-2147483648) 2147483646 := ⟨by omega, by omega⟩
                have bp385747' : gB p385747 (-2147483647) 2147483647 := ⟨by omega, by omega⟩
                refine G_iconst 1 dr_cX17_mayMerge_132 (by decide +kernel) ?_
                refine G_goto 137 dr_cX17_mayMerge_133 (by decide +kernel) ?_
                exact G_zretA FieldType.boolean dr_cX17_mayMerge_137 rfl rfl (Nat.le_of_ble_eq_true rfl) (Nat.le_of_ble_eq_true rfl) ⟨1, rfl, rfl, (Nat.le_of_ble_eq_true rfl), (Nat.le_of_ble_eq_true rfl), (gB_w (gBl (show Int32.toInt 1 = 1 by decide)) (by decide) (by decide)), (by have qa0 : Int32.toInt 1 = 1 := (by decide); omega)⟩
            · have r387479 : g387471.toInt < 2000 := gj_nleL hc387474 (show Int32.toInt 2000 = 2000 by decide)
              have bg387471' : gB g387471 0 1999 := ⟨by omega, by omega⟩
              refine G_aload_n 2 dr_cX17_mayMerge_41 rfl ?_
              refine Gp_get 1 hm385755 he385756 dr_cX17_mayMerge_42 (gk_X17 D I) (Nat.le_of_ble_eq_true rfl) wr_7_75 rfl ?_
              refine G_iload_n 3 dr_cX17_mayMerge_45 rfl ?_
              obtain ⟨q387480, hx387482⟩ : ∃ x, x = γ 11 p385745.toInt.toNat := ⟨_, rfl⟩
              have ht387481 : rKd γ q387480 36 := by rw [hx387482]; exact (hg385805 _ (show p385745.toInt.toNat < 2000 by omega)).2.1
              refine Gp_aald 5 hm385802 he385803 dr_cX17_mayMerge_46 rfl rfl (gB_in bp385745' (by decide) (by decide)) ?_
              rw [show f385804 p385745.toNatClampNeg = some q387480 from (hg385805 _ (show p385745.toInt.toNat < 2000 by omega)).1.trans (by rw [hx387482])]
              change G _ _ _ _ _ _ _ (.ref q387480 :: _) _ _ _
              refine G_iload 0 dr_cX17_mayMerge_47 rfl ?_
              have hm387483 : q387480 ∈ P385742 := RS_m hT ht387481 (by decide)
              obtain ⟨f387485, he387484, wf387485⟩ := show rk_36 I (F385743 q387480) from RS_o hT ht387481
              refine Gw_callS (As := [.ref q387480, .int g387471]) (gV_ok D I) (cp_1838_SpillForgeModel_has l hl0 D I P385742 F385743 q387480 g387471 f387485 hm387483 he387484 (gB_w bg387471' (by decide) (by decide))) dr_cX17_mayMerge_49 ⟨wr_10_203, wr_1_14, wr_10_205, by decide, rfl, (Nat.le_of_ble_eq_true rfl), (Nat.le_of_ble_eq_true rfl)⟩ wr_10_204 (show 0 + 0 ≤ 0 by first | omega | decide) (show 0 + 0 ≤ 0 by first | omega | decide) (Nat.le_of_ble_eq_true rfl) (fun r387489 w387490 dc387486 ds387487 hp387488 => ?_) (fun _ _ _ _ _ z => z.elim)
              rcases hp387488 with ⟨z387491, z387492, rfl, rfl, hdc, hds, r387493, r387494, r387495, r387496⟩ | ⟨z387497, z387498, rfl, rfl, hdc, hds, r387499, r387500, r387501, r387502⟩
              · change G _ _ _ _ _ _ _ (.int 0 :: _) _ _ _
                refine G_widen (cs' := 0) (sl' := 0) (by omega) (by omega) ?_
                refine G_istore (L' := [(6, .int 0), (5, .int g387471), (4, .int g387472), (0, .ref q385744), (1, .int p385745), (2, .int p385746), (3, .int p385747)]) dr_cX17_mayMerge_52 (Nat.le_of_ble_eq_true rfl) rfl ?_
                refine G_aload_n 3 dr_cX17_mayMerge_54 rfl ?_
                refine Gp_get 1 hm385755 he385756 dr_cX17_mayMerge_55 (gk_X17 D I) (Nat.le_of_ble_eq_true rfl) wr_7_75 rfl ?_
                refine G_iload_n 5 dr_cX17_mayMerge_58 rfl ?_
                obtain ⟨q387504, hx387506⟩ : ∃ x, x = γ 11 p385746.toInt.toNat := ⟨_, rfl⟩
                have ht387505 : rKd γ q387504 36 := by rw [hx387506]; exact (hg385805 _ (show p385746.toInt.toNat < 2000 by omega)).2.1
                refine Gp_aald 5 hm385802 he385803 dr_cX17_mayMerge_59 rfl rfl (gB_in bp385746' (by decide) (by decide)) ?_
                rw [show f385804 p385746.toNatClampNeg = some q387504 from (hg385805 _ (show p385746.toInt.toNat < 2000 by omega)).1.trans (by rw [hx387506])]
                change G _ _ _ _ _ _ _ (.ref q387504 :: _) _ _ _
                refine G_iload 1 dr_cX17_mayMerge_60 rfl ?_
                have hm387507 : q387504 ∈ P385742 := RS_m hT ht387505 (by decide)
                obtain ⟨f387509, he387508, wf387509⟩ := show rk_36 I (F385743 q387504) from RS_o hT ht387505
                refine Gw_callS (As := [.ref q387504, .int g387471]) (gV_ok D I) (cp_1838_SpillForgeModel_has l hl0 D I P385742 F385743 q387504 g387471 f387509 hm387507 he387508 (gB_w bg387471' (by decide) (by decide))) dr_cX17_mayMerge_62 ⟨wr_10_203, wr_1_14, wr_10_205, by decide, rfl, (Nat.le_of_ble_eq_true rfl), (Nat.le_of_ble_eq_true rfl)⟩ wr_10_204 (show 0 + 0 ≤ 0 by first | omega | decide) (show 0 + 0 ≤ 0 by first | omega | decide) (Nat.le_of_ble_eq_true rfl) (fun r387513 w387514 dc387510 ds387511 hp387512 => ?_) (fun _ _ _ _ _ z => z.elim)
                rcases hp387512 with ⟨z387515, z387516, rfl, rfl, hdc, hds, r387517, r387518, r387519, r387520⟩ | ⟨z387521, z387522, rfl, rfl, hdc, hds, r387523, r387524, r387525, r387526⟩
                · change G _ _ _ _ _ _ _ (.int 0 :: _) _ _ _
                  refine G_widen (cs' := 0) (sl' := 0) (by omega) (by omega) ?_
                  refine G_istore (L' := [(7, .int 0), (6, .int 0), (5, .int g387471), (4, .int g387472), (0, .ref q385744), (1, .int p385745), (2, .int p385746), (3, .int p385747)]) dr_cX17_mayMerge_65 (Nat.le_of_ble_eq_true rfl) rfl ?_
                  refine G_iload 1 dr_cX17_mayMerge_67 rfl ?_
                  refine G_if_ne 80 dr_cX17_mayMerge_69 (by decide +kernel) (fun hc => absurd hc (by decide)) (fun _ => ?_)
                  refine G_iload 0 dr_cX17_mayMerge_72 rfl ?_
                  refine G_if_ne 80 dr_cX17_mayMerge_74 (by decide +kernel) (fun hc => absurd hc (by decide)) (fun _ => ?_)
                  refine G_goto 120 dr_cX17_mayMerge_77 (by decide +kernel) ?_
                  obtain ⟨z387528, hz387528⟩ : ∃ z : Int32, z = g387471 + Int32.ofInt 1 := ⟨_, rfl⟩
                  have ez387528 : z387528.toInt = g387471.toInt + 1 := gI_inc hz387528 (by decide) bg387471' (by decide) (by decide)
                  have bz387528 : gB z387528 1 2000 := ⟨by omega, by omega⟩
                  refine G_iinc (L' := [(5, .int z387528), (7, .int 0), (6, .int 0), (4, .int g387472), (0, .ref q385744), (1, .int p385745), (2, .int p385746), (3, .int p385747)]) z387528 2 dr_cX17_mayMerge_120 rfl hz387528.symm (Nat.le_of_ble_eq_true rfl) rfl ?_
                  refine G_goto 33 dr_cX17_mayMerge_123 (by decide +kernel) ?_
                  refine G_lv (L' := [(5, .int z387528), (4, .int g387472), (0, .ref q385744), (1, .int p385745), (2, .int p385746), (3, .int p385747)]) [0, 3, 4, 5, 6, 7] rfl ?_
                  exact ih33_387472 z387528 g387472 (gB_w bz387528 (by decide) (by decide)) (mz_up ez387528 (Int.le_trans bg387471'.2 (by decide)) hm33_387472)
                · change G _ _ _ _ _ _ _ (.int 1 :: _) _ _ _
                  refine G_widen (cs' := 0) (sl' := 0) (by omega) (by omega) ?_
                  refine G_istore (L' := [(7, .int 1), (6, .int 0), (5, .int g387471), (4, .int g387472), (0, .ref q385744), (1, .int p385745), (2, .int p385746), (3, .int p385747)]) dr_cX17_mayMerge_65 (Nat.le_of_ble_eq_true rfl) rfl ?_
                  refine G_iload 1 dr_cX17_mayMerge_67 rfl ?_
                  refine G_if_ne 80 dr_cX17_mayMerge_69 (by decide +kernel) (fun hc => absurd hc (by decide)) (fun _ => ?_)
                  refine G_iload 0 dr_cX17_mayMerge_72 rfl ?_
                  refine G_if_ne 80 dr_cX17_mayMerge_74 (by decide +kernel) (fun _ => ?_) (fun hc => absurd hc (by decide))
                  refine G_iload 3 dr_cX17_mayMerge_80 rfl ?_
                  refine G_aload_n 4 dr_cX17_mayMerge_82 rfl ?_
                  refine Gp_get 1 hm385755 he385756 dr_cX17_mayMerge_83 (gk_X17 D I) (Nat.le_of_ble_eq_true rfl) wr_7_75 rfl ?_
                  refine G_iload 2 dr_cX17_mayMerge_86 rfl ?_
                  obtain ⟨q387529, hx387531⟩ : ∃ x, x = γ 11 g387471.toInt.toNat := ⟨_, rfl⟩
                  have ht387530 : rKd γ q387529 36 := by rw [hx387531]; exact (hg385805 _ (show g387471.toInt.toNat < 2000 by omega)).2.1
                  refine Gp_aald 5 hm385802 he385803 dr_cX17_mayMerge_88 rfl rfl (gB_in bg387471' (by decide) (by decide)) ?_
                  rw [show f385804 g387471.toNatClampNeg = some q387529 from (hg385805 _ (show g387471.toInt.toNat < 2000 by omega)).1.trans (by rw [hx387531])]
                  change G _ _ _ _ _ _ _ (.ref q387529 :: _) _ _ _
                  have hm387532 : q387529 ∈ P385742 := RS_m hT ht387530 (by decide)
                  obtain ⟨f387534, he387533, wf387534⟩ := show rk_36 I (F385743 q387529) from RS_o hT ht387530
                  refine Gw_callS (As := [.ref q387529]) (gV_ok D I) (cp_1892_SpillForgeModel_count l hl0 D I P385742 F385743 q387529 f387534 hm387532 he387533) dr_cX17_mayMerge_89 ⟨wr_11_16, wr_1_14, wr_11_18, by decide, rfl, (Nat.le_of_ble_eq_true rfl), (Nat.le_of_ble_eq_true rfl)⟩ wr_11_17 (show 0 + 0 ≤ 0 by first | omega | decide) (show 0 + 0 ≤ 0 by first | omega | decide) (Nat.le_of_ble_eq_true rfl) (fun r387538 w387539 dc387535 ds387536 hp387537 => ?_) (fun _ _ _ _ _ z => z.elim)
                  obtain ⟨o387540, rfl, rfl, hdc, hds⟩ := hp387537
                  have bo387540 := gB_any o387540
                  change G _ _ _ _ _ _ _ (.int o387540 :: _) _ _ _
                  refine G_widen (cs' := 0) (sl' := 0) (by omega) (by omega) ?_
                  refine G_iload 1 dr_cX17_mayMerge_92 rfl ?_
                  refine G_if_eq 106 dr_cX17_mayMerge_94 (by decide +kernel) (fun _ => ?_) (fun hc => absurd hc (by decide))
                  refine G_iconst 0 dr_cX17_mayMerge_106 (by decide +kernel) ?_
                  refine G_isub dr_cX17_mayMerge_107 (G_nam fun z387541 hz387541 => ?_)
                  have ez387541 : z387541.toInt = o387540.toInt - 0 := by rw [gI_sub hz387541 bo387540 (gBl (show Int32.toInt 0 = 0 by decide)) (by decide) (by decide), show Int32.toInt 0 = 0 from by decide]
                  have bz387541 : gB z387541 (-2147483648) 2147483647 := gB_sub (gI_sub hz387541 bo387540 (gBl (show Int32.toInt 0 = 0 by decide)) (by decide) (by decide)) bo387540 (gBl (show Int32.toInt 0 = 0 by decide)) (by decide) (by decide)
                  refine G_iload_n 7 dr_cX17_mayMerge_108 rfl ?_
                  refine G_icmp_lt 116 dr_cX17_mayMerge_109 (by decide +kernel) (fun hc387542 => ?_) (fun hc387542 => ?_)
                  · have r387543 : z387541.toInt < p385747.toInt := gC_lt hc387542
                    have bz387541' : gB z387541 (-2147483648) 2147483646 := ⟨by omega, by omega⟩
                    have bp385747' : gB p385747 (-2147483647) 2147483647 := ⟨by omega, by omega⟩
                    refine G_iconst 0 dr_cX17_mayMerge_116 (by decide +kernel) ?_
                    refine G_iadd dr_cX17_mayMerge_117 (G_nam fun z387544 hz387544 => ?_)
                    have ez387544 : z387544.toInt = g387472.toInt + 0 := by rw [gI_add hz387544 bg387472 (gBl (show Int32.toInt 0 = 0 by decide)) (by decide) (by decide), show Int32.toInt 0 = 0 from by decide]
                    have bz387544 : gB z387544 (-2147483648) 2147483647 := gB_add (gI_add hz387544 bg387472 (gBl (show Int32.toInt 0 = 0 by decide)) (by decide) (by decide)) bg387472 (gBl (show Int32.toInt 0 = 0 by decide)) (by decide) (by decide)
                    refine G_istore (L' := [(4, .int z387544), (7, .int 1), (6, .int 0), (5, .int g387471), (0, .ref q385744), (1, .int p385745), (2, .int p385746), (3, .int p385747)]) dr_cX17_mayMerge_118 (Nat.le_of_ble_eq_true rfl) rfl ?_
                    obtain ⟨z387545, hz387545⟩ : ∃ z : Int32, z = g387471 + Int32.ofInt 1 := ⟨_, rfl⟩
                    have ez387545 : z387545.toInt = g387471.toInt + 1 := gI_inc hz387545 (by decide) bg387471' (by decide) (by decide)
                    have bz387545 : gB z387545 1 2000 := ⟨by omega, by omega⟩
                    refine G_iinc (L' := [(5, .int z387545), (4, .int z387544), (7, .int 1), (6, .int 0), (0, .ref q385744), (1, .int p385745), (2, .int p385746), (3, .int p385747)]) z387545 3 dr_cX17_mayMerge_120 rfl hz387545.symm (Nat.le_of_ble_eq_true rfl) rfl ?_
                    refine G_goto 33 dr_cX17_mayMerge_123 (by decide +kernel) ?_
                    refine G_lv (L' := [(5, .int z387545), (4, .int z387544), (0, .ref q385744), (1, .int p385745), (2, .int p385746), (3, .int p385747)]) [0, 1, 4, 5, 6, 7] rfl ?_
                    exact ih33_387472 z387545 z387544 (gB_w bz387545 (by decide) (by decide)) (mz_up ez387545 (Int.le_trans bg387471'.2 (by decide)) hm33_387472)
                  · have r387546 : p385747.toInt ≤ z387541.toInt := gC_nlt hc387542
                    refine G_iconst 1 dr_cX17_mayMerge_112 (by decide +kernel) ?_
                    refine G_goto 117 dr_cX17_mayMerge_113 (by decide +kernel) ?_
                    refine G_iadd dr_cX17_mayMerge_117 (G_nam fun z387547 hz387547 => ?_)
                    have bz387547 : gB z387547 (-2147483648) 2147483647 := gB_any z387547
                    refine G_istore (L' := [(4, .int z387547), (7, .int 1), (6, .int 0), (5, .int g387471), (0, .ref q385744), (1, .int p385745), (2, .int p385746), (3, .int p385747)]) dr_cX17_mayMerge_118 (Nat.le_of_ble_eq_true rfl) rfl ?_
                    obtain ⟨z387548, hz387548⟩ : ∃ z : Int32, z = g387471 + Int32.ofInt 1 := ⟨_, rfl⟩
                    have ez387548 : z387548.toInt = g387471.toInt + 1 := gI_inc hz387548 (by decide) bg387471' (by decide) (by decide)
                    have bz387548 : gB z387548 1 2000 := ⟨by omega, by omega⟩
                    refine G_iinc (L' := [(5, .int z387548), (4, .int z387547), (7, .int 1), (6, .int 0), (0, .ref q385744), (1, .int p385745), (2, .int p385746), (3, .int p385747)]) z387548 3 dr_cX17_mayMerge_120 rfl hz387548.symm (Nat.le_of_ble_eq_true rfl) rfl ?_
                    refine G_goto 33 dr_cX17_mayMerge_123 (by decide +kernel) ?_
                    refine G_lv (L' := [(5, .int z387548), (4, .int z387547), (0, .ref q385744), (1, .int p385745), (2, .int p385746), (3, .int p385747)]) [0, 1, 4, 5, 6, 7] rfl ?_
                    exact ih33_387472 z387548 z387547 (gB_w bz387548 (by decide) (by decide)) (mz_up ez387548 (Int.le_trans bg387471'.2 (by decide)) hm33_387472)
              · change G _ _ _ _ _ _ _ (.int 1 :: _) _ _ _
                refine G_widen (cs' := 0) (sl' := 0) (by omega) (by omega) ?_
                refine G_istore (L' := [(6, .int 1), (5, .int g387471), (4, .int g387472), (0, .ref q385744), (1, .int p385745), (2, .int p385746), (3, .int p385747)]) dr_cX17_mayMerge_52 (Nat.le_of_ble_eq_true rfl) rfl ?_
                refine G_aload_n 3 dr_cX17_mayMerge_54 rfl ?_
                refine Gp_get 1 hm385755 he385756 dr_cX17_mayMerge_55 (gk_X17 D I) (Nat.le_of_ble_eq_true rfl) wr_7_75 rfl ?_
                refine G_iload_n 5 dr_cX17_mayMerge_58 rfl ?_
                obtain ⟨q387549, hx387551⟩ : ∃ x, x = γ 11 p385746.toInt.toNat := ⟨_, rfl⟩
                have ht387550 : rKd γ q387549 36 := by rw [hx387551]; exact (hg385805 _ (show p385746.toInt.toNat < 2000 by omega)).2.1
                refine Gp_aald 5 hm385802 he385803 dr_cX17_mayMerge_59 rfl rfl (gB_in bp385746' (by decide) (by decide)) ?_
                rw [show f385804 p385746.toNatClampNeg = some q387549 from (hg385805 _ (show p385746.toInt.toNat < 2000 by omega)).1.trans (by rw [hx387551])]
                change G _ _ _ _ _ _ _ (.ref q387549 :: _) _ _ _
                refine G_iload 1 dr_cX17_mayMerge_60 rfl ?_
                have hm387552 : q387549 ∈ P385742 := RS_m hT ht387550 (by decide)
                obtain ⟨f387554, he387553, wf387554⟩ := show rk_36 I (F385743 q387549) from RS_o hT ht387550
                refine Gw_callS (As := [.ref q387549, .int g387471]) (gV_ok D I) (cp_1838_SpillForgeModel_has l hl0 D I P385742 F385743 q387549 g387471 f387554 hm387552 he387553 (gB_w bg387471' (by decide) (by decide))) dr_cX17_mayMerge_62 ⟨wr_10_203, wr_1_14, wr_10_205, by decide, rfl, (Nat.le_of_ble_eq_true rfl), (Nat.le_of_ble_eq_true rfl)⟩ wr_10_204 (show 0 + 0 ≤ 0 by first | omega | decide) (show 0 + 0 ≤ 0 by first | omega | decide) (Nat.le_of_ble_eq_true rfl) (fun r387558 w387559 dc387555 ds387556 hp387557 => ?_) (fun _ _ _ _ _ z => z.elim)
                rcases hp387557 with ⟨z387560, z387561, rfl, rfl, hdc, hds, r387562, r387563, r387564, r387565⟩ | ⟨z387566, z387567, rfl, rfl, hdc, hds, r387568, r387569, r387570, r387571⟩
                · change G _ _ _ _ _ _ _ (.int 0 :: _) _ _ _
                  refine G_widen (cs' := 0) (sl' := 0) (by omega) (by omega) ?_
                  refine G_istore (L' := [(7, .int 0), (6, .int 1), (5, .int g387471), (4, .int g387472), (0, .ref q385744), (1, .int p385745), (2, .int p385746), (3, .int p385747)]) dr_cX17_mayMerge_65 (Nat.le_of_ble_eq_true rfl) rfl ?_
                  refine G_iload 1 dr_cX17_mayMerge_67 rfl ?_
                  refine G_if_ne 80 dr_cX17_mayMerge_69 (by decide +kernel) (fun _ => ?_) (fun hc => absurd hc (by decide))
                  refine G_iload 3 dr_cX17_mayMerge_80 rfl ?_
                  refine G_aload_n 4 dr_cX17_mayMerge_82 rfl ?_
                  refine Gp_get 1 hm385755 he385756 dr_cX17_mayMerge_83 (gk_X17 D I) (Nat.le_of_ble_eq_true rfl) wr_7_75 rfl ?_
                  refine G_iload 2 dr_cX17_mayMerge_86 rfl ?_
                  obtain ⟨q387573, hx387575⟩ : ∃ x, x = γ 11 g387471.toInt.toNat := ⟨_, rfl⟩
                  have ht387574 : rKd γ q387573 36 := by rw [hx387575]; exact (hg385805 _ (show g387471.toInt.toNat < 2000 by omega)).2.1
                  refine Gp_aald 5 hm385802 he385803 dr_cX17_mayMerge_88 rfl rfl (gB_in bg387471' (by decide) (by decide)) ?_
                  rw [show f385804 g387471.toNatClampNeg = some q387573 from (hg385805 _ (show g387471.toInt.toNat < 2000 by omega)).1.trans (by rw [hx387575])]
                  change G _ _ _ _ _ _ _ (.ref q387573 :: _) _ _ _
                  have hm387576 : q387573 ∈ P385742 := RS_m hT ht387574 (by decide)
                  obtain ⟨f387578, he387577, wf387578⟩ := show rk_36 I (F385743 q387573) from RS_o hT ht387574
                  refine Gw_callS (As := [.ref q387573]) (gV_ok D I) (cp_1892_SpillForgeModel_count l hl0 D I P385742 F385743 q387573 f387578 hm387576 he387577) dr_cX17_mayMerge_89 ⟨wr_11_16, wr_1_14, wr_11_18, by decide, rfl, (Nat.le_of_ble_eq_true rfl), (Nat.le_of_ble_eq_true rfl)⟩ wr_11_17 (show 0 + 0 ≤ 0 by first | omega | decide) (show 0 + 0 ≤ 0 by first | omega | decide) (Nat.le_of_ble_eq_true rfl) (fun r387582 w387583 dc387579 ds387580 hp387581 => ?_) (fun _ _ _ _ _ z => z.elim)
                  obtain ⟨o387584, rfl, rfl, hdc, hds⟩ := hp387581
                  have bo387584 := gB_any o387584
                  change G _ _ _ _ _ _ _ (.int o387584 :: _) _ _ _
                  refine G_widen (cs' := 0) (sl' := 0) (by omega) (by omega) ?_
                  refine G_iload 1 dr_cX17_mayMerge_92 rfl ?_
                  refine G_if_eq 106 dr_cX17_mayMerge_94 (by decide +kernel) (fun hc => absurd hc (by decide)) (fun _ => ?_)
                  refine G_iload 0 dr_cX17_mayMerge_97 rfl ?_
                  refine G_if_eq 106 dr_cX17_mayMerge_99 (by decide +kernel) (fun _ => ?_) (fun hc => absurd hc (by decide))
                  refine G_iconst 0 dr_cX17_mayMerge_106 (by decide +kernel) ?_
                  refine G_isub dr_cX17_mayMerge_107 (G_nam fun z387585 hz387585 => ?_)
                  have ez387585 : z387585.toInt = o387584.toInt - 0 := by rw [gI_sub hz387585 bo387584 (gBl (show Int32.toInt 0 = 0 by decide)) (by decide) (by decide), show Int32.toInt 0 = 0 from by decide]
                  have bz387585 : gB z387585 (-2147483648) 2147483647 := gB_sub (gI_sub hz387585 bo387584 (gBl (show Int32.toInt 0 = 0 by decide)) (by decide) (by decide)) bo387584 (gBl (show Int32.toInt 0 = 0 by decide)) (by decide) (by decide)
                  refine G_iload_n 7 dr_cX17_mayMerge_108 rfl ?_
                  refine G_icmp_lt 116 dr_cX17_mayMerge_109 (by decide +kernel) (fun hc387586 => ?_) (fun hc387586 => ?_)
                  · have r387587 : z387585.toInt < p385747.toInt := gC_lt hc387586
                    have bz387585' : gB z387585 (-2147483648) 2147483646 := ⟨by omega, by omega⟩
                    have bp385747' : gB p385747 (-2147483647) 2147483647 := ⟨by omega, by omega⟩
                    refine G_iconst 0 dr_cX17_mayMerge_116 (by decide +kernel) ?_
                    refine G_iadd dr_cX17_mayMerge_117 (G_nam fun z387588 hz387588 => ?_)
                    have ez387588 : z387588.toInt = g387472.toInt + 0 := by rw [gI_add hz387588 bg387472 (gBl (show Int32.toInt 0 = 0 by decide)) (by decide) (by decide), show Int32.toInt 0 = 0 from by decide]
                    have bz387588 : gB z387588 (-2147483648) 2147483647 := gB_add (gI_add hz387588 bg387472 (gBl (show Int32.toInt 0 = 0 by decide)) (by decide) (by decide)) bg387472 (gBl (show Int32.toInt 0 = 0 by decide)) (by decide) (by decide)
                    refine G_istore (L' := [(4, .int z387588), (7, .int 0), (6, .int 1), (5, .int g387471), (0, .ref q385744), (1, .int p385745), (2, .int p385746), (3, .int p385747)]) dr_cX17_mayMerge_118 (Nat.le_of_ble_eq_true rfl) rfl ?_
                    obtain ⟨z387589, hz387589⟩ : ∃ z : Int32, z = g387471 + Int32.ofInt 1 := ⟨_, rfl⟩
                    have ez387589 : z387589.toInt = g387471.toInt + 1 := gI_inc hz387589 (by decide) bg387471' (by decide) (by decide)
                    have bz387589 : gB z387589 1 2000 := ⟨by omega, by omega⟩
                    refine G_iinc (L' := [(5, .int z387589), (4, .int z387588), (7, .int 0), (6, .int 1), (0, .ref q385744), (1, .int p385745), (2, .int p385746), (3, .int p385747)]) z387589 3 dr_cX17_mayMerge_120 rfl hz387589.symm (Nat.le_of_ble_eq_true rfl) rfl ?_
                    refine G_goto 33 dr_cX17_mayMerge_123 (by decide +kernel) ?_
                    refine G_lv (L' := [(5, .int z387589), (4, .int z387588), (0, .ref q385744), (1, .int p385745), (2, .int p385746), (3, .int p385747)]) [0, 1, 4, 5, 6, 7] rfl ?_
                    exact ih33_387472 z387589 z387588 (gB_w bz387589 (by decide) (by decide)) (mz_up ez387589 (Int.le_trans bg387471'.2 (by decide)) hm33_387472)
                  · have r387590 : p385747.toInt ≤ z387585.toInt := gC_nlt hc387586
                    refine G_iconst 1 dr_cX17_mayMerge_112 (by decide +kernel) ?_
                    refine G_goto 117 dr_cX17_mayMerge_113 (by decide +kernel) ?_
                    refine G_iadd dr_cX17_mayMerge_117 (G_nam fun z387591 hz387591 => ?_)
                    have bz387591 : gB z387591 (-2147483648) 2147483647 := gB_any z387591
                    refine G_istore (L' := [(4, .int z387591), (7, .int 0), (6, .int 1), (5, .int g387471), (0, .ref q385744), (1, .int p385745), (2, .int p385746), (3, .int p385747)]) dr_cX17_mayMerge_118 (Nat.le_of_ble_eq_true rfl) rfl ?_
                    obtain ⟨z387592, hz387592⟩ : ∃ z : Int32, z = g387471 + Int32.ofInt 1 := ⟨_, rfl⟩
                    have ez387592 : z387592.toInt = g387471.toInt + 1 := gI_inc hz387592 (by decide) bg387471' (by decide) (by decide)
                    have bz387592 : gB z387592 1 2000 := ⟨by omega, by omega⟩
                    refine G_iinc (L' := [(5, .int z387592), (4, .int z387591), (7, .int 0), (6, .int 1), (0, .ref q385744), (1, .int p385745), (2, .int p385746), (3, .int p385747)]) z387592 3 dr_cX17_mayMerge_120 rfl hz387592.symm (Nat.le_of_ble_eq_true rfl) rfl ?_
                    refine G_goto 33 dr_cX17_mayMerge_123 (by decide +kernel) ?_
                    refine G_lv (L' := [(5, .int z387592), (4, .int z387591), (0, .ref q385744), (1, .int p385745), (2, .int p385746), (3, .int p385747)]) [0, 1, 4, 5, 6, 7] rfl ?_
                    exact ih33_387472 z387592 z387591 (gB_w bz387592 (by decide) (by decide)) (mz_up ez387592 (Int.le_trans bg387471'.2 (by decide)) hm33_387472)
                · change G _ _ _ _ _ _ _ (.int 1 :: _) _ _ _
                  refine G_widen (cs' := 0) (sl' := 0) (by omega) (by omega) ?_
                  refine G_istore (L' := [(7, .int 1), (6, .int 1), (5, .int g387471), (4, .int g387472), (0, .ref q385744), (1, .int p385745), (2, .int p385746), (3, .int p385747)]) dr_cX17_mayMerge_65 (Nat.le_of_ble_eq_true rfl) rfl ?_
                  refine G_iload 1 dr_cX17_mayMerge_67 rfl ?_
                  refine G_if_ne 80 dr_cX17_mayMerge_69 (by decide +kernel) (fun _ => ?_) (fun hc => absurd hc (by decide))
                  refine G_iload 3 dr_cX17_mayMerge_80 rfl ?_
                  refine G_aload_n 4 dr_cX17_mayMerge_82 rfl ?_
                  refine Gp_get 1 hm385755 he385756 dr_cX17_mayMerge_83 (gk_X17 D I) (Nat.le_of_ble_eq_true rfl) wr_7_75 rfl ?_
                  refine G_iload 2 dr_cX17_mayMerge_86 rfl ?_
                  obtain ⟨q387593, hx387595⟩ : ∃ x, x = γ 11 g387471.toInt.toNat := ⟨_, rfl⟩
                  have ht387594 : rKd γ q387593 36 := by rw [hx387595]; exact (hg385805 _ (show g387471.toInt.toNat < 2000 by omega)).2.1
                  refine Gp_aald 5 hm385802 he385803 dr_cX17_mayMerge_88 rfl rfl (gB_in bg387471' (by decide) (by decide)) ?_
                  rw [show f385804 g387471.toNatClampNeg = some q387593 from (hg385805 _ (show g387471.toInt.toNat < 2000 by omega)).1.trans (by rw [hx387595])]
                  change G _ _ _ _ _ _ _ (.ref q387593 :: _) _ _ _
                  have hm387596 : q387593 ∈ P385742 := RS_m hT ht387594 (by decide)
                  obtain ⟨f387598, he387597, wf387598⟩ := show rk_36 I (F385743 q387593) from RS_o hT ht387594
                  refine Gw_callS (As := [.ref q387593]) (gV_ok D I) (cp_1892_SpillForgeModel_count l hl0 D I P385742 F385743 q387593 f387598 hm387596 he387597) dr_cX17_mayMerge_89 ⟨wr_11_16, wr_1_14, wr_11_18, by decide, rfl, (Nat.le_of_ble_eq_true rfl), (Nat.le_of_ble_eq_true rfl)⟩ wr_11_17 (show 0 + 0 ≤ 0 by first | omega | decide) (show 0 + 0 ≤ 0 by first | omega | decide) (Nat.le_of_ble_eq_true rfl) (fun r387602 w387603 dc387599 ds387600 hp387601 => ?_) (fun _ _ _ _ _ z => z.elim)
                  obtain ⟨o387604, rfl, rfl, hdc, hds⟩ := hp387601
                  have bo387604 := gB_any o387604
                  change G _ _ _ _ _ _ _ (.int o387604 :: _) _ _ _
                  refine G_widen (cs' := 0) (sl' := 0) (by omega) (by omega) ?_
                  refine G_iload 1 dr_cX17_mayMerge_92 rfl ?_
                  refine G_if_eq 106 dr_cX17_mayMerge_94 (by decide +kernel) (fun hc => absurd hc (by decide)) (fun _ => ?_)
                  refine G_iload 0 dr_cX17_mayMerge_97 rfl ?_
                  refine G_if_eq 106 dr_cX17_mayMerge_99 (by decide +kernel) (fun hc => absurd hc (by decide)) (fun _ => ?_)
                  refine G_iconst 1 dr_cX17_mayMerge_102 (by decide +kernel) ?_
                  refine G_goto 107 dr_cX17_mayMerge_103 (by decide +kernel) ?_
                  refine G_isub dr_cX17_mayMerge_107 (G_nam fun z387605 hz387605 => ?_)
                  have bz387605 : gB z387605 (-2147483648) 2147483647 := gB_any z387605
                  refine G_iload_n 7 dr_cX17_mayMerge_108 rfl ?_
                  refine G_icmp_lt 116 dr_cX17_mayMerge_109 (by decide +kernel) (fun hc387606 => ?_) (fun hc387606 => ?_)
                  · have r387607 : z387605.toInt < p385747.toInt := gC_lt hc387606
                    have bz387605' : gB z387605 (-2147483648) 2147483646 := ⟨by omega, by omega⟩
                    have bp385747' : gB p385747 (-2147483647) 2147483647 := ⟨by omega, by omega⟩
                    refine G_iconst 0 dr_cX17_mayMerge_116 (by decide +kernel) ?_
                    refine G_iadd dr_cX17_mayMerge_117 (G_nam fun z387608 hz387608 => ?_)
                    have ez387608 : z387608.toInt = g387472.toInt + 0 := by rw [gI_add hz387608 bg387472 (gBl (show Int32.toInt 0 = 0 by decide)) (by decide) (by decide), show Int32.toInt 0 = 0 from by decide]
                    have bz387608 : gB z387608 (-2147483648) 2147483647 := gB_add (gI_add hz387608 bg387472 (gBl (show Int32.toInt 0 = 0 by decide)) (by decide) (by decide)) bg387472 (gBl (show Int32.toInt 0 = 0 by decide)) (by decide) (by decide)
                    refine G_istore (L' := [(4, .int z387608), (7, .int 1), (6, .int 1), (5, .int g387471), (0, .ref q385744), (1, .int p385745), (2, .int p385746), (3, .int p385747)]) dr_cX17_mayMerge_118 (Nat.le_of_ble_eq_true rfl) rfl ?_
                    obtain ⟨z387609, hz387609⟩ : ∃ z : Int32, z = g387471 + Int32.ofInt 1 := ⟨_, rfl⟩
                    have ez387609 : z387609.toInt = g387471.toInt + 1 := gI_inc hz387609 (by decide) bg387471' (by decide) (by decide)
                    have bz387609 : gB z387609 1 2000 := ⟨by omega, by omega⟩
                    refine G_iinc (L' := [(5, .int z387609), (4, .int z387608), (7, .int 1), (6, .int 1), (0, .ref q385744), (1, .int p385745), (2, .int p385746), (3, .int p385747)]) z387609 3 dr_cX17_mayMerge_120 rfl hz387609.symm (Nat.le_of_ble_eq_true rfl) rfl ?_
                    refine G_goto 33 dr_cX17_mayMerge_123 (by decide +kernel) ?_
                    refine G_lv (L' := [(5, .int z387609), (4, .int z387608), (0, .ref q385744), (1, .int p385745), (2, .int p385746), (3, .int p385747)]) [0, 1, 4, 5, 6, 7] rfl ?_
                    exact ih33_387472 z387609 z387608 (gB_w bz387609 (by decide) (by decide)) (mz_up ez387609 (Int.le_trans bg387471'.2 (by decide)) hm33_387472)
                  · have r387610 : p385747.toInt ≤ z387605.toInt := gC_nlt hc387606
                    refine G_iconst 1 dr_cX17_mayMerge_112 (by decide +kernel) ?_
                    refine G_goto 117 dr_cX17_mayMerge_113 (by decide +kernel) ?_
                    refine G_iadd dr_cX17_mayMerge_117 (G_nam fun z387611 hz387611 => ?_)
                    have bz387611 : gB z387611 (-2147483648) 2147483647 := gB_any z387611
                    refine G_istore (L' := [(4, .int z387611), (7, .int 1), (6, .int 1), (5, .int g387471), (0, .ref q385744), (1, .int p385745), (2, .int p385746), (3, .int p385747)]) dr_cX17_mayMerge_118 (Nat.le_of_ble_eq_true rfl) rfl ?_
                    obtain ⟨z387612, hz387612⟩ : ∃ z : Int32, z = g387471 + Int32.ofInt 1 := ⟨_, rfl⟩
                    have ez387612 : z387612.toInt = g387471.toInt + 1 := gI_inc hz387612 (by decide) bg387471' (by decide) (by decide)
                    have bz387612 : gB z387612 1 2000 := ⟨by omega, by omega⟩
                    refine G_iinc (L' := [(5, .int z387612), (4, .int z387611), (7, .int 1), (6, .int 1), (0, .ref q385744), (1, .int p385745), (2, .int p385746), (3, .int p385747)]) z387612 3 dr_cX17_mayMerge_120 rfl hz387612.symm (Nat.le_of_ble_eq_true rfl) rfl ?_
                    refine G_goto 33 dr_cX17_mayMerge_123 (by decide +kernel) ?_
                    refine G_lv (L' := [(5, .int z387612), (4, .int z387611), (0, .ref q385744), (1, .int p385745), (2, .int p385746), (3, .int p385747)]) [0, 1, 4, 5, 6, 7] rfl ?_
                    exact ih33_387472 z387612 z387611 (gB_w bz387612 (by decide) (by decide)) (mz_up ez387612 (Int.le_trans bg387471'.2 (by decide)) hm33_387472)
        exact hlp33_387472 (((2001 : Int) - 0).toNat + 1) 0 0 (gB_w (gBl (show Int32.toInt 0 = 0 by decide)) (by decide) (by decide)) (Nat.lt_succ_self _)
      · change G _ _ _ _ _ _ _ (.int 1 :: _) _ _ _
        refine G_widen (cs' := 0) (sl' := 0) (by omega) (by omega) ?_
        refine G_if_eq 27 dr_cX17_mayMerge_22 (by decide +kernel) (fun hc => absurd hc (by decide)) (fun _ => ?_)
        refine G_iconst 0 dr_cX17_mayMerge_25 (by decide +kernel) ?_
        exact G_zretA FieldType.boolean dr_cX17_mayMerge_26 rfl rfl (Nat.le_of_ble_eq_true rfl) (Nat.le_of_ble_eq_true rfl) ⟨0, rfl, rfl, (Nat.le_of_ble_eq_true rfl), (Nat.le_of_ble_eq_true rfl), (gB_w (gBl (show Int32.toInt 0 = 0 by decide)) (by decide) (by decide)), (by have qa0 : Int32.toInt 0 = 0 := (by decide); omega)⟩
abbrev ky_387621_SpillForgeModel_merge : gKey := (cX17_merge, 9, "SpillForgeModel", (some FieldType.boolean), [], "merge", fun _ _ => True)
def pg_387621_SpillForgeModel_merge (D : va_G) (I : FieldType → ClassId) (γ0 el0 : Nat → Nat → Nat) (f : Nat) (B : Nat) (P387615 : List Nat) (F387616 : Nat → va_E) (q387617 : Nat) (q387618 : Nat) (p387619 : Int32) : Option Value → va_W → Nat → Nat → Prop := fun r w dc ds => ∃ (P398194 : List Nat) (F398195 : Nat → va_E) (γ el : Nat → Nat → Nat) (o398193 : Int32), r = some (.int o398193) ∧ w = va_pl P398194 F398195 ∧ rSk f [] ([1, 3, 6] ++ npk) D I P387615 F387616 γ0 el0 P398194 F398195 γ el ∧ (18 * dc + rPh γ0 el0 f ≤ rPh γ el f ∧ ds + rPh γ0 el0 f ≤ rPh γ el f) ∧ rBd γ el f B ∧ gB o398193 0 1 ∧ γ 6 f = γ0 6 f ∧ γ 7 f = γ0 7 f ∧ γ 16 f = γ0 16 f ∧ γ 18 f = γ0 18 f ∧ (o398193.toInt = 0 ∨ rsum (fun i => γ 2 (γ 14 (el (γ 14 q387618) i))) (γ 6 f) + 1 ≤ rsum (fun i => γ0 2 (γ0 14 (el0 (γ0 14 q387618) i))) (γ0 6 f)) ∧ (∀ N : Nat → Prop, rPl γ0 el0 F387616 q387618 (γ0 6 f) (fun _ _ => rNx N) → rPl γ el F398195 q387618 (γ 6 f) (fun _ _ => rNx N)) ∧ (fI (F398195 q387617) 11).toInt = (fI (F387616 q387617) 11).toInt ∧ (fI (F398195 q387617) 14).toInt = (fI (F387616 q387617) 14).toInt ∧ (gIp (o398193.toInt = 0) (γ = γ0 ∧ el = el0 ∧ F398195 = F387616)) ∧ mKp (F387616 q387617) (F398195 q387617)
set_option maxRecDepth 100000 in
set_option maxHeartbeats 1500000 in
theorem cg_387621_SpillForgeModel_merge (l : Launch) (hl0 : l.stackTraces = false) (D : va_G) (I : FieldType → ClassId) (γ0 el0 : Nat → Nat → Nat) (f : Nat) (B : Nat) (P387615 : List Nat) (F387616 : Nat → va_E) (q387617 : Nat) (q387618 : Nat) (p387619 : Int32) (hT0 : RS D I P387615 F387616 γ0 el0) (hzq387617 : rKd γ0 q387617 10) (hzq387618 : rKd γ0 q387618 9) (hf0 : γ0 1 q387618 = f) (hB0 : rBd γ0 el0 f B) (hBk : B ≤ 100000) (x387620 : 0 < γ0 6 f) : CtA (gV D I) l yX17_merge cX17_merge 9 (some FieldType.boolean) 5 111 (((387 * B + 6000) - rPh γ0 el0 f) / 18) ((387 * B + 6000) - rPh γ0 el0 f) [.ref q387617, .ref q387618, .int p387619] (va_pl P387615 F387616) (pg_387621_SpillForgeModel_merge D I γ0 el0 f B P387615 F387616 q387617 q387618 p387619) gNA := by
  refine CtA_of hl0 (by decide) (Nat.le_of_ble_eq_true rfl) ?_
  have bp387619 := gB_any p387619
  obtain ⟨γ, hγ0⟩ : ∃ z, z = γ0 := ⟨_, rfl⟩
  obtain ⟨el, hel0⟩ : ∃ z, z = el0 := ⟨_, rfl⟩
  have hT : RS D I P387615 F387616 γ el := by rw [hγ0, hel0]; exact hT0
  have hst : rSk f [] ([1, 3, 6] ++ npk) D I P387615 F387616 γ0 el0 P387615 F387616 γ el := by rw [hγ0, hel0]; exact rSk_rf hT0
  have hph : rPh γ0 el0 f ≤ rPh γ el f := by rw [hγ0, hel0]; exact Nat.le_refl _
  have hB : rBd γ el f B := by rw [hγ0, hel0]; exact hB0
  have htq387617 : rKd γ q387617 10 := by rw [hγ0]; exact hzq387617
  have htq387618 : rKd γ q387618 9 := by rw [hγ0]; exact hzq387618
  have hf1 : γ 1 q387618 = f := by rw [hγ0]; exact hf0
  have x387620n : 0 < γ 6 f := by rw [hγ0]; exact x387620
  have pk387622 : rPh γ el f ≤ 387 * B + 6000 := rm_pk (rM_ge hT htq387618 hf1).1 (rM_bd hB)
  refine G_widen (cs' := ((rPh γ el f - rPh γ0 el0 f) / 18)) (sl' := (rPh γ el f - rPh γ0 el0 f)) (Nat.zero_le _) (Nat.zero_le _) ?_
  have e0_387623 : γ 6 f = γ0 6 f := by rw [hγ0]
  have e0_387624 : γ 7 f = γ0 7 f := by rw [hγ0]
  have e0_387625 : γ 16 f = γ0 16 f := by rw [hγ0]
  have e0_387626 : γ 18 f = γ0 18 f := by rw [hγ0]
  have e0_387627 : γ 19 f = γ0 19 f := by rw [hγ0]
  have v0_387628 : 0 < γ 6 (γ 1 q387618) := by rw [hf1, hγ0]; exact x387620
  have s0_387629 : rsum (fun i => γ 2 (γ 14 (el (γ 14 q387618) i))) (γ 6 f) = rsum (fun i => γ0 2 (γ0 14 (el0 (γ0 14 q387618) i))) (γ0 6 f) := by rw [hγ0, hel0]
  have hm387630 : q387617 ∈ P387615 := RS_m hT htq387617 (by decide)
  obtain ⟨q387632, q387633, p387634, p387635, p387636, p387637, p387638, p387639, p387640, p387641, p387642, p387643, p387644, p387645, p387646, p387647, p387648, he387631, hB387675, ht387649, ht387650, ht387651, ht387652, ht387653, ht387654, ht387655, ht387656, ht387657, ht387658, ht387659, ht387660, ht387661, ht387662, ht387663, ht387664, ht387665, ht387666, ht387667, ht387668, ht387669, ht387670, ht387671, ht387672, hB387676⟩ := show rk_10 γ (F387616 q387617) from RS_o hT htq387617
  have ac0_11 : (fI (F387616 q387617) 11).toInt = p387636.toInt := by rw [he387631]; rfl
  have ac0_14 : (fI (F387616 q387617) 14).toInt = p387639.toInt := by rw [he387631]; rfl
  have bp387636 : gB p387636 0 100 := (hB387675.2.2.1)
  have bp387639 : gB p387639 0 2000 := (hB387675.2.2.2.1)
  refine G_iconst 0 dr_cX17_merge_0 (by decide +kernel) ?_
  refine G_istore_n (L' := [(3, .int 0), (0, .ref q387617), (1, .ref q387618), (2, .int p387619)]) dr_cX17_merge_1 (Nat.le_of_ble_eq_true rfl) rfl ?_
  have hlp2_397401 : ∀ (n2_397401 : Nat) (g397401 : Int32), gB g397401 0 1000000 → ((1000001 : Int) - g397401.toInt).toNat < n2_397401 → G (gV D I) l (gRm 5 111 (((387 * B + 6000) - rPh γ0 el0 f) / 18) ((387 * B + 6000) - rPh γ0 el0 f)) (gMA (gV D I) (pg_387621_SpillForgeModel_merge D I γ0 el0 f B P387615 F387616 q387617 q387618 p387619) gNA (((387 * B + 6000) - rPh γ0 el0 f) / 18) ((387 * B + 6000) - rPh γ0 el0 f)) ky_387621_SpillForgeModel_merge 2 [(3, .int g397401), (0, .ref q387617), (1, .ref q387618), (2, .int p387619)] [] (va_pl P387615 F387616) ((rPh γ el f - rPh γ0 el0 f) / 18) (rPh γ el f - rPh γ0 el0 f) := by
    intro n2_397401
    induction n2_397401 with
    | zero => intro g397401 bg397401 hm2_397401; exact absurd hm2_397401 (Nat.not_lt_zero _)
    | succ n2_397401 ih2_397401 =>
      intro g397401 bg397401 hm2_397401
      refine G_iload_n 0 dr_cX17_merge_2 rfl ?_
      refine G_aload_n 2 dr_cX17_merge_3 rfl ?_
      have hm397403 : q387618 ∈ P387615 := RS_m hT htq387618 (by decide)
      obtain ⟨q397405, q397406, p397407, p397408, he397404, ht397424, ht397409, ht397410, ht397411, ht397412, r397413, r397414, r397415, r397416, r397417, r397418, r397419, r397420, r397421, r397422, r397423⟩ := show rk_9 γ el q387618 (F387616 q387618) from RS_o hT htq387618
      have bp397407 : gB p397407 0 1000000 := ⟨by omega, by omega⟩
      have bp397408 : gB p397408 0 1000000 := ⟨by omega, by omega⟩
      have hf397425 : γ 1 q397405 = f := (show γ 1 q397405 = γ 1 q387618 from ht397410).trans hf1
      have hf397426 : γ 1 q397406 = f := (show γ 1 q397406 = γ 1 q387618 from ht397412).trans hf1
      have r397427 : γ 6 (γ 1 q387618) = γ 6 f := by rw [hf1]
      have r397428 : γ 16 (γ 1 q387618) = γ 16 f := by rw [hf1]
      have r397429 : p397408.toInt = γ 6 f ∧ p397408.toInt ≤ 40 := by omega
      clear r397419
      refine Gw_callV (As := []) (gV_ok D I) (cp_12496_Code_size l hl0 D I P387615 F387616 q387618 q397405 q397406 p397407 p397408 hm397403 he397404) dr_cX17_merge_4 ⟨wr_10_160, wr_1_15, wr_9_131, by decide, rfl, (Nat.le_of_ble_eq_true rfl), (Nat.le_of_ble_eq_true rfl)⟩ wr_9_129 wr_9_130 hm397403 he397404 rfl (rm_zc pk387622) (rm_zs pk387622) (Nat.le_of_ble_eq_true rfl) (fun r397433 w397434 dc397430 ds397431 hp397432 => ?_) (fun _ _ _ _ _ z => z.elim)
      obtain ⟨rfl, rfl, hdc, hds⟩ := hp397432
      change G _ _ _ _ _ _ _ (.int p397408 :: _) _ _ _
      refine G_widen (cs' := ((rPh γ el f - rPh γ0 el0 f) / 18)) (sl' := (rPh γ el f - rPh γ0 el0 f)) (rm_d0 hdc) (rm_d0 hds) ?_
      refine G_icmp_ge 178 dr_cX17_merge_7 (by decide +kernel) (fun hc397435 => ?_) (fun hc397435 => ?_)
      · have r397436 : p397408.toInt ≤ g397401.toInt := gC_le hc397435
        have ac397437 : (fI (F387616 q387617) 11).toInt = p387636.toInt := by rw [he387631]; rfl
        have ac397438 : (fI (F387616 q387617) 14).toInt = p387639.toInt := by rw [he387631]; rfl
        refine G_iconst 0 dr_cX17_merge_178 (by decide +kernel) ?_
        exact G_zretA FieldType.boolean dr_cX17_merge_179 rfl rfl (show ((rPh γ el f - rPh γ0 el0 f) / 18) ≤ (((387 * B + 6000) - rPh γ0 el0 f) / 18) by omega) (show (rPh γ el f - rPh γ0 el0 f) ≤ ((387 * B + 6000) - rPh γ0 el0 f) by omega) ⟨P387615, F387616, γ, el, 0, rfl, rfl, hst, ⟨by omega, by omega⟩, hB, (gB_w (gBl (show Int32.toInt 0 = 0 by decide)) (by decide) (by decide)), (by have qa0 : Int32.toInt 0 = 0 := (by decide); omega), (by have qa0 : Int32.toInt 0 = 0 := (by decide); omega), (by have qa0 : Int32.toInt 0 = 0 := (by decide); omega), (by have qa0 : Int32.toInt 0 = 0 := (by decide); omega), (Or.inl (by decide)), (fun N h => by rw [hγ0, hel0]; exact h), (by have qa0 : Int32.toInt 0 = 0 := (by decide); omega), (by have qa0 : Int32.toInt 0 = 0 := (by decide); omega), (fun _ => ⟨hγ0, hel0, rfl⟩), mKp_rf⟩
      · have r397439 : g397401.toInt < p397408.toInt := gC_nle hc397435
        have bg397401' : gB g397401 0 999999 := ⟨by omega, by omega⟩
        have bp397408' : gB p397408 1 1000000 := ⟨by omega, by omega⟩
        refine G_aload_n 2 dr_cX17_merge_10 rfl ?_
        refine G_iload_n 0 dr_cX17_merge_11 rfl ?_
        have hm397440 : q397405 ∈ P387615 := RS_m hT ht397409 (by decide)
        obtain ⟨⟨p397442, p397443, q397444, he397441, r397445, r397446, r397447, r397449⟩, r397448⟩ := show rk_4 D I γ el F387616 q397405 from RS_o hT ht397409
        have bp397442 := gB_any p397442
        have bp397443 : gB p397443 0 1000000 := ⟨by omega, by omega⟩
        obtain ⟨r397450, r397451, n397458, f397459, r397452, r397453, r397454, r397455, r397456, r397457⟩ := rLC_n r397447 (by omega)
        have hm397460 : q397444 ∈ P387615 := RS_m hT r397450 (by decide)
        obtain ⟨q397461, hx397462⟩ : ∃ x, x = el q397405 g397401.toInt.toNat := ⟨_, rfl⟩
        have hx397463 : f397459 g397401.toNatClampNeg = some q397461 := (r397456 _ (show g397401.toInt.toNat < γ 2 q397405 by first | assumption | omega)).trans (by rw [hx397462])
        have ht397466 : rKd γ q397461 2 := by rw [hx397462]; exact (r397420 _ (by omega)).resolve_right (fun z => absurd z.1 (by omega))
        have ht397467 : rFm γ q397461 q397405 := by rw [hx397462]; exact (r397448 _ (show g397401.toInt.toNat < γ 2 q397405 by omega)).2.1
        have hm397468 : q397461 ∈ P387615 := RS_m hT ht397466 (by decide)
        obtain ⟨q397470, q397471, p397472, p397473, he397469, ht397480, ht397474, ht397475, ht397476, ht397477, ht397478, bp397472, bp397473, r397479, r397481, r397482⟩ := show rk_2 γ q397461 (F387616 q397461) from RS_o hT ht397466
        refine Gw_callV (As := [.int g397401]) (gV_ok D I) (cp_7737_Code_get l hl0 D I P387615 F387616 q387618 q397405 q397444 g397401 q397406 p397407 p397408 p397442 p397443 f397459 n397458 q397461 q397470 q397471 p397472 p397473 hm397403 hm397440 hm397460 hm397468 he397404 he397441 r397452 he397469 (gB_w bg397401' (by decide) (by decide)) (gB_w bp397443 (by decide) (by decide)) (by omega) (by omega) (by assumption) (by omega)) dr_cX17_merge_12 ⟨wr_10_161, wr_1_15, wr_10_141, by decide, rfl, (Nat.le_of_ble_eq_true rfl), (Nat.le_of_ble_eq_true rfl)⟩ wr_10_139 wr_10_140 hm397403 he397404 rfl (rm_zc pk387622) (rm_zs pk387622) (Nat.le_of_ble_eq_true rfl) (fun r397486 w397487 dc397483 ds397484 hp397485 => ?_) (fun _ _ _ _ _ z => z.elim)
        obtain ⟨rfl, rfl, hdc, hds⟩ := hp397485
        change G _ _ _ _ _ _ _ (.ref q397461 :: _) _ _ _
        refine G_widen (cs' := ((rPh γ el f - rPh γ0 el0 f) / 18)) (sl' := (rPh γ el f - rPh γ0 el0 f)) (rm_d0 hdc) (rm_d0 hds) ?_
        have hf397488 : γ 1 q397461 = f := (show γ 1 q397461 = γ 1 q397405 from ht397467).trans ((show γ 1 q397405 = γ 1 q387618 from ht397410).trans hf1)
        have hf397489 : γ 1 q397470 = f := (show γ 1 q397470 = γ 1 q397461 from ht397475).trans hf397488
        have hf397490 : γ 1 q397471 = f := (show γ 1 q397471 = γ 1 q397461 from ht397477).trans hf397488
        have r397491 : γ 6 (γ 1 q397461) = γ 6 f := by rw [hf397488]
        have r397492 : γ 7 (γ 1 q397461) = γ 7 f := by rw [hf397488]
        have r397493 : γ 19 (γ 1 q397461) = γ 19 f := by rw [hf397488]
        have r397494 := r397479.resolve_left (by omega)
        clear r397479
        have r397495 : γ 2 (γ 14 q397461) = γ 2 q397470 := by rw [ht397480.1]
        have r397496 : g397401.toInt.toNat < γ 2 (γ 14 q387618) := by rw [ht397424.1]; omega
        have r397497 : el (γ 14 q387618) g397401.toInt.toNat = q397461 := by rw [ht397424.1, hx397462]
        refine G_astore (L' := [(4, .ref q397461), (3, .int g397401), (0, .ref q387617), (1, .ref q387618), (2, .int p387619)]) dr_cX17_merge_15 (Nat.le_of_ble_eq_true rfl) rfl ?_
        refine G_iconst 0 dr_cX17_merge_17 (by decide +kernel) ?_
        refine G_istore (L' := [(5, .int 0), (4, .ref q397461), (3, .int g397401), (0, .ref q387617), (1, .ref q387618), (2, .int p387619)]) dr_cX17_merge_18 (Nat.le_of_ble_eq_true rfl) rfl ?_
        have hlp20_397839 : ∀ (n20_397839 : Nat) (g397839 : Int32), gB g397839 0 1000000 → ((1000001 : Int) - g397839.toInt).toNat < n20_397839 → G (gV D I) l (gRm 5 111 (((387 * B + 6000) - rPh γ0 el0 f) / 18) ((387 * B + 6000) - rPh γ0 el0 f)) (gMA (gV D I) (pg_387621_SpillForgeModel_merge D I γ0 el0 f B P387615 F387616 q387617 q387618 p387619) gNA (((387 * B + 6000) - rPh γ0 el0 f) / 18) ((387 * B + 6000) - rPh γ0 el0 f)) ky_387621_SpillForgeModel_merge 20 [(5, .int g397839), (4, .ref q397461), (3, .int g397401), (0, .ref q387617), (1, .ref q387618), (2, .int p387619)] [] (va_pl P387615 F387616) ((rPh γ el f - rPh γ0 el0 f) / 18) (rPh γ el f - rPh γ0 el0 f) := by
          intro n20_397839
          induction n20_397839 with
          | zero => intro g397839 bg397839 hm20_397839; exact absurd hm20_397839 (Nat.not_lt_zero _)
          | succ n20_397839 ih20_397839 =>
            intro g397839 bg397839 hm20_397839
            refine G_iload 0 dr_cX17_merge_20 rfl ?_
            refine G_aload 1 dr_cX17_merge_22 rfl ?_
            refine Gp_get 0 hm397468 he397469 dr_cX17_merge_24 (gk_X12 D I) (Nat.le_of_ble_eq_true rfl) wr_9_220 rfl ?_
            have hm397841 : q397470 ∈ P387615 := RS_m hT ht397474 (by decide)
            obtain ⟨⟨p397843, p397844, q397845, he397842, r397846, r397847, r397848, r397850⟩, r397849⟩ := show rk_3 D I γ el F387616 q397470 from RS_o hT ht397474
            have bp397843 := gB_any p397843
            have bp397844 : gB p397844 0 1000000 := ⟨by omega, by omega⟩
            refine Gw_callV (As := []) (gV_ok D I) (cp_7_ArrayList_size l hl0 D I P387615 F387616 q397470 p397843 q397845 p397844 hm397841 he397842 (gB_w bp397844 (by decide) (by decide))) dr_cX17_merge_27 ⟨wr_10_200, wr_1_18, wr_9_160, by decide, rfl, (Nat.le_of_ble_eq_true rfl), (Nat.le_of_ble_eq_true rfl)⟩ wr_9_158 wr_9_159 hm397841 he397842 rfl (rm_zc pk387622) (rm_zs pk387622) (Nat.le_of_ble_eq_true rfl) (fun r397854 w397855 dc397851 ds397852 hp397853 => ?_) (fun _ _ _ _ _ z => z.elim)
            obtain ⟨rfl, rfl, hdc, hds⟩ := hp397853
            change G _ _ _ _ _ _ _ (.int p397844 :: _) _ _ _
            refine G_widen (cs' := ((rPh γ el f - rPh γ0 el0 f) / 18)) (sl' := (rPh γ el f - rPh γ0 el0 f)) (rm_d0 hdc) (rm_d0 hds) ?_
            refine G_icmp_ge 172 dr_cX17_merge_30 (by decide +kernel) (fun hc397856 => ?_) (fun hc397856 => ?_)
            · have r397857 : p397844.toInt ≤ g397839.toInt := gC_le hc397856
              obtain ⟨z397858, hz397858⟩ : ∃ z : Int32, z = g397401 + Int32.ofInt 1 := ⟨_, rfl⟩
              have ez397858 : z397858.toInt = g397401.toInt + 1 := gI_inc hz397858 (by decide) bg397401' (by decide) (by decide)
              have bz397858 : gB z397858 1 1000000 := ⟨by omega, by omega⟩
              refine G_iinc (L' := [(3, .int z397858), (5, .int g397839), (4, .ref q397461), (0, .ref q387617), (1, .ref q387618), (2, .int p387619)]) z397858 2 dr_cX17_merge_172 rfl hz397858.symm (Nat.le_of_ble_eq_true rfl) rfl ?_
              refine G_goto 2 dr_cX17_merge_175 (by decide +kernel) ?_
              refine G_lv (L' := [(3, .int z397858), (0, .ref q387617), (1, .ref q387618), (2, .int p387619)]) [0, 3, 4, 5] rfl ?_
              exact ih2_397401 z397858 (gB_w bz397858 (by decide) (by decide)) (by omega)
            · have r397859 : g397839.toInt < p397844.toInt := gC_nle hc397856
              have bg397839' : gB g397839 0 999999 := ⟨by omega, by omega⟩
              have bp397844' : gB p397844 1 1000000 := ⟨by omega, by omega⟩
              refine G_aload 1 dr_cX17_merge_33 rfl ?_
              refine Gp_get 0 hm397468 he397469 dr_cX17_merge_35 (gk_X12 D I) (Nat.le_of_ble_eq_true rfl) wr_9_220 rfl ?_
              refine G_iload 0 dr_cX17_merge_38 rfl ?_
              obtain ⟨r397860, r397861, n397868, f397869, r397862, r397863, r397864, r397865, r397866, r397867⟩ := rLC_n r397848 (by omega)
              have hm397870 : q397845 ∈ P387615 := RS_m hT r397860 (by decide)
              obtain ⟨q397871, hx397872⟩ : ∃ x, x = el q397470 g397839.toInt.toNat := ⟨_, rfl⟩
              have hx397873 : f397869 g397839.toNatClampNeg = some q397871 := (r397866 _ (show g397839.toInt.toNat < γ 2 q397470 by first | assumption | omega)).trans (by rw [hx397872])
              have ht397874 : rKd γ q397871 1 := by rw [hx397872]; exact (r397849 _ (show g397839.toInt.toNat < γ 2 q397470 by first | assumption | omega)).1
              have ht397875 : rFm γ q397871 q397470 := by rw [hx397872]; exact (r397849 _ (show g397839.toInt.toNat < γ 2 q397470 by first | assumption | omega)).2.1
              have hf397876 : γ 1 q397871 = f := (show γ 1 q397871 = γ 1 q397470 from ht397875).trans hf397489
              refine Gw_callV (As := [.int g397839]) (gV_ok D I) (cp_22_ArrayList_get l hl0 D I P387615 F387616 q397470 q397845 g397839 p397843 p397844 f397869 n397868 q397871 hm397841 hm397870 he397842 r397862 (gB_w bg397839' (by decide) (by decide)) (gB_w bp397844' (by decide) (by decide)) (by omega) (by omega) (by assumption) (by omega)) dr_cX17_merge_40 ⟨wr_10_201, wr_1_18, wr_10_65, by decide, rfl, (Nat.le_of_ble_eq_true rfl), (Nat.le_of_ble_eq_true rfl)⟩ wr_10_63 wr_10_64 hm397841 he397842 rfl (rm_zc pk387622) (rm_zs pk387622) (Nat.le_of_ble_eq_true rfl) (fun r397880 w397881 dc397877 ds397878 hp397879 => ?_) (fun _ _ _ _ _ z => z.elim)
              obtain ⟨rfl, rfl, hdc, hds⟩ := hp397879
              change G _ _ _ _ _ _ _ (.ref q397871 :: _) _ _ _
              refine G_widen (cs' := ((rPh γ el f - rPh γ0 el0 f) / 18)) (sl' := (rPh γ el f - rPh γ0 el0 f)) (rm_d0 hdc) (rm_d0 hds) ?_
              have hm397882 : q397871 ∈ P387615 := RS_m hT ht397874 (by decide)
              obtain ⟨p397884, p397885, p397886, p397887, p397888, p397889, p397890, he397883, bp397884, bp397885, bp397888, bp397889, bp397890, r397891, r397892, r397893, r397894, r397895⟩ := show rk_1 γ q397871 (F387616 q397871) from RS_o hT ht397874
              have bp397886 := gB_any p397886
              have bp397887 := gB_any p397887
              have r397896 : γ 7 (γ 1 q397871) = γ 7 f := by rw [hf397876]
              refine Gp_cast hm397882 he397883 rfl dr_cX17_merge_43 wr_10_202 (gr_cast 1 rfl) ?_
              refine G_astore (L' := [(6, .ref q397871), (5, .int g397839), (4, .ref q397461), (3, .int g397401), (0, .ref q387617), (1, .ref q387618), (2, .int p387619)]) dr_cX17_merge_46 (Nat.le_of_ble_eq_true rfl) rfl ?_
              refine G_aload 0 dr_cX17_merge_48 rfl ?_
              refine Gp_get 0 hm397882 he397883 dr_cX17_merge_50 (gk_X15 D I) (Nat.le_of_ble_eq_true rfl) wr_9_177 rfl ?_
              refine G_if_ne 166 dr_cX17_merge_53 (by decide +kernel) (fun hc397897 => ?_) (fun hc397897 => ?_)
              · have r397898 : p397884.toInt ≠ 0 := gj_neq hc397897 (show Int32.toInt 0 = 0 by decide)
                have bp397884' : gB p397884 1 32 := ⟨by omega, by omega⟩
                obtain ⟨z397899, hz397899⟩ : ∃ z : Int32, z = g397839 + Int32.ofInt 1 := ⟨_, rfl⟩
                have ez397899 : z397899.toInt = g397839.toInt + 1 := gI_inc hz397899 (by decide) bg397839' (by decide) (by decide)
                have bz397899 : gB z397899 1 1000000 := ⟨by omega, by omega⟩
                refine G_iinc (L' := [(5, .int z397899), (6, .ref q397871), (4, .ref q397461), (3, .int g397401), (0, .ref q387617), (1, .ref q387618), (2, .int p387619)]) z397899 1 dr_cX17_merge_166 rfl hz397899.symm (Nat.le_of_ble_eq_true rfl) rfl ?_
                refine G_goto 20 dr_cX17_merge_169 (by decide +kernel) ?_
                refine G_lv (L' := [(5, .int z397899), (4, .ref q397461), (3, .int g397401), (0, .ref q387617), (1, .ref q387618), (2, .int p387619)]) [0, 2, 3, 4, 5, 6] rfl ?_
                exact ih20_397839 z397899 (gB_w bz397899 (by decide) (by decide)) (by omega)
              · have r397900 : p397884.toInt = 0 := gj_eq hc397897 (show Int32.toInt 0 = 0 by decide)
                have bp397884' : gB p397884 0 0 := ⟨by omega, by omega⟩
                refine G_aload 0 dr_cX17_merge_56 rfl ?_
                refine Gp_get 5 hm397882 he397883 dr_cX17_merge_58 (gk_X15 D I) (Nat.le_of_ble_eq_true rfl) wr_9_197 rfl ?_
                refine G_if_eq 166 dr_cX17_merge_61 (by decide +kernel) (fun hc397901 => ?_) (fun hc397901 => ?_)
                · have r397902 : p397889.toInt = 0 := gj_eq hc397901 (show Int32.toInt 0 = 0 by decide)
                  have bp397889' : gB p397889 0 0 := ⟨by omega, by omega⟩
                  obtain ⟨z397903, hz397903⟩ : ∃ z : Int32, z = g397839 + Int32.ofInt 1 := ⟨_, rfl⟩
                  have ez397903 : z397903.toInt = g397839.toInt + 1 := gI_inc hz397903 (by decide) bg397839' (by decide) (by decide)
                  have bz397903 : gB z397903 1 1000000 := ⟨by omega, by omega⟩
                  refine G_iinc (L' := [(5, .int z397903), (6, .ref q397871), (4, .ref q397461), (3, .int g397401), (0, .ref q387617), (1, .ref q387618), (2, .int p387619)]) z397903 1 dr_cX17_merge_166 rfl hz397903.symm (Nat.le_of_ble_eq_true rfl) rfl ?_
                  refine G_goto 20 dr_cX17_merge_169 (by decide +kernel) ?_
                  refine G_lv (L' := [(5, .int z397903), (4, .ref q397461), (3, .int g397401), (0, .ref q387617), (1, .ref q387618), (2, .int p387619)]) [0, 2, 3, 4, 5, 6] rfl ?_
                  exact ih20_397839 z397903 (gB_w bz397903 (by decide) (by decide)) (by omega)
                · have r397904 : p397889.toInt ≠ 0 := gj_neq hc397901 (show Int32.toInt 0 = 0 by decide)
                  have bp397889' : gB p397889 1 1 := ⟨by omega, by omega⟩
                  refine G_aload 0 dr_cX17_merge_64 rfl ?_
                  refine Gp_get 1 hm397882 he397883 dr_cX17_merge_66 (gk_X15 D I) (Nat.le_of_ble_eq_true rfl) wr_9_182 rfl ?_
                  refine G_aload 0 dr_cX17_merge_69 rfl ?_
                  refine Gp_get 2 hm397882 he397883 dr_cX17_merge_71 (gk_X15 D I) (Nat.le_of_ble_eq_true rfl) wr_9_186 rfl ?_
                  refine G_icmp_eq 98 dr_cX17_merge_74 (by decide +kernel) (fun hc397905 => ?_) (fun hc397905 => ?_)
                  · have r397906 : p397885.toInt = p397886.toInt := gC_eq hc397905
                    have bp397886' : gB p397886 0 1999 := ⟨by omega, by omega⟩
                    refine G_aload 0 dr_cX17_merge_98 rfl ?_
                    refine Gp_get 1 hm397882 he397883 dr_cX17_merge_100 (gk_X15 D I) (Nat.le_of_ble_eq_true rfl) wr_9_182 rfl ?_
                    refine G_aload 0 dr_cX17_merge_103 rfl ?_
                    refine Gp_get 2 hm397882 he397883 dr_cX17_merge_105 (gk_X15 D I) (Nat.le_of_ble_eq_true rfl) wr_9_186 rfl ?_
                    refine G_mmin dr_cX17_merge_108 wr_11_20 wr_3_227 wr_1_6 wr_3_228 (Nat.le_of_ble_eq_true rfl) (Nat.le_of_ble_eq_true rfl) (show ((rPh γ el f - rPh γ0 el0 f) / 18) ≤ (((387 * B + 6000) - rPh γ0 el0 f) / 18) by first | omega | decide) (show (rPh γ el f - rPh γ0 el0 f) ≤ ((387 * B + 6000) - rPh γ0 el0 f) by first | omega | decide) (G_nam fun z397907 hz397907 => ?_)
                    have ez397907 : p397885.toInt ≥ z397907.toInt ∧ p397886.toInt ≥ z397907.toInt ∧ (z397907.toInt = p397885.toInt ∨ z397907.toInt = p397886.toInt) := by have := gI_min hz397907; omega
                    have bz397907 : gB z397907 0 1999 := ⟨by omega, by omega⟩
                    refine G_istore (L' := [(7, .int z397907), (6, .ref q397871), (5, .int g397839), (4, .ref q397461), (3, .int g397401), (0, .ref q387617), (1, .ref q387618), (2, .int p387619)]) dr_cX17_merge_111 (Nat.le_of_ble_eq_true rfl) rfl ?_
                    refine G_aload 1 dr_cX17_merge_113 rfl ?_
                    refine Gp_get 1 hm397882 he397883 dr_cX17_merge_115 (gk_X15 D I) (Nat.le_of_ble_eq_true rfl) wr_9_182 rfl ?_
                    refine G_aload 1 dr_cX17_merge_118 rfl ?_
                    refine Gp_get 2 hm397882 he397883 dr_cX17_merge_120 (gk_X15 D I) (Nat.le_of_ble_eq_true rfl) wr_9_186 rfl ?_
                    refine G_mmax dr_cX17_merge_123 wr_11_21 wr_1_140 wr_1_6 wr_1_141 (Nat.le_of_ble_eq_true rfl) (Nat.le_of_ble_eq_true rfl) (show ((rPh γ el f - rPh γ0 el0 f) / 18) ≤ (((387 * B + 6000) - rPh γ0 el0 f) / 18) by first | omega | decide) (show (rPh γ el f - rPh γ0 el0 f) ≤ ((387 * B + 6000) - rPh γ0 el0 f) by first | omega | decide) (G_nam fun z397908 hz397908 => ?_)
                    have ez397908 : p397885.toInt ≤ z397908.toInt ∧ p397886.toInt ≤ z397908.toInt ∧ (z397908.toInt = p397885.toInt ∨ z397908.toInt = p397886.toInt) := by have := gI_max hz397908; omega
                    have bz397908 : gB z397908 0 1999 := ⟨by omega, by omega⟩
                    refine G_istore (L' := [(8, .int z397908), (7, .int z397907), (6, .ref q397871), (5, .int g397839), (4, .ref q397461), (3, .int g397401), (0, .ref q387617), (1, .ref q387618), (2, .int p387619)]) dr_cX17_merge_126 (Nat.le_of_ble_eq_true rfl) rfl ?_
                    refine G_aload 4 dr_cX17_merge_128 rfl ?_
                    refine Gp_get 0 hm397468 he397469 dr_cX17_merge_130 (gk_X12 D I) (Nat.le_of_ble_eq_true rfl) wr_9_220 rfl ?_
                    refine G_iload 3 dr_cX17_merge_133 rfl ?_
                    have rg397909 := rM_ge hT htq387618 hf1
                    have rm397910 := rM_bd hB
                    have bd397911 := rBd_c hT htq387618 hf1 hB
                    have rc397912 := rc_at hT htq387618 hf1
                    have r397914 : γ 14 (el (γ 14 q387618) g397401.toInt.toNat) = q397470 := by rw [r397497]; exact ht397480.1
                    have r397915 := rg397909.2.2 _ r397496
                    rw [r397914] at r397915
                    have r397916 := bd397911.2.2.2 _ r397496
                    rw [r397914] at r397916
                    obtain ⟨q397918, hq397918⟩ : ∃ x, x = el q397470 g397839.toInt.toNat := ⟨_, rfl⟩
                    refine Gt_rem (c := q387618) (f := f) hl0 dr_cX17_merge_135 ⟨wr_11_22, wr_1_18, wr_11_25, by decide, rfl, (Nat.le_of_ble_eq_true rfl), (Nat.le_of_ble_eq_true rfl)⟩ wr_11_23 wr_11_24 hT ht397474 hf397489 htq387618 hf1 (by omega) (by omega) (rm_zc pk387622) (rm_zs pk387622) (Nat.le_of_ble_eq_true rfl) (fun F397913 γ el hq397917 => ?_)
                    rw [← hq397918]
                    have vv397930 := RS_valid hT0 hzq387618 hf0 x387620
                    rw [← hγ0] at vv397930
                    have sm397929 := rDq_sum (m := γ0 6 f) hT htq387618 hf1 (show g397401.toInt.toNat < γ0 6 f by omega) (by omega) r397914 (show g397839.toInt.toNat < _ by omega) hq397917
                    rw [hγ0, hel0] at sm397929
                    have dn397931 := fun (N : Nat → Prop) hN => rPl_dx (N := N) hT htq387618 hf1 hq397917 r397914 (show g397401.toInt.toNat < _ by omega) (show g397839.toInt.toNat < _ by omega) hN
                    rw [hγ0, hel0] at dn397931
                    have nm397932 := fun (N : Nat → Prop) hN => rPl_nm (N := N) (f := f) (j := g397839.toInt.toNat) hN (show g397401.toInt.toNat < _ by omega) r397914 (show g397839.toInt.toNat < _ by omega) hx397872.symm he397883 (by omega) (by omega)
                    rw [hγ0, hel0] at nm397932
                    obtain ⟨hk397919, h2397920, hel397921, hot397922, h16397923, h18397924, hnu397925, hr397926, hM397927, hBB397928⟩ := hq397917
                    have hk397933 := rSk_of hk397919
                    have r397934 : (fI (F397913 q387618) 3).toInt = (fI (F387616 q387618) 3).toInt := by rw [rSk_F hk397933 htq387618 (by decide) (by decide)]
                    have hT397935 := hk397933.1
                    have hs397936 := rSk_tr hst hk397933 (by decide) (by decide) (by decide)
                    have kp397937 : F397913 q387617 = F387616 q387617 := rSk_F hk397933 htq387617 (by decide) (by decide)
                    have r397938 := rSk_F hk397933 htq387617 (by decide) (by decide)
                    have ht397939 : rKd γ q387617 10 := rSk_k hk397933 htq387617 (by decide) (by decide)
                    have ht397940 : rKd γ q387618 9 := rSk_k hk397933 htq387618 (by decide) (by decide)
                    have hf397941 : γ 1 q387618 = f := rSk_1 hk397933 htq387618 (by decide) hf1
                    have ht397942 : rKd γ q397461 2 := rSk_k hk397933 ht397466 (by decide) (by decide)
                    have hf397943 : γ 1 q397461 = f := rSk_1 hk397933 ht397466 (by decide) hf397488
                    have ht397944 : rKd γ q397470 3 := rSk_k hk397933 ht397474 (by decide) (by decide)
                    have hf397945 : γ 1 q397470 = f := rSk_1 hk397933 ht397474 (by decide) hf397489
                    have ht397946 : rKd γ q397871 1 := rSk_k hk397933 ht397874 (by decide) (by decide)
                    have hf397947 : γ 1 q397871 = f := rSk_1 hk397933 ht397874 (by decide) hf397876
                    have mk397948 : mKp (F387616 q387617) (F397913 q387617) := mKp_tr mKp_rf (mKp_eq (rSk_F hk397933 htq387617 (by decide) (by decide)))
                    have r397949 := (rSk_s hk397933 htq387618 (by decide)).2.1
                    have r397950 := hot397922 _ (by rw [rc397912.2.1]; decide) (fun q => by rw [q, show _ = 3 from ht397474] at rc397912; exact absurd rc397912.2.1 (by decide))
                    have r397951 : g397401.toInt.toNat < γ 2 (γ 14 q387618) := by rw [r397949, r397950.1]; exact r397496
                    have r397952 : el (γ 14 q387618) g397401.toInt.toNat = q397461 := by rw [r397949, r397950.2]; exact r397497
                    have he397953 : F397913 q397871 = .inr (20, [.int p397884, .int p397885, .int p397886, .int p397887, .int p397888, .int p397889, .int p397890]) := (rSk_F hk397933 ht397874 (by decide) (by decide)).trans he397883
                    have hm397954 : q397871 ∈ P387615 := RS_m hT397935 ht397946 (by decide)
                    clear r397413 r397414 r397415 r397416 r397417 r397418 r397420 r397421 r397422 r397423 bp397407 bp397408 bp397472 bp397473 r397481 r397482 rg397909 rm397910 bd397911 rc397912 r397915 r397916
                    have hm397955 : q387617 ∈ P387615 := RS_m hT397935 ht397939 (by decide)
                    obtain ⟨q397957, q397958, p397959, p397960, p397961, p397962, p397963, p397964, p397965, p397966, p397967, p397968, p397969, p397970, p397971, p397972, p397973, he397956, hB398000, ht397974, ht397975, ht397976, ht397977, ht397978, ht397979, ht397980, ht397981, ht397982, ht397983, ht397984, ht397985, ht397986, ht397987, ht397988, ht397989, ht397990, ht397991, ht397992, ht397993, ht397994, ht397995, ht397996, ht397997, hB398001⟩ := show rk_10 γ (F397913 q387617) from RS_o hT397935 ht397939
                    have r398002 : p397961.toInt = p387636.toInt := by have z : p397961 = p387636 := congrArg (fun e => fI e 11) (he397956.symm.trans (r397938.trans he387631)); rw [z]
                    have bp397961 : gB p397961 0 100 := (hB398000.2.2.1)
                    have r398003 : p397964.toInt = p387639.toInt := by have z : p397964 = p387639 := congrArg (fun e => fI e 14) (he397956.symm.trans (r397938.trans he387631)); rw [z]
                    have bp397964 : gB p397964 0 2000 := (hB398000.2.2.2.1)
                    obtain ⟨nu398004, nu398005, nu398006, nu398007⟩ := hnu397925
                    have hB398008 : rBd γ el f B := hBB397928 B hB
                    have hph398009 : rPh γ0 el0 f ≤ rPh γ el f := by rw [hr397926]; exact hph
                    have pk398010 : rPh γ el f ≤ 387 * B + 6000 := rm_pk (rM_ge hT397935 ht397940 hf397941).1 (rM_bd hB398008)
                    refine G_widen (cs' := ((rPh γ el f - rPh γ0 el0 f) / 18)) (sl' := (rPh γ el f - rPh γ0 el0 f)) (rm_ec hr397926) (rm_es hr397926) ?_
                    refine G_pop dr_cX17_merge_138 rfl ?_
                    refine G_aload_n 6 dr_cX17_merge_139 rfl ?_
                    refine G_dup dr_cX17_merge_140 rfl ?_
                    refine Gp_get 13 hm397955 he397956 dr_cX17_merge_141 (gk_X17 D I) (Nat.le_of_ble_eq_true rfl) wr_7_87 rfl ?_
                    have bp397963 : gB p397963 (-2147483648) 2147483647 := (gB_any p397963)
                    refine G_iconst 1 dr_cX17_merge_144 (by decide +kernel) ?_
                    refine G_iadd dr_cX17_merge_145 (G_nam fun z398011 hz398011 => ?_)
                    have bz398011 : gB z398011 (-2147483648) 2147483647 := gB_any z398011
                    refine Gp_put 13 hm397955 he397956 dr_cX17_merge_146 (gk_X17 D I) (Nat.le_of_ble_eq_true rfl) wr_7_87 rfl rfl rfl (Nat.le_of_ble_eq_true rfl) (fun F398012 e398013 n398014 => ?_)
                    have he398015 : F398012 q397871 = .inr (20, [.int p397884, .int p397885, .int p397886, .int p397887, .int p397888, .int p397889, .int p397890]) := (n398014 q397871 (rn_oo he397953 he397956 (by decide))).trans he397953
                    have he398016 : F398012 q387617 = .inr (22, [.ref (γ 9 0), .ref (γ 9 1), .ref (γ 9 2), .ref (γ 9 3), .ref (γ 9 4), .ref (γ 9 5), .ref (γ 9 6), .ref (γ 9 7), .ref (γ 9 8), .int p397959, .int p397960, .int p397961, .int p397962, .int z398011, .int p397964, .ref (γ 9 15), .ref (γ 9 16), .ref (γ 9 17), .ref (γ 9 18), .ref (γ 9 19), .ref (γ 9 20), .ref (γ 9 21), .ref (γ 9 22), .int p397965, .int p397966, .int p397967, .int p397968, .int p397969, .ref q397957, .ref (γ 9 29), .int p397970, .ref (γ 9 31), .int p397971, .int p397972, .int p397973, .ref q397958]) := e398013
                    have mk398017 : mKp (F387616 q387617) (F398012 q387617) := mKp_tr mk397948 (by rw [he397956, he398016]; exact ⟨rfl, rfl⟩)
                    have hT398018 : RS D I P387615 F398012 γ el := RS_set hT397935 n398014 ht397939 (by decide) ⟨q397957, q397958, p397959, p397960, p397961, p397962, z398011, p397964, p397965, p397966, p397967, p397968, p397969, p397970, p397971, p397972, p397973, he398016, ⟨(hB398000.1), (hB398000.2.1), bp397961, bp397964, (hB398000.2.2.2.2.1), (hB398000.2.2.2.2.2.1), (hB398000.2.2.2.2.2.2.1), (hB398000.2.2.2.2.2.2.2.1), (hB398000.2.2.2.2.2.2.2.2)⟩, ht397974, ht397975, ht397976, ht397977, ht397978, ht397979, ht397980, ht397981, ht397982, ht397983, ht397984, ht397985, ht397986, ht397987, ht397988, ht397989, ht397990, ht397991, ht397992, ht397993, ht397994, ht397995, ht397996, ht397997, hB398001⟩
                    have hs398019 := rSk_put hs397936 hT398018 n398014 ht397939 (by decide) (by decide)
                    have dn398020 : ∀ N : Nat → Prop, rPl γ0 el0 F387616 q387618 (γ0 6 f) (fun _ _ => rNx N) → rPl γ el F398012 q387618 (γ 6 f) (fun _ _ => rNx N) := fun N hN => rPl_fr hT397935 ht397940 hf397941 (dn397931 N hN) (fun b hb _ => n398014 b (rn_ty (show rKd γ b 1 from hb) ht397939 (by decide)))
                    refine G_iload 1 dr_cX17_merge_149 rfl ?_
                    refine G_iload 0 dr_cX17_merge_151 rfl ?_
                    refine G_icmp_eq 164 dr_cX17_merge_153 (by decide +kernel) (fun hc398021 => ?_) (fun hc398021 => ?_)
                    · have r398022 : z397907.toInt = z397908.toInt := gC_eq hc398021
                      have ac398023 : (fI (F398012 q387617) 11).toInt = p397961.toInt := by rw [he398016]; rfl
                      have ac398024 : (fI (F398012 q387617) 14).toInt = p397964.toInt := by rw [he398016]; rfl
                      refine G_iconst 1 dr_cX17_merge_164 (by decide +kernel) ?_
                      exact G_zretA FieldType.boolean dr_cX17_merge_165 rfl rfl (show ((rPh γ el f - rPh γ0 el0 f) / 18) ≤ (((387 * B + 6000) - rPh γ0 el0 f) / 18) by omega) (show (rPh γ el f - rPh γ0 el0 f) ≤ ((387 * B + 6000) - rPh γ0 el0 f) by omega) ⟨P387615, F398012, γ, el, 1, rfl, rfl, hs398019, ⟨by omega, by omega⟩, hB398008, (gB_w (gBl (show Int32.toInt 1 = 1 by decide)) (by decide) (by decide)), (by have qa0 : Int32.toInt 1 = 1 := (by decide); omega), (by have qa0 : Int32.toInt 1 = 1 := (by decide); omega), (by have qa0 : Int32.toInt 1 = 1 := (by decide); omega), (by have qa0 : Int32.toInt 1 = 1 := (by decide); omega), (Or.inr (by rw [show γ 6 f = γ0 6 f by omega]; exact Nat.le_of_eq sm397929)), dn398020, (by have qa0 : Int32.toInt 1 = 1 := (by decide); omega), (by have qa0 : Int32.toInt 1 = 1 := (by decide); omega), (fun h => absurd h (by decide)), mk398017⟩
                    · have r398025 : z397907.toInt ≠ z397908.toInt := gC_ne hc398021
                      refine G_aload_n 7 dr_cX17_merge_156 rfl ?_
                      refine G_iload 0 dr_cX17_merge_157 rfl ?_
                      refine G_iload 1 dr_cX17_merge_159 rfl ?_
                      have v0_398026 : 0 < γ 6 (γ 1 q387618) := by rw [hf397941]; omega
                      refine Gw_callS (As := [.ref q387618, .int z397908, .int z397907]) (gV_ok D I) (ct_360372_SpillForgeModel_rename l hl0 D I γ el P387615 F398012 q387618 z397908 z397907 hT398018 ht397940 bz397908 bz397907 (by omega)) dr_cX17_merge_161 ⟨wr_11_30, wr_1_14, wr_11_32, by decide, rfl, (Nat.le_of_ble_eq_true rfl), (Nat.le_of_ble_eq_true rfl)⟩ wr_11_31 (rm_zc pk398010) (rm_zs pk398010) (Nat.le_of_ble_eq_true rfl) (fun r398030 w398031 dc398027 ds398028 hp398029 => ?_) (fun _ _ _ _ _ z => z.elim)
                      obtain ⟨F398034, rfl, rfl, hT398035, hs398036, hdc, hds, x398032, x398033⟩ := hp398029
                      have hs398037 := rSk_str hs398019 hT398035 hs398036 (by decide) (by decide) (by decide)
                      have kp398038 : F398034 q387617 = F398012 q387617 := x398033 q387617 (rT0 ht397939 (by decide)) (rT2 ht397939 (by decide))
                      have mk398039 : mKp (F387616 q387617) (F398034 q387617) := mKp_tr mk398017 (mKp_eq (x398033 q387617 (rT0 ht397939 (by decide)) (rT2 ht397939 (by decide))))
                      have he398040 : F398034 q387617 = .inr (22, [.ref (γ 9 0), .ref (γ 9 1), .ref (γ 9 2), .ref (γ 9 3), .ref (γ 9 4), .ref (γ 9 5), .ref (γ 9 6), .ref (γ 9 7), .ref (γ 9 8), .int p397959, .int p397960, .int p397961, .int p397962, .int z398011, .int p397964, .ref (γ 9 15), .ref (γ 9 16), .ref (γ 9 17), .ref (γ 9 18), .ref (γ 9 19), .ref (γ 9 20), .ref (γ 9 21), .ref (γ 9 22), .int p397965, .int p397966, .int p397967, .int p397968, .int p397969, .ref q397957, .ref (γ 9 29), .int p397970, .ref (γ 9 31), .int p397971, .int p397972, .int p397973, .ref q397958]) := (x398033 q387617 (rT0 ht397939 (by decide)) (rT2 ht397939 (by decide))).trans he398016
                      change G _ _ _ _ _ _ _ _ _ _ _
                      refine G_widen (cs' := ((rPh γ el f - rPh γ0 el0 f) / 18)) (sl' := (rPh γ el f - rPh γ0 el0 f)) (rm_d0 hdc) (rm_d0 hds) ?_
                      have dn398041 : ∀ N : Nat → Prop, rPl γ0 el0 F387616 q387618 (γ0 6 f) (fun _ _ => rNx N) → rPl γ el F398034 q387618 (γ 6 f) (fun _ _ => rNx N) := fun N hN => by have z := x398032 N ((show z397907.toInt = p397885.toInt ∨ z397907.toInt = p397886.toInt by omega).elim (fun e => by rw [e]; exact (nm397932 N hN).1) (fun e => by rw [e]; exact (nm397932 N hN).2)) (by omega); rw [hf397941] at z; exact z (dn398020 N hN)
                      have ac398042 : (fI (F398034 q387617) 11).toInt = p397961.toInt := by rw [he398040]; rfl
                      have ac398043 : (fI (F398034 q387617) 14).toInt = p397964.toInt := by rw [he398040]; rfl
                      refine G_iconst 1 dr_cX17_merge_164 (by decide +kernel) ?_
                      exact G_zretA FieldType.boolean dr_cX17_merge_165 rfl rfl (show ((rPh γ el f - rPh γ0 el0 f) / 18) ≤ (((387 * B + 6000) - rPh γ0 el0 f) / 18) by omega) (show (rPh γ el f - rPh γ0 el0 f) ≤ ((387 * B + 6000) - rPh γ0 el0 f) by omega) ⟨P387615, F398034, γ, el, 1, rfl, rfl, hs398037, ⟨by omega, by omega⟩, hB398008, (gB_w (gBl (show Int32.toInt 1 = 1 by decide)) (by decide) (by decide)), (by have qa0 : Int32.toInt 1 = 1 := (by decide); omega), (by have qa0 : Int32.toInt 1 = 1 := (by decide); omega), (by have qa0 : Int32.toInt 1 = 1 := (by decide); omega), (by have qa0 : Int32.toInt 1 = 1 := (by decide); omega), (Or.inr (by rw [show γ 6 f = γ0 6 f by omega]; exact Nat.le_of_eq sm397929)), dn398041, (by have qa0 : Int32.toInt 1 = 1 := (by decide); omega), (by have qa0 : Int32.toInt 1 = 1 := (by decide); omega), (fun h => absurd h (by decide)), mk398039⟩
                  · have r398044 : p397885.toInt ≠ p397886.toInt := gC_ne hc397905
                    refine G_aload_n 4 dr_cX17_merge_77 rfl ?_
                    refine G_aload 0 dr_cX17_merge_78 rfl ?_
                    refine Gp_get 1 hm397882 he397883 dr_cX17_merge_80 (gk_X15 D I) (Nat.le_of_ble_eq_true rfl) wr_9_182 rfl ?_
                    refine G_aload 0 dr_cX17_merge_83 rfl ?_
                    refine Gp_get 2 hm397882 he397883 dr_cX17_merge_85 (gk_X15 D I) (Nat.le_of_ble_eq_true rfl) wr_9_186 rfl ?_
                    refine G_iload_n 6 dr_cX17_merge_88 rfl ?_
                    refine Gw_callV (As := [.int p397885, .int p397886, .int p387619]) (gV_ok D I) (ct_385748_SpillForgeModel_mayMerge l hl0 D I γ el P387615 F387616 q387617 p397885 p397886 p387619 hT htq387617 bp397885 ⟨by omega, by omega⟩) dr_cX17_merge_89 ⟨wr_11_12, wr_1_14, wr_11_15, by decide, rfl, (Nat.le_of_ble_eq_true rfl), (Nat.le_of_ble_eq_true rfl)⟩ wr_11_14 wr_p_102 hm387630 he387631 rfl (rm_zc pk387622) (rm_zs pk387622) (Nat.le_of_ble_eq_true rfl) (fun r398048 w398049 dc398045 ds398046 hp398047 => ?_) (fun _ _ _ _ _ z => z.elim)
                    obtain ⟨o398050, rfl, rfl, hdc, hds, bo398050, x398051⟩ := hp398047
                    change G _ _ _ _ _ _ _ (.int o398050 :: _) _ _ _
                    refine G_widen (cs' := ((rPh γ el f - rPh γ0 el0 f) / 18)) (sl' := (rPh γ el f - rPh γ0 el0 f)) (rm_d0 hdc) (rm_d0 hds) ?_
                    refine G_if_ne 98 dr_cX17_merge_92 (by decide +kernel) (fun hc398052 => ?_) (fun hc398052 => ?_)
                    · have r398053 : o398050.toInt ≠ 0 := gj_neq hc398052 (show Int32.toInt 0 = 0 by decide)
                      have bo398050' : gB o398050 1 1 := ⟨by omega, by omega⟩
                      have bp397886' : gB p397886 0 1999 := ⟨by omega, by omega⟩
                      refine G_aload 0 dr_cX17_merge_98 rfl ?_
                      refine Gp_get 1 hm397882 he397883 dr_cX17_merge_100 (gk_X15 D I) (Nat.le_of_ble_eq_true rfl) wr_9_182 rfl ?_
                      refine G_aload 0 dr_cX17_merge_103 rfl ?_
                      refine Gp_get 2 hm397882 he397883 dr_cX17_merge_105 (gk_X15 D I) (Nat.le_of_ble_eq_true rfl) wr_9_186 rfl ?_
                      refine G_mmin dr_cX17_merge_108 wr_11_20 wr_3_227 wr_1_6 wr_3_228 (Nat.le_of_ble_eq_true rfl) (Nat.le_of_ble_eq_true rfl) (show ((rPh γ el f - rPh γ0 el0 f) / 18) ≤ (((387 * B + 6000) - rPh γ0 el0 f) / 18) by first | omega | decide) (show (rPh γ el f - rPh γ0 el0 f) ≤ ((387 * B + 6000) - rPh γ0 el0 f) by first | omega | decide) (G_nam fun z398054 hz398054 => ?_)
                      have ez398054 : p397885.toInt ≥ z398054.toInt ∧ p397886.toInt ≥ z398054.toInt ∧ (z398054.toInt = p397885.toInt ∨ z398054.toInt = p397886.toInt) := by have := gI_min hz398054; omega
                      have bz398054 : gB z398054 0 1999 := ⟨by omega, by omega⟩
                      refine G_istore (L' := [(7, .int z398054), (6, .ref q397871), (5, .int g397839), (4, .ref q397461), (3, .int g397401), (0, .ref q387617), (1, .ref q387618), (2, .int p387619)]) dr_cX17_merge_111 (Nat.le_of_ble_eq_true rfl) rfl ?_
                      refine G_aload 1 dr_cX17_merge_113 rfl ?_
                      refine Gp_get 1 hm397882 he397883 dr_cX17_merge_115 (gk_X15 D I) (Nat.le_of_ble_eq_true rfl) wr_9_182 rfl ?_
                      refine G_aload 1 dr_cX17_merge_118 rfl ?_
                      refine Gp_get 2 hm397882 he397883 dr_cX17_merge_120 (gk_X15 D I) (Nat.le_of_ble_eq_true rfl) wr_9_186 rfl ?_
                      refine G_mmax dr_cX17_merge_123 wr_11_21 wr_1_140 wr_1_6 wr_1_141 (Nat.le_of_ble_eq_true rfl) (Nat.le_of_ble_eq_true rfl) (show ((rPh γ el f - rPh γ0 el0 f) / 18) ≤ (((387 * B + 6000) - rPh γ0 el0 f) / 18) by first | omega | decide) (show (rPh γ el f - rPh γ0 el0 f) ≤ ((387 * B + 6000) - rPh γ0 el0 f) by first | omega | decide) (G_nam fun z398055 hz398055 => ?_)
                      have ez398055 : p397885.toInt ≤ z398055.toInt ∧ p397886.toInt ≤ z398055.toInt ∧ (z398055.toInt = p397885.toInt ∨ z398055.toInt = p397886.toInt) := by have := gI_max hz398055; omega
                      have bz398055 : gB z398055 0 1999 := ⟨by omega, by omega⟩
                      refine G_istore (L' := [(8, .int z398055), (7, .int z398054), (6, .ref q397871), (5, .int g397839), (4, .ref q397461), (3, .int g397401), (0, .ref q387617), (1, .ref q387618), (2, .int p387619)]) dr_cX17_merge_126 (Nat.le_of_ble_eq_true rfl) rfl ?_
                      refine G_aload 4 dr_cX17_merge_128 rfl ?_
                      refine Gp_get 0 hm397468 he397469 dr_cX17_merge_130 (gk_X12 D I) (Nat.le_of_ble_eq_true rfl) wr_9_220 rfl ?_
                      refine G_iload 3 dr_cX17_merge_133 rfl ?_
                      have rg398056 := rM_ge hT htq387618 hf1
                      have rm398057 := rM_bd hB
                      have bd398058 := rBd_c hT htq387618 hf1 hB
                      have rc398059 := rc_at hT htq387618 hf1
                      have r398061 : γ 14 (el (γ 14 q387618) g397401.toInt.toNat) = q397470 := by rw [r397497]; exact ht397480.1
                      have r398062 := rg398056.2.2 _ r397496
                      rw [r398061] at r398062
                      have r398063 := bd398058.2.2.2 _ r397496
                      rw [r398061] at r398063
                      obtain ⟨q398065, hq398065⟩ : ∃ x, x = el q397470 g397839.toInt.toNat := ⟨_, rfl⟩
                      refine Gt_rem (c := q387618) (f := f) hl0 dr_cX17_merge_135 ⟨wr_11_22, wr_1_18, wr_11_25, by decide, rfl, (Nat.le_of_ble_eq_true rfl), (Nat.le_of_ble_eq_true rfl)⟩ wr_11_23 wr_11_24 hT ht397474 hf397489 htq387618 hf1 (by omega) (by omega) (rm_zc pk387622) (rm_zs pk387622) (Nat.le_of_ble_eq_true rfl) (fun F398060 γ el hq398064 => ?_)
                      rw [← hq398065]
                      have vv398077 := RS_valid hT0 hzq387618 hf0 x387620
                      rw [← hγ0] at vv398077
                      have sm398076 := rDq_sum (m := γ0 6 f) hT htq387618 hf1 (show g397401.toInt.toNat < γ0 6 f by omega) (by omega) r398061 (show g397839.toInt.toNat < _ by omega) hq398064
                      rw [hγ0, hel0] at sm398076
                      have dn398078 := fun (N : Nat → Prop) hN => rPl_dx (N := N) hT htq387618 hf1 hq398064 r398061 (show g397401.toInt.toNat < _ by omega) (show g397839.toInt.toNat < _ by omega) hN
                      rw [hγ0, hel0] at dn398078
                      have nm398079 := fun (N : Nat → Prop) hN => rPl_nm (N := N) (f := f) (j := g397839.toInt.toNat) hN (show g397401.toInt.toNat < _ by omega) r398061 (show g397839.toInt.toNat < _ by omega) hx397872.symm he397883 (by omega) (by omega)
                      rw [hγ0, hel0] at nm398079
                      obtain ⟨hk398066, h2398067, hel398068, hot398069, h16398070, h18398071, hnu398072, hr398073, hM398074, hBB398075⟩ := hq398064
                      have hk398080 := rSk_of hk398066
                      have r398081 : (fI (F398060 q387618) 3).toInt = (fI (F387616 q387618) 3).toInt := by rw [rSk_F hk398080 htq387618 (by decide) (by decide)]
                      have hT398082 := hk398080.1
                      have hs398083 := rSk_tr hst hk398080 (by decide) (by decide) (by decide)
                      have kp398084 : F398060 q387617 = F387616 q387617 := rSk_F hk398080 htq387617 (by decide) (by decide)
                      have r398085 := rSk_F hk398080 htq387617 (by decide) (by decide)
                      have ht398086 : rKd γ q387617 10 := rSk_k hk398080 htq387617 (by decide) (by decide)
                      have ht398087 : rKd γ q387618 9 := rSk_k hk398080 htq387618 (by decide) (by decide)
                      have hf398088 : γ 1 q387618 = f := rSk_1 hk398080 htq387618 (by decide) hf1
                      have ht398089 : rKd γ q397461 2 := rSk_k hk398080 ht397466 (by decide) (by decide)
                      have hf398090 : γ 1 q397461 = f := rSk_1 hk398080 ht397466 (by decide) hf397488
                      have ht398091 : rKd γ q397470 3 := rSk_k hk398080 ht397474 (by decide) (by decide)
                      have hf398092 : γ 1 q397470 = f := rSk_1 hk398080 ht397474 (by decide) hf397489
                      have ht398093 : rKd γ q397871 1 := rSk_k hk398080 ht397874 (by decide) (by decide)
                      have hf398094 : γ 1 q397871 = f := rSk_1 hk398080 ht397874 (by decide) hf397876
                      have mk398095 : mKp (F387616 q387617) (F398060 q387617) := mKp_tr mKp_rf (mKp_eq (rSk_F hk398080 htq387617 (by decide) (by decide)))
                      have r398096 := (rSk_s hk398080 htq387618 (by decide)).2.1
                      have r398097 := hot398069 _ (by rw [rc398059.2.1]; decide) (fun q => by rw [q, show _ = 3 from ht397474] at rc398059; exact absurd rc398059.2.1 (by decide))
                      have r398098 : g397401.toInt.toNat < γ 2 (γ 14 q387618) := by rw [r398096, r398097.1]; exact r397496
                      have r398099 : el (γ 14 q387618) g397401.toInt.toNat = q397461 := by rw [r398096, r398097.2]; exact r397497
                      have he398100 : F398060 q397871 = .inr (20, [.int p397884, .int p397885, .int p397886, .int p397887, .int p397888, .int p397889, .int p397890]) := (rSk_F hk398080 ht397874 (by decide) (by decide)).trans he397883
                      have hm398101 : q397871 ∈ P387615 := RS_m hT398082 ht398093 (by decide)
                      clear r397413 r397414 r397415 r397416 r397417 r397418 r397420 r397421 r397422 r397423 bp397407 bp397408 bp397472 bp397473 r397481 r397482 rg398056 rm398057 bd398058 rc398059 r398062 r398063
                      have hm398102 : q387617 ∈ P387615 := RS_m hT398082 ht398086 (by decide)
                      obtain ⟨q398104, q398105, p398106, p398107, p398108, p398109, p398110, p398111, p398112, p398113, p398114, p398115, p398116, p398117, p398118, p398119, p398120, he398103, hB398147, ht398121, ht398122, ht398123, ht398124, ht398125, ht398126, ht398127, ht398128, ht398129, ht398130, ht398131, ht398132, ht398133, ht398134, ht398135, ht398136, ht398137, ht398138, ht398139, ht398140, ht398141, ht398142, ht398143, ht398144, hB398148⟩ := show rk_10 γ (F398060 q387617) from RS_o hT398082 ht398086
                      have r398149 : p398108.toInt = p387636.toInt := by have z : p398108 = p387636 := congrArg (fun e => fI e 11) (he398103.symm.trans (r398085.trans he387631)); rw [z]
                      have bp398108 : gB p398108 0 100 := (hB398147.2.2.1)
                      have r398150 : p398111.toInt = p387639.toInt := by have z : p398111 = p387639 := congrArg (fun e => fI e 14) (he398103.symm.trans (r398085.trans he387631)); rw [z]
                      have bp398111 : gB p398111 0 2000 := (hB398147.2.2.2.1)
                      obtain ⟨nu398151, nu398152, nu398153, nu398154⟩ := hnu398072
                      have hB398155 : rBd γ el f B := hBB398075 B hB
                      have hph398156 : rPh γ0 el0 f ≤ rPh γ el f := by rw [hr398073]; exact hph
                      have pk398157 : rPh γ el f ≤ 387 * B + 6000 := rm_pk (rM_ge hT398082 ht398087 hf398088).1 (rM_bd hB398155)
                      refine G_widen (cs' := ((rPh γ el f - rPh γ0 el0 f) / 18)) (sl' := (rPh γ el f - rPh γ0 el0 f)) (rm_ec hr398073) (rm_es hr398073) ?_
                      refine G_pop dr_cX17_merge_138 rfl ?_
                      refine G_aload_n 6 dr_cX17_merge_139 rfl ?_
                      refine G_dup dr_cX17_merge_140 rfl ?_
                      refine Gp_get 13 hm398102 he398103 dr_cX17_merge_141 (gk_X17 D I) (Nat.le_of_ble_eq_true rfl) wr_7_87 rfl ?_
                      have bp398110 : gB p398110 (-2147483648) 2147483647 := (gB_any p398110)
                      refine G_iconst 1 dr_cX17_merge_144 (by decide +kernel) ?_
                      refine G_iadd dr_cX17_merge_145 (G_nam fun z398158 hz398158 => ?_)
                      have bz398158 : gB z398158 (-2147483648) 2147483647 := gB_any z398158
                      refine Gp_put 13 hm398102 he398103 dr_cX17_merge_146 (gk_X17 D I) (Nat.le_of_ble_eq_true rfl) wr_7_87 rfl rfl rfl (Nat.le_of_ble_eq_true rfl) (fun F398159 e398160 n398161 => ?_)
                      have he398162 : F398159 q397871 = .inr (20, [.int p397884, .int p397885, .int p397886, .int p397887, .int p397888, .int p397889, .int p397890]) := (n398161 q397871 (rn_oo he398100 he398103 (by decide))).trans he398100
                      have he398163 : F398159 q387617 = .inr (22, [.ref (γ 9 0), .ref (γ 9 1), .ref (γ 9 2), .ref (γ 9 3), .ref (γ 9 4), .ref (γ 9 5), .ref (γ 9 6), .ref (γ 9 7), .ref (γ 9 8), .int p398106, .int p398107, .int p398108, .int p398109, .int z398158, .int p398111, .ref (γ 9 15), .ref (γ 9 16), .ref (γ 9 17), .ref (γ 9 18), .ref (γ 9 19), .ref (γ 9 20), .ref (γ 9 21), .ref (γ 9 22), .int p398112, .int p398113, .int p398114, .int p398115, .int p398116, .ref q398104, .ref (γ 9 29), .int p398117, .ref (γ 9 31), .int p398118, .int p398119, .int p398120, .ref q398105]) := e398160
                      have mk398164 : mKp (F387616 q387617) (F398159 q387617) := mKp_tr mk398095 (by rw [he398103, he398163]; exact ⟨rfl, rfl⟩)
                      have hT398165 : RS D I P387615 F398159 γ el := RS_set hT398082 n398161 ht398086 (by decide) ⟨q398104, q398105, p398106, p398107, p398108, p398109, z398158, p398111, p398112, p398113, p398114, p398115, p398116, p398117, p398118, p398119, p398120, he398163, ⟨(hB398147.1), (hB398147.2.1), bp398108, bp398111, (hB398147.2.2.2.2.1), (hB398147.2.2.2.2.2.1), (hB398147.2.2.2.2.2.2.1), (hB398147.2.2.2.2.2.2.2.1), (hB398147.2.2.2.2.2.2.2.2)⟩, ht398121, ht398122, ht398123, ht398124, ht398125, ht398126, ht398127, ht398128, ht398129, ht398130, ht398131, ht398132, ht398133, ht398134, ht398135, ht398136, ht398137, ht398138, ht398139, ht398140, ht398141, ht398142, ht398143, ht398144, hB398148⟩
                      have hs398166 := rSk_put hs398083 hT398165 n398161 ht398086 (by decide) (by decide)
                      have dn398167 : ∀ N : Nat → Prop, rPl γ0 el0 F387616 q387618 (γ0 6 f) (fun _ _ => rNx N) → rPl γ el F398159 q387618 (γ 6 f) (fun _ _ => rNx N) := fun N hN => rPl_fr hT398082 ht398087 hf398088 (dn398078 N hN) (fun b hb _ => n398161 b (rn_ty (show rKd γ b 1 from hb) ht398086 (by decide)))
                      refine G_iload 1 dr_cX17_merge_149 rfl ?_
                      refine G_iload 0 dr_cX17_merge_151 rfl ?_
                      refine G_icmp_eq 164 dr_cX17_merge_153 (by decide +kernel) (fun hc398168 => ?_) (fun hc398168 => ?_)
                      · have r398169 : z398054.toInt = z398055.toInt := gC_eq hc398168
                        have ac398170 : (fI (F398159 q387617) 11).toInt = p398108.toInt := by rw [he398163]; rfl
                        have ac398171 : (fI (F398159 q387617) 14).toInt = p398111.toInt := by rw [he398163]; rfl
                        refine G_iconst 1 dr_cX17_merge_164 (by decide +kernel) ?_
                        exact G_zretA FieldType.boolean dr_cX17_merge_165 rfl rfl (show ((rPh γ el f - rPh γ0 el0 f) / 18) ≤ (((387 * B + 6000) - rPh γ0 el0 f) / 18) by omega) (show (rPh γ el f - rPh γ0 el0 f) ≤ ((387 * B + 6000) - rPh γ0 el0 f) by omega) ⟨P387615, F398159, γ, el, 1, rfl, rfl, hs398166, ⟨by omega, by omega⟩, hB398155, (gB_w (gBl (show Int32.toInt 1 = 1 by decide)) (by decide) (by decide)), (by have qa0 : Int32.toInt 1 = 1 := (by decide); omega), (by have qa0 : Int32.toInt 1 = 1 := (by decide); omega), (by have qa0 : Int32.toInt 1 = 1 := (by decide); omega), (by have qa0 : Int32.toInt 1 = 1 := (by decide); omega), (Or.inr (by rw [show γ 6 f = γ0 6 f by omega]; exact Nat.le_of_eq sm398076)), dn398167, (by have qa0 : Int32.toInt 1 = 1 := (by decide); omega), (by have qa0 : Int32.toInt 1 = 1 := (by decide); omega), (fun h => absurd h (by decide)), mk398164⟩
                      · have r398172 : z398054.toInt ≠ z398055.toInt := gC_ne hc398168
                        refine G_aload_n 7 dr_cX17_merge_156 rfl ?_
                        refine G_iload 0 dr_cX17_merge_157 rfl ?_
                        refine G_iload 1 dr_cX17_merge_159 rfl ?_
                        have v0_398173 : 0 < γ 6 (γ 1 q387618) := by rw [hf398088]; omega
                        refine Gw_callS (As := [.ref q387618, .int z398055, .int z398054]) (gV_ok D I) (ct_360372_SpillForgeModel_rename l hl0 D I γ el P387615 F398159 q387618 z398055 z398054 hT398165 ht398087 bz398055 bz398054 (by omega)) dr_cX17_merge_161 ⟨wr_11_30, wr_1_14, wr_11_32, by decide, rfl, (Nat.le_of_ble_eq_true rfl), (Nat.le_of_ble_eq_true rfl)⟩ wr_11_31 (rm_zc pk398157) (rm_zs pk398157) (Nat.le_of_ble_eq_true rfl) (fun r398177 w398178 dc398174 ds398175 hp398176 => ?_) (fun _ _ _ _ _ z => z.elim)
                        obtain ⟨F398181, rfl, rfl, hT398182, hs398183, hdc, hds, x398179, x398180⟩ := hp398176
                        have hs398184 := rSk_str hs398166 hT398182 hs398183 (by decide) (by decide) (by decide)
                        have kp398185 : F398181 q387617 = F398159 q387617 := x398180 q387617 (rT0 ht398086 (by decide)) (rT2 ht398086 (by decide))
                        have mk398186 : mKp (F387616 q387617) (F398181 q387617) := mKp_tr mk398164 (mKp_eq (x398180 q387617 (rT0 ht398086 (by decide)) (rT2 ht398086 (by decide))))
                        have he398187 : F398181 q387617 = .inr (22, [.ref (γ 9 0), .ref (γ 9 1), .ref (γ 9 2), .ref (γ 9 3), .ref (γ 9 4), .ref (γ 9 5), .ref (γ 9 6), .ref (γ 9 7), .ref (γ 9 8), .int p398106, .int p398107, .int p398108, .int p398109, .int z398158, .int p398111, .ref (γ 9 15), .ref (γ 9 16), .ref (γ 9 17), .ref (γ 9 18), .ref (γ 9 19), .ref (γ 9 20), .ref (γ 9 21), .ref (γ 9 22), .int p398112, .int p398113, .int p398114, .int p398115, .int p398116, .ref q398104, .ref (γ 9 29), .int p398117, .ref (γ 9 31), .int p398118, .int p398119, .int p398120, .ref q398105]) := (x398180 q387617 (rT0 ht398086 (by decide)) (rT2 ht398086 (by decide))).trans he398163
                        change G _ _ _ _ _ _ _ _ _ _ _
                        refine G_widen (cs' := ((rPh γ el f - rPh γ0 el0 f) / 18)) (sl' := (rPh γ el f - rPh γ0 el0 f)) (rm_d0 hdc) (rm_d0 hds) ?_
                        have dn398188 : ∀ N : Nat → Prop, rPl γ0 el0 F387616 q387618 (γ0 6 f) (fun _ _ => rNx N) → rPl γ el F398181 q387618 (γ 6 f) (fun _ _ => rNx N) := fun N hN => by have z := x398179 N ((show z398054.toInt = p397885.toInt ∨ z398054.toInt = p397886.toInt by omega).elim (fun e => by rw [e]; exact (nm398079 N hN).1) (fun e => by rw [e]; exact (nm398079 N hN).2)) (by omega); rw [hf398088] at z; exact z (dn398167 N hN)
                        have ac398189 : (fI (F398181 q387617) 11).toInt = p398108.toInt := by rw [he398187]; rfl
                        have ac398190 : (fI (F398181 q387617) 14).toInt = p398111.toInt := by rw [he398187]; rfl
                        refine G_iconst 1 dr_cX17_merge_164 (by decide +kernel) ?_
                        exact G_zretA FieldType.boolean dr_cX17_merge_165 rfl rfl (show ((rPh γ el f - rPh γ0 el0 f) / 18) ≤ (((387 * B + 6000) - rPh γ0 el0 f) / 18) by omega) (show (rPh γ el f - rPh γ0 el0 f) ≤ ((387 * B + 6000) - rPh γ0 el0 f) by omega) ⟨P387615, F398181, γ, el, 1, rfl, rfl, hs398184, ⟨by omega, by omega⟩, hB398155, (gB_w (gBl (show Int32.toInt 1 = 1 by decide)) (by decide) (by decide)), (by have qa0 : Int32.toInt 1 = 1 := (by decide); omega), (by have qa0 : Int32.toInt 1 = 1 := (by decide); omega), (by have qa0 : Int32.toInt 1 = 1 := (by decide); omega), (by have qa0 : Int32.toInt 1 = 1 := (by decide); omega), (Or.inr (by rw [show γ 6 f = γ0 6 f by omega]; exact Nat.le_of_eq sm398076)), dn398188, (by have qa0 : Int32.toInt 1 = 1 := (by decide); omega), (by have qa0 : Int32.toInt 1 = 1 := (by decide); omega), (fun h => absurd h (by decide)), mk398186⟩
                    · have r398191 : o398050.toInt = 0 := gj_eq hc398052 (show Int32.toInt 0 = 0 by decide)
                      have bo398050' : gB o398050 0 0 := ⟨by omega, by omega⟩
                      refine G_goto 166 dr_cX17_merge_95 (by decide +kernel) ?_
                      obtain ⟨z398192, hz398192⟩ : ∃ z : Int32, z = g397839 + Int32.ofInt 1 := ⟨_, rfl⟩
                      have ez398192 : z398192.toInt = g397839.toInt + 1 := gI_inc hz398192 (by decide) bg397839' (by decide) (by decide)
                      have bz398192 : gB z398192 1 1000000 := ⟨by omega, by omega⟩
                      refine G_iinc (L' := [(5, .int z398192), (6, .ref q397871), (4, .ref q397461), (3, .int g397401), (0, .ref q387617), (1, .ref q387618), (2, .int p387619)]) z398192 1 dr_cX17_merge_166 rfl hz398192.symm (Nat.le_of_ble_eq_true rfl) rfl ?_
                      refine G_goto 20 dr_cX17_merge_169 (by decide +kernel) ?_
                      refine G_lv (L' := [(5, .int z398192), (4, .ref q397461), (3, .int g397401), (0, .ref q387617), (1, .ref q387618), (2, .int p387619)]) [0, 2, 3, 4, 5, 6] rfl ?_
                      exact ih20_397839 z398192 (gB_w bz398192 (by decide) (by decide)) (by omega)
        exact hlp20_397839 (((1000001 : Int) - 0).toNat + 1) 0 (gB_w (gBl (show Int32.toInt 0 = 0 by decide)) (by decide) (by decide)) (Nat.lt_succ_self _)
  exact hlp2_397401 (((1000001 : Int) - 0).toNat + 1) 0 (gB_w (gBl (show Int32.toInt 0 = 0 by decide)) (by decide) (by decide)) (Nat.lt_succ_self _)
