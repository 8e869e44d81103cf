abbrev ky_359236_SpillForgeModel_rename : gKey := (cX17_rename, 7, "SpillForgeModel", none, [], "rename", fun _ _ => True)
def pt_359236_SpillForgeModel_rename (D : va_G) (I : FieldType → ClassId) (γ el : Nat → Nat → Nat) (P359230 : List Nat) (F359231 : Nat → va_E) (q359232 : Nat) (p359233 : Int32) (p359234 : Int32) : Option Value → va_W → Nat → Nat → Prop := fun r w dc ds => ∃ (F384545 : Nat → va_E), r = none ∧ w = va_pl P359230 F384545 ∧ RS D I P359230 F384545 γ el ∧ rStr γ [1] F359231 F384545 ∧ dc ≤ 0 ∧ ds ≤ 0 ∧ (∀ N : Nat → Prop, N (p359234.toInt : Int).toNat → p359233.toInt < 100 → rPl γ el F359231 q359232 (γ 6 (γ 1 q359232)) (fun _ _ => rNx N) → rPl γ el F384545 q359232 (γ 6 (γ 1 q359232)) (fun _ _ => rNx N)) ∧ rFk [1] γ F359231 F384545
set_option maxRecDepth 100000 in
set_option maxHeartbeats 4000000 in
theorem ct_359236_SpillForgeModel_rename (l : Launch) (hl0 : l.stackTraces = false) (D : va_G) (I : FieldType → ClassId) (γ el : Nat → Nat → Nat) (P359230 : List Nat) (F359231 : Nat → va_E) (q359232 : Nat) (p359233 : Int32) (p359234 : Int32) (hT : RS D I P359230 F359231 γ el) (htq359232 : rKd γ q359232 9) (bp359233 : gB p359233 0 1999) (bp359234 : gB p359234 0 1999) (x359235 : 0 < γ 6 (γ 1 q359232)) : CtA (gV D I) l yX17_rename cX17_rename 7 none 4 85 0 0 [.ref q359232, .int p359233, .int p359234] (va_pl P359230 F359231) (pt_359236_SpillForgeModel_rename D I γ el P359230 F359231 q359232 p359233 p359234) gNA := by
  refine CtA_of hl0 (by decide) (Nat.le_of_ble_eq_true rfl) ?_
  refine G_iconst 0 dr_cX17_rename_0 (by decide +kernel) ?_
  refine G_istore_n (L' := [(3, .int 0), (0, .ref q359232), (1, .int p359233), (2, .int p359234)]) dr_cX17_rename_1 (Nat.le_of_ble_eq_true rfl) rfl ?_
  have hlp2_382825 : ∀ (n2_382825 : Nat) (F382821 : Nat → va_E) (g382820 : Int32), gB g382820 0 1000000 → RS D I P359230 F382821 γ el → rStr γ [1] F359231 F382821 → (∀ N : Nat → Prop, N (p359234.toInt : Int).toNat → p359233.toInt < 100 → rPl γ el F359231 q359232 (γ 6 (γ 1 q359232)) (fun _ _ => rNx N) → rPl γ el F382821 q359232 (γ 6 (γ 1 q359232)) (fun _ _ => rNx N)) → rFk [1] γ F359231 F382821 → ((1000001 : Int) - g382820.toInt).toNat < n2_382825 → G (gV D I) l (gRm 4 85 0 0) (gMA (gV D I) (pt_359236_SpillForgeModel_rename D I γ el P359230 F359231 q359232 p359233 p359234) gNA 0 0) ky_359236_SpillForgeModel_rename 2 [(3, .int g382820), (0, .ref q359232), (1, .int p359233), (2, .int p359234)] [] (va_pl P359230 F382821) 0 0 := by
    intro n2_382825
    induction n2_382825 with
    | zero => intro F382821 g382820 bg382820 hT382822 hs382823 x382824 x382825 hm2_382825; exact absurd hm2_382825 (Nat.not_lt_zero _)
    | succ n2_382825 ih2_382825 =>
      intro F382821 g382820 bg382820 hT382822 hs382823 x382824 x382825 hm2_382825
      have hs382827 : rStr γ [1] F359231 F382821 := fun b h0 hb hw => (hs382823 b h0 hb hw).trans ((rStr_rf (γ := γ) (W := [1]) (F := F359231)) b h0 hb hw).symm
      have hs382828 : rStr γ [1] F359231 F382821 := rStr_tr (rStr_rf (γ := γ) (W := [1]) (F := F359231)) hs382827
      refine G_iload_n 0 dr_cX17_rename_2 rfl ?_
      refine G_aload_n 1 dr_cX17_rename_3 rfl ?_
      have hm382829 : q359232 ∈ P359230 := RS_m hT382822 htq359232 (by decide)
      obtain ⟨q382831, q382832, p382833, p382834, he382830, ht382850, ht382835, ht382836, ht382837, ht382838, r382839, r382840, r382841, r382842, r382843, r382844, r382845, r382846, r382847, r382848, r382849⟩ := show rk_9 γ el q359232 (F382821 q359232) from RS_o hT382822 htq359232
      have bp382833 : gB p382833 0 1000000 := ⟨by omega, by omega⟩
      have bp382834 : gB p382834 0 1000000 := ⟨by omega, by omega⟩
      refine Gw_callV (As := []) (gV_ok D I) (cp_12451_Code_size l hl0 D I P359230 F382821 q359232 q382831 q382832 p382833 p382834 hm382829 he382830) dr_cX17_rename_4 ⟨wr_10_160, wr_1_15, wr_9_131, by decide, rfl, (Nat.le_of_ble_eq_true rfl), (Nat.le_of_ble_eq_true rfl)⟩ wr_9_129 wr_9_130 hm382829 he382830 rfl (show 0 + 0 ≤ 0 by first | omega | decide) (show 0 + 0 ≤ 0 by first | omega | decide) (Nat.le_of_ble_eq_true rfl) (fun r382854 w382855 dc382851 ds382852 hp382853 => ?_) (fun _ _ _ _ _ z => z.elim)
      obtain ⟨rfl, rfl, hdc, hds⟩ := hp382853
      change G _ _ _ _ _ _ _ (.int p382834 :: _) _ _ _
      refine G_widen (cs' := 0) (sl' := 0) (by omega) (by omega) ?_
      refine G_icmp_ge 150 dr_cX17_rename_7 (by decide +kernel) (fun hc382856 => ?_) (fun hc382856 => ?_)
      · have r382857 : p382834.toInt ≤ g382820.toInt := gC_le hc382856
        exact G_vretA dr_cX17_rename_150 rfl (Nat.le_of_ble_eq_true rfl) (Nat.le_of_ble_eq_true rfl) ⟨F382821, rfl, rfl, hT382822, hs382823, (Nat.le_of_ble_eq_true rfl), (Nat.le_of_ble_eq_true rfl), x382824, x382825⟩
      · have r382858 : g382820.toInt < p382834.toInt := gC_nle hc382856
        have bg382820' : gB g382820 0 999999 := ⟨by omega, by omega⟩
        have bp382834' : gB p382834 1 1000000 := ⟨by omega, by omega⟩
        refine G_aload_n 1 dr_cX17_rename_10 rfl ?_
        refine G_iload_n 0 dr_cX17_rename_11 rfl ?_
        have hm382859 : q382831 ∈ P359230 := RS_m hT382822 ht382835 (by decide)
        obtain ⟨⟨p382861, p382862, q382863, he382860, r382864, r382865, r382866, r382868⟩, r382867⟩ := show rk_4 D I γ el F382821 q382831 from RS_o hT382822 ht382835
        have bp382861 := gB_any p382861
        have bp382862 : gB p382862 0 1000000 := ⟨by omega, by omega⟩
        obtain ⟨r382869, r382870, n382877, f382878, r382871, r382872, r382873, r382874, r382875, r382876⟩ := rLC_n r382866 (by omega)
        have hm382879 : q382863 ∈ P359230 := RS_m hT382822 r382869 (by decide)
        obtain ⟨q382880, hx382881⟩ : ∃ x, x = el q382831 g382820.toInt.toNat := ⟨_, rfl⟩
        have hx382882 : f382878 g382820.toNatClampNeg = some q382880 := (r382875 _ (show g382820.toInt.toNat < γ 2 q382831 by omega)).trans (by rw [hx382881])
        have ht382885 : rKd γ q382880 2 := by rw [hx382881]; exact (r382846 _ (by omega)).resolve_right (fun z => absurd z.1 (by omega))
        have ht382886 : rFm γ q382880 q382831 := by rw [hx382881]; exact (r382867 _ (show g382820.toInt.toNat < γ 2 q382831 by omega)).2.1
        have hm382887 : q382880 ∈ P359230 := RS_m hT382822 ht382885 (by decide)
        obtain ⟨q382889, q382890, p382891, p382892, he382888, ht382899, ht382893, ht382894, ht382895, ht382896, ht382897, bp382891, bp382892, r382898, r382900, r382901⟩ := show rk_2 γ q382880 (F382821 q382880) from RS_o hT382822 ht382885
        refine Gw_callV (As := [.int g382820]) (gV_ok D I) (cp_7723_Code_get l hl0 D I P359230 F382821 q359232 q382831 q382863 g382820 q382832 p382833 p382834 p382861 p382862 f382878 n382877 q382880 q382889 q382890 p382891 p382892 hm382829 hm382859 hm382879 hm382887 he382830 he382860 r382871 he382888 (gB_w bg382820' (by decide) (by decide)) (gB_w bp382862 (by decide) (by decide)) (by omega) (by omega) (by assumption) (by omega)) dr_cX17_rename_12 ⟨wr_10_161, wr_1_15, wr_10_141, by decide, rfl, (Nat.le_of_ble_eq_true rfl), (Nat.le_of_ble_eq_true rfl)⟩ wr_10_139 wr_10_140 hm382829 he382830 rfl (show 0 + 0 ≤ 0 by first | omega | decide) (show 0 + 0 ≤ 0 by first | omega | decide) (Nat.le_of_ble_eq_true rfl) (fun r382905 w382906 dc382902 ds382903 hp382904 => ?_) (fun _ _ _ _ _ z => z.elim)
        obtain ⟨rfl, rfl, hdc, hds⟩ := hp382904
        change G _ _ _ _ _ _ _ (.ref q382880 :: _) _ _ _
        refine G_widen (cs' := 0) (sl' := 0) (by omega) (by omega) ?_
        have hb382907 : el (γ 14 q359232) (g382820.toInt : Int).toNat = q382880 := by rw [ht382850.1, hx382881]
        refine G_astore (L' := [(4, .ref q382880), (3, .int g382820), (0, .ref q359232), (1, .int p359233), (2, .int p359234)]) dr_cX17_rename_15 (Nat.le_of_ble_eq_true rfl) rfl ?_
        refine G_iconst 0 dr_cX17_rename_17 (by decide +kernel) ?_
        refine G_istore (L' := [(5, .int 0), (4, .ref q382880), (3, .int g382820), (0, .ref q359232), (1, .int p359233), (2, .int p359234)]) dr_cX17_rename_18 (Nat.le_of_ble_eq_true rfl) rfl ?_
        have hlp20_383730 : ∀ (n20_383730 : Nat) (F383726 : Nat → va_E) (g383725 : Int32), gB g383725 0 1000001 → RS D I P359230 F383726 γ el → rStr γ [1] F359231 F383726 → (∀ N : Nat → Prop, N (p359234.toInt : Int).toNat → p359233.toInt < 100 → rPl γ el F359231 q359232 (γ 6 (γ 1 q359232)) (fun _ _ => rNx N) → rPl γ el F383726 q359232 (γ 6 (γ 1 q359232)) (fun _ _ => rNx N)) → rFk [1] γ F359231 F383726 → ((1000002 : Int) - g383725.toInt).toNat < n20_383730 → G (gV D I) l (gRm 4 85 0 0) (gMA (gV D I) (pt_359236_SpillForgeModel_rename D I γ el P359230 F359231 q359232 p359233 p359234) gNA 0 0) ky_359236_SpillForgeModel_rename 20 [(5, .int g383725), (4, .ref q382880), (3, .int g382820), (0, .ref q359232), (1, .int p359233), (2, .int p359234)] [] (va_pl P359230 F383726) 0 0 := by
          intro n20_383730
          induction n20_383730 with
          | zero => intro F383726 g383725 bg383725 hT383727 hs383728 x383729 x383730 hm20_383730; exact absurd hm20_383730 (Nat.not_lt_zero _)
          | succ n20_383730 ih20_383730 =>
            intro F383726 g383725 bg383725 hT383727 hs383728 x383729 x383730 hm20_383730
            have hs383732 : rStr γ [1] F382821 F383726 := fun b h0 hb hw => (hs383728 b h0 hb hw).trans (hs382823 b h0 hb hw).symm
            have he383733 : F383726 q359232 = .inr (18, [.ref q382831, .ref q382832, .int p382833, .int p382834]) := (hs383732 q359232 (rT0 htq359232 (by decide)) (rT1 htq359232 (by decide)) (rT2 htq359232 (by decide))).trans he382830
            have he383734 : F383726 q382831 = .inr (4, [.int p382861, .ref q382863, .int p382862]) := (hs383732 q382831 (rT0 ht382835 (by decide)) (rT1 ht382835 (by decide)) (rT2 ht382835 (by decide))).trans he382860
            have he383735 : F383726 q382863 = .inl (I (.object "java/lang/Object"), n382877, .inr (.inr (.inr (.inr f382878)))) := (hs383732 q382863 (rT0 r382869 (by decide)) (rT1 r382869 (by decide)) (rT2 r382869 (by decide))).trans r382871
            have he383736 : F383726 q382880 = .inr (17, [.ref q382889, .ref q382890, .int p382891, .int p382892]) := (hs383732 q382880 (rT0 ht382885 (by decide)) (rT1 ht382885 (by decide)) (rT2 ht382885 (by decide))).trans he382888
            have hs383737 : rStr γ [1] F359231 F383726 := rStr_tr hs382823 hs383732
            refine G_iload 0 dr_cX17_rename_20 rfl ?_
            refine G_aload 1 dr_cX17_rename_22 rfl ?_
            refine Gp_get 0 hm382887 he383736 dr_cX17_rename_24 (gk_X12 D I) (Nat.le_of_ble_eq_true rfl) wr_9_220 rfl ?_
            have hm383738 : q382889 ∈ P359230 := RS_m hT383727 ht382893 (by decide)
            obtain ⟨⟨p383740, p383741, q383742, he383739, r383743, r383744, r383745, r383747⟩, r383746⟩ := show rk_3 D I γ el F383726 q382889 from RS_o hT383727 ht382893
            have bp383740 := gB_any p383740
            have bp383741 : gB p383741 0 1000000 := ⟨by omega, by omega⟩
            refine Gw_callV (As := []) (gV_ok D I) (cp_7_ArrayList_size l hl0 D I P359230 F383726 q382889 p383740 q383742 p383741 hm383738 he383739 (gB_w bp383741 (by decide) (by decide))) dr_cX17_rename_27 ⟨wr_10_200, wr_1_18, wr_9_160, by decide, rfl, (Nat.le_of_ble_eq_true rfl), (Nat.le_of_ble_eq_true rfl)⟩ wr_9_158 wr_9_159 hm383738 he383739 rfl (show 0 + 0 ≤ 0 by first | omega | decide) (show 0 + 0 ≤ 0 by first | omega | decide) (Nat.le_of_ble_eq_true rfl) (fun r383751 w383752 dc383748 ds383749 hp383750 => ?_) (fun _ _ _ _ _ z => z.elim)
            obtain ⟨rfl, rfl, hdc, hds⟩ := hp383750
            change G _ _ _ _ _ _ _ (.int p383741 :: _) _ _ _
            refine G_widen (cs' := 0) (sl' := 0) (by omega) (by omega) ?_
            refine G_icmp_gt 144 dr_cX17_rename_30 (by decide +kernel) (fun hc383753 => ?_) (fun hc383753 => ?_)
            · have r383754 : p383741.toInt < g383725.toInt := gC_lt hc383753
              have bg383725' : gB g383725 1 1000001 := ⟨by omega, by omega⟩
              obtain ⟨z383755, hz383755⟩ : ∃ z : Int32, z = g382820 + Int32.ofInt 1 := ⟨_, rfl⟩
              have ez383755 : z383755.toInt = g382820.toInt + 1 := gI_inc hz383755 (by decide) bg382820' (by decide) (by decide)
              have bz383755 : gB z383755 1 1000000 := ⟨by omega, by omega⟩
              refine G_iinc (L' := [(3, .int z383755), (5, .int g383725), (4, .ref q382880), (0, .ref q359232), (1, .int p359233), (2, .int p359234)]) z383755 2 dr_cX17_rename_144 rfl hz383755.symm (Nat.le_of_ble_eq_true rfl) rfl ?_
              refine G_goto 2 dr_cX17_rename_147 (by decide +kernel) ?_
              refine G_lv (L' := [(3, .int z383755), (0, .ref q359232), (1, .int p359233), (2, .int p359234)]) [0, 3, 4, 5] rfl ?_
              exact ih2_382825 F383726 z383755 (gB_w bz383755 (by decide) (by decide)) hT383727 hs383728 x383729 x383730 (mz_up ez383755 (Int.le_trans bg382820'.2 (by decide)) hm2_382825)
            · have r383756 : g383725.toInt ≤ p383741.toInt := gC_nlt hc383753
              have bg383725' : gB g383725 0 1000000 := ⟨by omega, by omega⟩
              refine G_iload 0 dr_cX17_rename_33 rfl ?_
              refine G_aload 1 dr_cX17_rename_35 rfl ?_
              refine Gp_get 0 hm382887 he383736 dr_cX17_rename_37 (gk_X12 D I) (Nat.le_of_ble_eq_true rfl) wr_9_220 rfl ?_
              refine Gw_callV (As := []) (gV_ok D I) (cp_7_ArrayList_size l hl0 D I P359230 F383726 q382889 p383740 q383742 p383741 hm383738 he383739 (gB_w bp383741 (by decide) (by decide))) dr_cX17_rename_40 ⟨wr_10_200, wr_1_18, wr_9_160, by decide, rfl, (Nat.le_of_ble_eq_true rfl), (Nat.le_of_ble_eq_true rfl)⟩ wr_9_158 wr_9_159 hm383738 he383739 rfl (show 0 + 0 ≤ 0 by first | omega | decide) (show 0 + 0 ≤ 0 by first | omega | decide) (Nat.le_of_ble_eq_true rfl) (fun r383760 w383761 dc383757 ds383758 hp383759 => ?_) (fun _ _ _ _ _ z => z.elim)
              obtain ⟨rfl, rfl, hdc, hds⟩ := hp383759
              change G _ _ _ _ _ _ _ (.int p383741 :: _) _ _ _
              refine G_widen (cs' := 0) (sl' := 0) (by omega) (by omega) ?_
              refine G_icmp_ge 62 dr_cX17_rename_43 (by decide +kernel) (fun hc383762 => ?_) (fun hc383762 => ?_)
              · have r383763 : p383741.toInt ≤ g383725.toInt := gC_le hc383762
                refine G_aload 1 dr_cX17_rename_62 rfl ?_
                refine Gp_get 1 hm382887 he383736 dr_cX17_rename_64 (gk_X12 D I) (Nat.le_of_ble_eq_true rfl) wr_9_223 rfl ?_
                have fl383766 : p383741.toInt = γ 2 q382889 := r383743
                have hp383764 : rAt γ el q359232 (g382820.toInt : Int).toNat (g383725.toInt : Int).toNat = q382890 := (rAt_e hb382907 ht382899.1 (by omega)).trans ht382899.2.1
                have hL383765 : (g383725.toInt : Int).toNat ≤ γ 2 (rwL γ el q359232 (g382820.toInt : Int).toNat) := by unfold rwL; rw [hb382907, ht382899.1]; omega
                have nb383767 : (g382820.toInt : Int).toNat < γ 6 (γ 1 q359232) := by omega
                have hm383768 : q382890 ∈ P359230 := RS_m hT383727 ht382895 (by decide)
                obtain ⟨p383770, p383771, p383772, p383773, p383774, p383775, p383776, he383769, bp383770, bp383771, bp383774, bp383775, bp383776, r383777, r383778, r383779, r383780⟩ := show rk_1 γ q382890 (F383726 q382890) from RS_o hT383727 ht382895
                have bp383772 := gB_any p383772
                have bp383773 := gB_any p383773
                refine G_astore (L' := [(6, .ref q382890), (5, .int g383725), (4, .ref q382880), (3, .int g382820), (0, .ref q359232), (1, .int p359233), (2, .int p359234)]) dr_cX17_rename_67 (Nat.le_of_ble_eq_true rfl) rfl ?_
                refine G_aload 0 dr_cX17_rename_69 rfl ?_
                refine Gw_callV (As := []) (gV_ok D I) (cp_1669_Row_usesA l hl0 D I P359230 F383726 q382890 p383770 p383771 p383772 p383773 p383774 p383775 p383776 hm383768 he383769 bp383770 bp383771 bp383774 bp383775 bp383776) dr_cX17_rename_71 ⟨wr_10_192, wr_1_39, wr_10_195, by decide, rfl, (Nat.le_of_ble_eq_true rfl), (Nat.le_of_ble_eq_true rfl)⟩ wr_10_193 wr_10_194 hm383768 he383769 rfl (show 0 + 0 ≤ 0 by first | omega | decide) (show 0 + 0 ≤ 0 by first | omega | decide) (Nat.le_of_ble_eq_true rfl) (fun r383784 w383785 dc383781 ds383782 hp383783 => ?_) (fun _ _ _ _ _ z => z.elim)
                obtain ⟨o383786, rfl, rfl, hdc, hds, bo383786, x383787⟩ := hp383783
                change G _ _ _ _ _ _ _ (.int o383786 :: _) _ _ _
                refine G_widen (cs' := 0) (sl' := 0) (by omega) (by omega) ?_
                refine G_if_eq 92 dr_cX17_rename_74 (by decide +kernel) (fun hc383788 => ?_) (fun hc383788 => ?_)
                · have r383789 : o383786.toInt = 0 := gj_eq hc383788 (show Int32.toInt 0 = 0 by decide)
                  have bo383786' : gB o383786 0 0 := gB_t0 r383789
                  refine G_aload 0 dr_cX17_rename_92 rfl ?_
                  refine Gw_callV (As := []) (gV_ok D I) (cp_1693_Row_usesB l hl0 D I P359230 F383726 q382890 p383770 p383771 p383772 p383773 p383774 p383775 p383776 hm383768 he383769 bp383770 bp383771 bp383774 bp383775 bp383776) dr_cX17_rename_94 ⟨wr_10_196, wr_1_39, wr_10_199, by decide, rfl, (Nat.le_of_ble_eq_true rfl), (Nat.le_of_ble_eq_true rfl)⟩ wr_10_197 wr_10_198 hm383768 he383769 rfl (show 0 + 0 ≤ 0 by first | omega | decide) (show 0 + 0 ≤ 0 by first | omega | decide) (Nat.le_of_ble_eq_true rfl) (fun r383793 w383794 dc383790 ds383791 hp383792 => ?_) (fun _ _ _ _ _ z => z.elim)
                  obtain ⟨o383795, rfl, rfl, hdc, hds, bo383795, x383796⟩ := hp383792
                  change G _ _ _ _ _ _ _ (.int o383795 :: _) _ _ _
                  refine G_widen (cs' := 0) (sl' := 0) (by omega) (by omega) ?_
                  refine G_if_eq 115 dr_cX17_rename_97 (by decide +kernel) (fun hc383797 => ?_) (fun hc383797 => ?_)
                  · have r383798 : o383795.toInt = 0 := gj_eq hc383797 (show Int32.toInt 0 = 0 by decide)
                    have bo383795' : gB o383795 0 0 := gB_t0 r383798
                    refine G_aload 0 dr_cX17_rename_115 rfl ?_
                    refine Gw_callV (As := []) (gV_ok D I) (cp_1654_Row_sets l hl0 D I P359230 F383726 q382890 p383770 p383771 p383772 p383773 p383774 p383775 p383776 hm383768 he383769 bp383770 bp383771 bp383774 bp383775 bp383776) dr_cX17_rename_117 ⟨wr_10_181, wr_1_39, wr_10_184, by decide, rfl, (Nat.le_of_ble_eq_true rfl), (Nat.le_of_ble_eq_true rfl)⟩ wr_10_182 wr_10_183 hm383768 he383769 rfl (show 0 + 0 ≤ 0 by first | omega | decide) (show 0 + 0 ≤ 0 by first | omega | decide) (Nat.le_of_ble_eq_true rfl) (fun r383802 w383803 dc383799 ds383800 hp383801 => ?_) (fun _ _ _ _ _ z => z.elim)
                    obtain ⟨o383804, rfl, rfl, hdc, hds, bo383804⟩ := hp383801
                    change G _ _ _ _ _ _ _ (.int o383804 :: _) _ _ _
                    refine G_widen (cs' := 0) (sl' := 0) (by omega) (by omega) ?_
                    refine G_if_eq 138 dr_cX17_rename_120 (by decide +kernel) (fun hc383805 => ?_) (fun hc383805 => ?_)
                    · have r383806 : o383804.toInt = 0 := gj_eq hc383805 (show Int32.toInt 0 = 0 by decide)
                      have bo383804' : gB o383804 0 0 := gB_t0 r383806
                      obtain ⟨z383807, hz383807⟩ : ∃ z : Int32, z = g383725 + Int32.ofInt 1 := ⟨_, rfl⟩
                      have ez383807 : z383807.toInt = g383725.toInt + 1 := gI_inc hz383807 (by decide) bg383725' (by decide) (by decide)
                      have bz383807 : gB z383807 1 1000001 := ⟨by omega, by omega⟩
                      refine G_iinc (L' := [(5, .int z383807), (6, .ref q382890), (4, .ref q382880), (3, .int g382820), (0, .ref q359232), (1, .int p359233), (2, .int p359234)]) z383807 1 dr_cX17_rename_138 rfl hz383807.symm (Nat.le_of_ble_eq_true rfl) rfl ?_
                      refine G_goto 20 dr_cX17_rename_141 (by decide +kernel) ?_
                      refine G_lv (L' := [(5, .int z383807), (4, .ref q382880), (3, .int g382820), (0, .ref q359232), (1, .int p359233), (2, .int p359234)]) [0, 2, 3, 4, 5, 6] rfl ?_
                      exact ih20_383730 F383726 z383807 (gB_w bz383807 (by decide) (by decide)) hT383727 hs383728 x383729 x383730 (mz_up ez383807 (Int.le_trans bg383725'.2 (by decide)) hm20_383730)
                    · have r383808 : o383804.toInt ≠ 0 := gj_neq hc383805 (show Int32.toInt 0 = 0 by decide)
                      have bo383804' : gB o383804 1 1 := gB_t1 bo383804 r383808
                      refine G_aload 0 dr_cX17_rename_123 rfl ?_
                      refine Gp_get 1 hm383768 he383769 dr_cX17_rename_125 (gk_X15 D I) (Nat.le_of_ble_eq_true rfl) wr_9_182 rfl ?_
                      refine G_iload_n 5 dr_cX17_rename_128 rfl ?_
                      refine G_icmp_ne 138 dr_cX17_rename_129 (by decide +kernel) (fun hc383809 => ?_) (fun hc383809 => ?_)
                      · have r383810 : p383771.toInt ≠ p359233.toInt := gC_ne hc383809
                        obtain ⟨z383811, hz383811⟩ : ∃ z : Int32, z = g383725 + Int32.ofInt 1 := ⟨_, rfl⟩
                        have ez383811 : z383811.toInt = g383725.toInt + 1 := gI_inc hz383811 (by decide) bg383725' (by decide) (by decide)
                        have bz383811 : gB z383811 1 1000001 := ⟨by omega, by omega⟩
                        refine G_iinc (L' := [(5, .int z383811), (6, .ref q382890), (4, .ref q382880), (3, .int g382820), (0, .ref q359232), (1, .int p359233), (2, .int p359234)]) z383811 1 dr_cX17_rename_138 rfl hz383811.symm (Nat.le_of_ble_eq_true rfl) rfl ?_
                        refine G_goto 20 dr_cX17_rename_141 (by decide +kernel) ?_
                        refine G_lv (L' := [(5, .int z383811), (4, .ref q382880), (3, .int g382820), (0, .ref q359232), (1, .int p359233), (2, .int p359234)]) [0, 2, 3, 4, 5, 6] rfl ?_
                        exact ih20_383730 F383726 z383811 (gB_w bz383811 (by decide) (by decide)) hT383727 hs383728 x383729 x383730 (mz_up ez383811 (Int.le_trans bg383725'.2 (by decide)) hm20_383730)
                      · have r383812 : p383771.toInt = p359233.toInt := gC_eq hc383809
                        refine G_aload 0 dr_cX17_rename_132 rfl ?_
                        refine G_iload_n 6 dr_cX17_rename_134 rfl ?_
                        refine Gp_put 1 hm383768 he383769 dr_cX17_rename_135 (gk_X15 D I) (Nat.le_of_ble_eq_true rfl) wr_9_182 rfl rfl rfl (Nat.le_of_ble_eq_true rfl) (fun F383813 e383814 n383815 => ?_)
                        have he383816 : F383813 q359232 = .inr (18, [.ref q382831, .ref q382832, .int p382833, .int p382834]) := (n383815 q359232 (rn_oo he383733 he383769 (by decide))).trans he383733
                        have he383817 : F383813 q382831 = .inr (4, [.int p382861, .ref q382863, .int p382862]) := (n383815 q382831 (rn_oo he383734 he383769 (by decide))).trans he383734
                        have he383818 : F383813 q382863 = .inl (I (.object "java/lang/Object"), n382877, .inr (.inr (.inr (.inr f382878)))) := (n383815 q382863 (rn_ao he383735 he383769)).trans he383735
                        have he383819 : F383813 q382880 = .inr (17, [.ref q382889, .ref q382890, .int p382891, .int p382892]) := (n383815 q382880 (rn_oo he383736 he383769 (by decide))).trans he383736
                        have he383820 : F383813 q382889 = .inr (4, [.int p383740, .ref q383742, .int p383741]) := (n383815 q382889 (rn_oo he383739 he383769 (by decide))).trans he383739
                        have he383821 : F383813 q382890 = .inr (20, [.int p383770, .int p359234, .int p383772, .int p383773, .int p383774, .int p383775, .int p383776]) := e383814
                        have hs383822 : rStr γ [1] F359231 F383813 := rStr_pu2 hs383728 n383815 ht382895 (by decide)
                        have fk383823 : rFk [1] γ F359231 F383813 := rFk_put x383730 n383815 ht382895 (by decide)
                        obtain ⟨z383824, hz383824⟩ : ∃ z : Int32, z = g383725 + Int32.ofInt 1 := ⟨_, rfl⟩
                        have ez383824 : z383824.toInt = g383725.toInt + 1 := gI_inc hz383824 (by decide) bg383725' (by decide) (by decide)
                        have bz383824 : gB z383824 1 1000001 := ⟨by omega, by omega⟩
                        refine G_iinc (L' := [(5, .int z383824), (6, .ref q382890), (4, .ref q382880), (3, .int g382820), (0, .ref q359232), (1, .int p359233), (2, .int p359234)]) z383824 1 dr_cX17_rename_138 rfl hz383824.symm (Nat.le_of_ble_eq_true rfl) rfl ?_
                        refine G_goto 20 dr_cX17_rename_141 (by decide +kernel) ?_
                        have hT383825 : RS D I P359230 F383813 γ el := RS_set hT383727 n383815 ht382895 (by decide) ⟨p383770, p359234, p383772, p383773, p383774, p383775, p383776, he383821, bp383770, bp359234, bp383774, bp383775, bp383776, r383777, r383778, r383779, r383780⟩
                        refine G_lv (L' := [(5, .int z383824), (4, .ref q382880), (3, .int g382820), (0, .ref q359232), (1, .int p359233), (2, .int p359234)]) [0, 2, 3, 4, 5, 6] rfl ?_
                        exact ih20_383730 F383813 z383824 (gB_w bz383824 (by decide) (by decide)) hT383825 hs383822 (fun N hv hu hp => rPl_put hT383727 htq359232 rfl (x383729 N hv hu hp) n383815 hp383764 nb383767 hL383765 (fun _ _ _ _ z => z) (rNx_ren he383769 he383821 hu hv (Or.inl rfl) (Or.inl rfl) (Or.inr ⟨rfl, by first | assumption | omega⟩) (by rw [← hp383764]; exact x383729 N hv hu hp _ nb383767 _ hL383765))) fk383823 (mz_up ez383824 (Int.le_trans bg383725'.2 (by decide)) hm20_383730)
                  · have r383827 : o383795.toInt ≠ 0 := gj_neq hc383797 (show Int32.toInt 0 = 0 by decide)
                    have bo383795' : gB o383795 1 1 := gB_t1 bo383795 r383827
                    refine G_aload 0 dr_cX17_rename_100 rfl ?_
                    refine Gp_get 3 hm383768 he383769 dr_cX17_rename_102 (gk_X15 D I) (Nat.le_of_ble_eq_true rfl) wr_9_190 rfl ?_
                    refine G_iload_n 5 dr_cX17_rename_105 rfl ?_
                    refine G_icmp_ne 115 dr_cX17_rename_106 (by decide +kernel) (fun hc383828 => ?_) (fun hc383828 => ?_)
                    · have r383829 : p383773.toInt ≠ p359233.toInt := gC_ne hc383828
                      refine G_aload 0 dr_cX17_rename_115 rfl ?_
                      refine Gw_callV (As := []) (gV_ok D I) (cp_1654_Row_sets l hl0 D I P359230 F383726 q382890 p383770 p383771 p383772 p383773 p383774 p383775 p383776 hm383768 he383769 bp383770 bp383771 bp383774 bp383775 bp383776) dr_cX17_rename_117 ⟨wr_10_181, wr_1_39, wr_10_184, by decide, rfl, (Nat.le_of_ble_eq_true rfl), (Nat.le_of_ble_eq_true rfl)⟩ wr_10_182 wr_10_183 hm383768 he383769 rfl (show 0 + 0 ≤ 0 by first | omega | decide) (show 0 + 0 ≤ 0 by first | omega | decide) (Nat.le_of_ble_eq_true rfl) (fun r383833 w383834 dc383830 ds383831 hp383832 => ?_) (fun _ _ _ _ _ z => z.elim)
                      obtain ⟨o383835, rfl, rfl, hdc, hds, bo383835⟩ := hp383832
                      change G _ _ _ _ _ _ _ (.int o383835 :: _) _ _ _
                      refine G_widen (cs' := 0) (sl' := 0) (by omega) (by omega) ?_
                      refine G_if_eq 138 dr_cX17_rename_120 (by decide +kernel) (fun hc383836 => ?_) (fun hc383836 => ?_)
                      · have r383837 : o383835.toInt = 0 := gj_eq hc383836 (show Int32.toInt 0 = 0 by decide)
                        have bo383835' : gB o383835 0 0 := gB_t0 r383837
                        obtain ⟨z383838, hz383838⟩ : ∃ z : Int32, z = g383725 + Int32.ofInt 1 := ⟨_, rfl⟩
                        have ez383838 : z383838.toInt = g383725.toInt + 1 := gI_inc hz383838 (by decide) bg383725' (by decide) (by decide)
                        have bz383838 : gB z383838 1 1000001 := ⟨by omega, by omega⟩
                        refine G_iinc (L' := [(5, .int z383838), (6, .ref q382890), (4, .ref q382880), (3, .int g382820), (0, .ref q359232), (1, .int p359233), (2, .int p359234)]) z383838 1 dr_cX17_rename_138 rfl hz383838.symm (Nat.le_of_ble_eq_true rfl) rfl ?_
                        refine G_goto 20 dr_cX17_rename_141 (by decide +kernel) ?_
                        refine G_lv (L' := [(5, .int z383838), (4, .ref q382880), (3, .int g382820), (0, .ref q359232), (1, .int p359233), (2, .int p359234)]) [0, 2, 3, 4, 5, 6] rfl ?_
                        exact ih20_383730 F383726 z383838 (gB_w bz383838 (by decide) (by decide)) hT383727 hs383728 x383729 x383730 (mz_up ez383838 (Int.le_trans bg383725'.2 (by decide)) hm20_383730)
                      · have r383839 : o383835.toInt ≠ 0 := gj_neq hc383836 (show Int32.toInt 0 = 0 by decide)
                        have bo383835' : gB o383835 1 1 := gB_t1 bo383835 r383839
                        refine G_aload 0 dr_cX17_rename_123 rfl ?_
                        refine Gp_get 1 hm383768 he383769 dr_cX17_rename_125 (gk_X15 D I) (Nat.le_of_ble_eq_true rfl) wr_9_182 rfl ?_
                        refine G_iload_n 5 dr_cX17_rename_128 rfl ?_
                        refine G_icmp_ne 138 dr_cX17_rename_129 (by decide +kernel) (fun hc383840 => ?_) (fun hc383840 => ?_)
                        · have r383841 : p383771.toInt ≠ p359233.toInt := gC_ne hc383840
                          obtain ⟨z383842, hz383842⟩ : ∃ z : Int32, z = g383725 + Int32.ofInt 1 := ⟨_, rfl⟩
                          have ez383842 : z383842.toInt = g383725.toInt + 1 := gI_inc hz383842 (by decide) bg383725' (by decide) (by decide)
                          have bz383842 : gB z383842 1 1000001 := ⟨by omega, by omega⟩
                          refine G_iinc (L' := [(5, .int z383842), (6, .ref q382890), (4, .ref q382880), (3, .int g382820), (0, .ref q359232), (1, .int p359233), (2, .int p359234)]) z383842 1 dr_cX17_rename_138 rfl hz383842.symm (Nat.le_of_ble_eq_true rfl) rfl ?_
                          refine G_goto 20 dr_cX17_rename_141 (by decide +kernel) ?_
                          refine G_lv (L' := [(5, .int z383842), (4, .ref q382880), (3, .int g382820), (0, .ref q359232), (1, .int p359233), (2, .int p359234)]) [0, 2, 3, 4, 5, 6] rfl ?_
                          exact ih20_383730 F383726 z383842 (gB_w bz383842 (by decide) (by decide)) hT383727 hs383728 x383729 x383730 (mz_up ez383842 (Int.le_trans bg383725'.2 (by decide)) hm20_383730)
                        · have r383843 : p383771.toInt = p359233.toInt := gC_eq hc383840
                          refine G_aload 0 dr_cX17_rename_132 rfl ?_
                          refine G_iload_n 6 dr_cX17_rename_134 rfl ?_
                          refine Gp_put 1 hm383768 he383769 dr_cX17_rename_135 (gk_X15 D I) (Nat.le_of_ble_eq_true rfl) wr_9_182 rfl rfl rfl (Nat.le_of_ble_eq_true rfl) (fun F383844 e383845 n383846 => ?_)
                          have he383847 : F383844 q359232 = .inr (18, [.ref q382831, .ref q382832, .int p382833, .int p382834]) := (n383846 q359232 (rn_oo he383733 he383769 (by decide))).trans he383733
                          have he383848 : F383844 q382831 = .inr (4, [.int p382861, .ref q382863, .int p382862]) := (n383846 q382831 (rn_oo he383734 he383769 (by decide))).trans he383734
                          have he383849 : F383844 q382863 = .inl (I (.object "java/lang/Object"), n382877, .inr (.inr (.inr (.inr f382878)))) := (n383846 q382863 (rn_ao he383735 he383769)).trans he383735
                          have he383850 : F383844 q382880 = .inr (17, [.ref q382889, .ref q382890, .int p382891, .int p382892]) := (n383846 q382880 (rn_oo he383736 he383769 (by decide))).trans he383736
                          have he383851 : F383844 q382889 = .inr (4, [.int p383740, .ref q383742, .int p383741]) := (n383846 q382889 (rn_oo he383739 he383769 (by decide))).trans he383739
                          have he383852 : F383844 q382890 = .inr (20, [.int p383770, .int p359234, .int p383772, .int p383773, .int p383774, .int p383775, .int p383776]) := e383845
                          have hs383853 : rStr γ [1] F359231 F383844 := rStr_pu2 hs383728 n383846 ht382895 (by decide)
                          have fk383854 : rFk [1] γ F359231 F383844 := rFk_put x383730 n383846 ht382895 (by decide)
                          obtain ⟨z383855, hz383855⟩ : ∃ z : Int32, z = g383725 + Int32.ofInt 1 := ⟨_, rfl⟩
                          have ez383855 : z383855.toInt = g383725.toInt + 1 := gI_inc hz383855 (by decide) bg383725' (by decide) (by decide)
                          have bz383855 : gB z383855 1 1000001 := ⟨by omega, by omega⟩
                          refine G_iinc (L' := [(5, .int z383855), (6, .ref q382890), (4, .ref q382880), (3, .int g382820), (0, .ref q359232), (1, .int p359233), (2, .int p359234)]) z383855 1 dr_cX17_rename_138 rfl hz383855.symm (Nat.le_of_ble_eq_true rfl) rfl ?_
                          refine G_goto 20 dr_cX17_rename_141 (by decide +kernel) ?_
                          have hT383856 : RS D I P359230 F383844 γ el := RS_set hT383727 n383846 ht382895 (by decide) ⟨p383770, p359234, p383772, p383773, p383774, p383775, p383776, he383852, bp383770, bp359234, bp383774, bp383775, bp383776, r383777, r383778, r383779, r383780⟩
                          refine G_lv (L' := [(5, .int z383855), (4, .ref q382880), (3, .int g382820), (0, .ref q359232), (1, .int p359233), (2, .int p359234)]) [0, 2, 3, 4, 5, 6] rfl ?_
                          exact ih20_383730 F383844 z383855 (gB_w bz383855 (by decide) (by decide)) hT383856 hs383853 (fun N hv hu hp => rPl_put hT383727 htq359232 rfl (x383729 N hv hu hp) n383846 hp383764 nb383767 hL383765 (fun _ _ _ _ z => z) (rNx_ren he383769 he383852 hu hv (Or.inl rfl) (Or.inl rfl) (Or.inr ⟨rfl, by first | assumption | omega⟩) (by rw [← hp383764]; exact x383729 N hv hu hp _ nb383767 _ hL383765))) fk383854 (mz_up ez383855 (Int.le_trans bg383725'.2 (by decide)) hm20_383730)
                    · have r383858 : p383773.toInt = p359233.toInt := gC_eq hc383828
                      have bp383773' : gB p383773 0 1999 := ⟨by omega, by omega⟩
                      refine G_aload 0 dr_cX17_rename_109 rfl ?_
                      refine G_iload_n 6 dr_cX17_rename_111 rfl ?_
                      refine Gp_put 3 hm383768 he383769 dr_cX17_rename_112 (gk_X15 D I) (Nat.le_of_ble_eq_true rfl) wr_9_190 rfl rfl rfl (Nat.le_of_ble_eq_true rfl) (fun F383859 e383860 n383861 => ?_)
                      have he383862 : F383859 q359232 = .inr (18, [.ref q382831, .ref q382832, .int p382833, .int p382834]) := (n383861 q359232 (rn_oo he383733 he383769 (by decide))).trans he383733
                      have he383863 : F383859 q382831 = .inr (4, [.int p382861, .ref q382863, .int p382862]) := (n383861 q382831 (rn_oo he383734 he383769 (by decide))).trans he383734
                      have he383864 : F383859 q382863 = .inl (I (.object "java/lang/Object"), n382877, .inr (.inr (.inr (.inr f382878)))) := (n383861 q382863 (rn_ao he383735 he383769)).trans he383735
                      have he383865 : F383859 q382880 = .inr (17, [.ref q382889, .ref q382890, .int p382891, .int p382892]) := (n383861 q382880 (rn_oo he383736 he383769 (by decide))).trans he383736
                      have he383866 : F383859 q382889 = .inr (4, [.int p383740, .ref q383742, .int p383741]) := (n383861 q382889 (rn_oo he383739 he383769 (by decide))).trans he383739
                      have he383867 : F383859 q382890 = .inr (20, [.int p383770, .int p383771, .int p383772, .int p359234, .int p383774, .int p383775, .int p383776]) := e383860
                      have hs383868 : rStr γ [1] F359231 F383859 := rStr_pu2 hs383728 n383861 ht382895 (by decide)
                      have fk383869 : rFk [1] γ F359231 F383859 := rFk_put x383730 n383861 ht382895 (by decide)
                      refine G_aload 0 dr_cX17_rename_115 rfl ?_
                      have hT383870 : RS D I P359230 F383859 γ el := RS_set hT383727 n383861 ht382895 (by decide) ⟨p383770, p383771, p383772, p359234, p383774, p383775, p383776, he383867, bp383770, bp383771, bp383774, bp383775, bp383776, r383777, r383778, (Or.inr bp359234), r383780⟩
                      refine Gw_callV (As := []) (gV_ok D I) (cp_1654_Row_sets l hl0 D I P359230 F383859 q382890 p383770 p383771 p383772 p359234 p383774 p383775 p383776 hm383768 he383867 bp383770 bp383771 bp383774 bp383775 bp383776) dr_cX17_rename_117 ⟨wr_10_181, wr_1_39, wr_10_184, by decide, rfl, (Nat.le_of_ble_eq_true rfl), (Nat.le_of_ble_eq_true rfl)⟩ wr_10_182 wr_10_183 hm383768 he383867 rfl (show 0 + 0 ≤ 0 by first | omega | decide) (show 0 + 0 ≤ 0 by first | omega | decide) (Nat.le_of_ble_eq_true rfl) (fun r383875 w383876 dc383872 ds383873 hp383874 => ?_) (fun _ _ _ _ _ z => z.elim)
                      obtain ⟨o383877, rfl, rfl, hdc, hds, bo383877⟩ := hp383874
                      change G _ _ _ _ _ _ _ (.int o383877 :: _) _ _ _
                      refine G_widen (cs' := 0) (sl' := 0) (by omega) (by omega) ?_
                      refine G_if_eq 138 dr_cX17_rename_120 (by decide +kernel) (fun hc383878 => ?_) (fun hc383878 => ?_)
                      · have r383879 : o383877.toInt = 0 := gj_eq hc383878 (show Int32.toInt 0 = 0 by decide)
                        have bo383877' : gB o383877 0 0 := gB_t0 r383879
                        obtain ⟨z383880, hz383880⟩ : ∃ z : Int32, z = g383725 + Int32.ofInt 1 := ⟨_, rfl⟩
                        have ez383880 : z383880.toInt = g383725.toInt + 1 := gI_inc hz383880 (by decide) bg383725' (by decide) (by decide)
                        have bz383880 : gB z383880 1 1000001 := ⟨by omega, by omega⟩
                        refine G_iinc (L' := [(5, .int z383880), (6, .ref q382890), (4, .ref q382880), (3, .int g382820), (0, .ref q359232), (1, .int p359233), (2, .int p359234)]) z383880 1 dr_cX17_rename_138 rfl hz383880.symm (Nat.le_of_ble_eq_true rfl) rfl ?_
                        refine G_goto 20 dr_cX17_rename_141 (by decide +kernel) ?_
                        refine G_lv (L' := [(5, .int z383880), (4, .ref q382880), (3, .int g382820), (0, .ref q359232), (1, .int p359233), (2, .int p359234)]) [0, 2, 3, 4, 5, 6] rfl ?_
                        exact ih20_383730 F383859 z383880 (gB_w bz383880 (by decide) (by decide)) hT383870 hs383868 (fun N hv hu hp => rPl_put hT383727 htq359232 rfl (x383729 N hv hu hp) n383861 hp383764 nb383767 hL383765 (fun _ _ _ _ z => z) (rNx_ren he383769 he383867 hu hv (Or.inl rfl) (Or.inr rfl) (Or.inl rfl) (by rw [← hp383764]; exact x383729 N hv hu hp _ nb383767 _ hL383765))) fk383869 (mz_up ez383880 (Int.le_trans bg383725'.2 (by decide)) hm20_383730)
                      · have r383881 : o383877.toInt ≠ 0 := gj_neq hc383878 (show Int32.toInt 0 = 0 by decide)
                        have bo383877' : gB o383877 1 1 := gB_t1 bo383877 r383881
                        refine G_aload 0 dr_cX17_rename_123 rfl ?_
                        refine Gp_get 1 hm383768 he383867 dr_cX17_rename_125 (gk_X15 D I) (Nat.le_of_ble_eq_true rfl) wr_9_182 rfl ?_
                        refine G_iload_n 5 dr_cX17_rename_128 rfl ?_
                        refine G_icmp_ne 138 dr_cX17_rename_129 (by decide +kernel) (fun hc383882 => ?_) (fun hc383882 => ?_)
                        · have r383883 : p383771.toInt ≠ p359233.toInt := gC_ne hc383882
                          obtain ⟨z383884, hz383884⟩ : ∃ z : Int32, z = g383725 + Int32.ofInt 1 := ⟨_, rfl⟩
                          have ez383884 : z383884.toInt = g383725.toInt + 1 := gI_inc hz383884 (by decide) bg383725' (by decide) (by decide)
                          have bz383884 : gB z383884 1 1000001 := ⟨by omega, by omega⟩
                          refine G_iinc (L' := [(5, .int z383884), (6, .ref q382890), (4, .ref q382880), (3, .int g382820), (0, .ref q359232), (1, .int p359233), (2, .int p359234)]) z383884 1 dr_cX17_rename_138 rfl hz383884.symm (Nat.le_of_ble_eq_true rfl) rfl ?_
                          refine G_goto 20 dr_cX17_rename_141 (by decide +kernel) ?_
                          refine G_lv (L' := [(5, .int z383884), (4, .ref q382880), (3, .int g382820), (0, .ref q359232), (1, .int p359233), (2, .int p359234)]) [0, 2, 3, 4, 5, 6] rfl ?_
                          exact ih20_383730 F383859 z383884 (gB_w bz383884 (by decide) (by decide)) hT383870 hs383868 (fun N hv hu hp => rPl_put hT383727 htq359232 rfl (x383729 N hv hu hp) n383861 hp383764 nb383767 hL383765 (fun _ _ _ _ z => z) (rNx_ren he383769 he383867 hu hv (Or.inl rfl) (Or.inr rfl) (Or.inl rfl) (by rw [← hp383764]; exact x383729 N hv hu hp _ nb383767 _ hL383765))) fk383869 (mz_up ez383884 (Int.le_trans bg383725'.2 (by decide)) hm20_383730)
                        · have r383885 : p383771.toInt = p359233.toInt := gC_eq hc383882
                          refine G_aload 0 dr_cX17_rename_132 rfl ?_
                          refine G_iload_n 6 dr_cX17_rename_134 rfl ?_
                          refine Gp_put 1 hm383768 he383867 dr_cX17_rename_135 (gk_X15 D I) (Nat.le_of_ble_eq_true rfl) wr_9_182 rfl rfl rfl (Nat.le_of_ble_eq_true rfl) (fun F383886 e383887 n383888 => ?_)
                          have he383889 : F383886 q359232 = .inr (18, [.ref q382831, .ref q382832, .int p382833, .int p382834]) := (n383888 q359232 (rn_oo he383862 he383867 (by decide))).trans he383862
                          have he383890 : F383886 q382831 = .inr (4, [.int p382861, .ref q382863, .int p382862]) := (n383888 q382831 (rn_oo he383863 he383867 (by decide))).trans he383863
                          have he383891 : F383886 q382863 = .inl (I (.object "java/lang/Object"), n382877, .inr (.inr (.inr (.inr f382878)))) := (n383888 q382863 (rn_ao he383864 he383867)).trans he383864
                          have he383892 : F383886 q382880 = .inr (17, [.ref q382889, .ref q382890, .int p382891, .int p382892]) := (n383888 q382880 (rn_oo he383865 he383867 (by decide))).trans he383865
                          have he383893 : F383886 q382889 = .inr (4, [.int p383740, .ref q383742, .int p383741]) := (n383888 q382889 (rn_oo he383866 he383867 (by decide))).trans he383866
                          have he383894 : F383886 q382890 = .inr (20, [.int p383770, .int p359234, .int p383772, .int p359234, .int p383774, .int p383775, .int p383776]) := e383887
                          have hs383895 : rStr γ [1] F359231 F383886 := rStr_pu2 hs383868 n383888 ht382895 (by decide)
                          have fk383896 : rFk [1] γ F359231 F383886 := rFk_put fk383869 n383888 ht382895 (by decide)
                          obtain ⟨z383897, hz383897⟩ : ∃ z : Int32, z = g383725 + Int32.ofInt 1 := ⟨_, rfl⟩
                          have ez383897 : z383897.toInt = g383725.toInt + 1 := gI_inc hz383897 (by decide) bg383725' (by decide) (by decide)
                          have bz383897 : gB z383897 1 1000001 := ⟨by omega, by omega⟩
                          refine G_iinc (L' := [(5, .int z383897), (6, .ref q382890), (4, .ref q382880), (3, .int g382820), (0, .ref q359232), (1, .int p359233), (2, .int p359234)]) z383897 1 dr_cX17_rename_138 rfl hz383897.symm (Nat.le_of_ble_eq_true rfl) rfl ?_
                          refine G_goto 20 dr_cX17_rename_141 (by decide +kernel) ?_
                          have hT383898 : RS D I P359230 F383886 γ el := RS_set hT383870 n383888 ht382895 (by decide) ⟨p383770, p359234, p383772, p359234, p383774, p383775, p383776, he383894, bp383770, bp359234, bp383774, bp383775, bp383776, r383777, r383778, (Or.inr bp359234), r383780⟩
                          have of383899 : ∀ b, b ≠ q382890 → F383886 b = F383726 b := fun b hb => (n383888 b hb).trans (n383861 b hb)
                          refine G_lv (L' := [(5, .int z383897), (4, .ref q382880), (3, .int g382820), (0, .ref q359232), (1, .int p359233), (2, .int p359234)]) [0, 2, 3, 4, 5, 6] rfl ?_
                          exact ih20_383730 F383886 z383897 (gB_w bz383897 (by decide) (by decide)) hT383898 hs383895 (fun N hv hu hp => rPl_put hT383727 htq359232 rfl (x383729 N hv hu hp) of383899 hp383764 nb383767 hL383765 (fun _ _ _ _ z => z) (rNx_ren he383769 he383894 hu hv (Or.inl rfl) (Or.inr rfl) (Or.inr ⟨rfl, by first | assumption | omega⟩) (by rw [← hp383764]; exact x383729 N hv hu hp _ nb383767 _ hL383765))) fk383896 (mz_up ez383897 (Int.le_trans bg383725'.2 (by decide)) hm20_383730)
                · have r383900 : o383786.toInt ≠ 0 := gj_neq hc383788 (show Int32.toInt 0 = 0 by decide)
                  have bo383786' : gB o383786 1 1 := gB_t1 bo383786 r383900
                  refine G_aload 0 dr_cX17_rename_77 rfl ?_
                  refine Gp_get 2 hm383768 he383769 dr_cX17_rename_79 (gk_X15 D I) (Nat.le_of_ble_eq_true rfl) wr_9_186 rfl ?_
                  refine G_iload_n 5 dr_cX17_rename_82 rfl ?_
                  refine G_icmp_ne 92 dr_cX17_rename_83 (by decide +kernel) (fun hc383901 => ?_) (fun hc383901 => ?_)
                  · have r383902 : p383772.toInt ≠ p359233.toInt := gC_ne hc383901
                    refine G_aload 0 dr_cX17_rename_92 rfl ?_
                    refine Gw_callV (As := []) (gV_ok D I) (cp_1693_Row_usesB l hl0 D I P359230 F383726 q382890 p383770 p383771 p383772 p383773 p383774 p383775 p383776 hm383768 he383769 bp383770 bp383771 bp383774 bp383775 bp383776) dr_cX17_rename_94 ⟨wr_10_196, wr_1_39, wr_10_199, by decide, rfl, (Nat.le_of_ble_eq_true rfl), (Nat.le_of_ble_eq_true rfl)⟩ wr_10_197 wr_10_198 hm383768 he383769 rfl (show 0 + 0 ≤ 0 by first | omega | decide) (show 0 + 0 ≤ 0 by first | omega | decide) (Nat.le_of_ble_eq_true rfl) (fun r383906 w383907 dc383903 ds383904 hp383905 => ?_) (fun _ _ _ _ _ z => z.elim)
                    obtain ⟨o383908, rfl, rfl, hdc, hds, bo383908, x383909⟩ := hp383905
                    change G _ _ _ _ _ _ _ (.int o383908 :: _) _ _ _
                    refine G_widen (cs' := 0) (sl' := 0) (by omega) (by omega) ?_
                    refine G_if_eq 115 dr_cX17_rename_97 (by decide +kernel) (fun hc383910 => ?_) (fun hc383910 => ?_)
                    · have r383911 : o383908.toInt = 0 := gj_eq hc383910 (show Int32.toInt 0 = 0 by decide)
                      have bo383908' : gB o383908 0 0 := gB_t0 r383911
                      refine G_aload 0 dr_cX17_rename_115 rfl ?_
                      refine Gw_callV (As := []) (gV_ok D I) (cp_1654_Row_sets l hl0 D I P359230 F383726 q382890 p383770 p383771 p383772 p383773 p383774 p383775 p383776 hm383768 he383769 bp383770 bp383771 bp383774 bp383775 bp383776) dr_cX17_rename_117 ⟨wr_10_181, wr_1_39, wr_10_184, by decide, rfl, (Nat.le_of_ble_eq_true rfl), (Nat.le_of_ble_eq_true rfl)⟩ wr_10_182 wr_10_183 hm383768 he383769 rfl (show 0 + 0 ≤ 0 by first | omega | decide) (show 0 + 0 ≤ 0 by first | omega | decide) (Nat.le_of_ble_eq_true rfl) (fun r383915 w383916 dc383912 ds383913 hp383914 => ?_) (fun _ _ _ _ _ z => z.elim)
                      obtain ⟨o383917, rfl, rfl, hdc, hds, bo383917⟩ := hp383914
                      change G _ _ _ _ _ _ _ (.int o383917 :: _) _ _ _
                      refine G_widen (cs' := 0) (sl' := 0) (by omega) (by omega) ?_
                      refine G_if_eq 138 dr_cX17_rename_120 (by decide +kernel) (fun hc383918 => ?_) (fun hc383918 => ?_)
                      · have r383919 : o383917.toInt = 0 := gj_eq hc383918 (show Int32.toInt 0 = 0 by decide)
                        have bo383917' : gB o383917 0 0 := gB_t0 r383919
                        obtain ⟨z383920, hz383920⟩ : ∃ z : Int32, z = g383725 + Int32.ofInt 1 := ⟨_, rfl⟩
                        have ez383920 : z383920.toInt = g383725.toInt + 1 := gI_inc hz383920 (by decide) bg383725' (by decide) (by decide)
                        have bz383920 : gB z383920 1 1000001 := ⟨by omega, by omega⟩
                        refine G_iinc (L' := [(5, .int z383920), (6, .ref q382890), (4, .ref q382880), (3, .int g382820), (0, .ref q359232), (1, .int p359233), (2, .int p359234)]) z383920 1 dr_cX17_rename_138 rfl hz383920.symm (Nat.le_of_ble_eq_true rfl) rfl ?_
                        refine G_goto 20 dr_cX17_rename_141 (by decide +kernel) ?_
                        refine G_lv (L' := [(5, .int z383920), (4, .ref q382880), (3, .int g382820), (0, .ref q359232), (1, .int p359233), (2, .int p359234)]) [0, 2, 3, 4, 5, 6] rfl ?_
                        exact ih20_383730 F383726 z383920 (gB_w bz383920 (by decide) (by decide)) hT383727 hs383728 x383729 x383730 (mz_up ez383920 (Int.le_trans bg383725'.2 (by decide)) hm20_383730)
                      · have r383921 : o383917.toInt ≠ 0 := gj_neq hc383918 (show Int32.toInt 0 = 0 by decide)
                        have bo383917' : gB o383917 1 1 := gB_t1 bo383917 r383921
                        refine G_aload 0 dr_cX17_rename_123 rfl ?_
                        refine Gp_get 1 hm383768 he383769 dr_cX17_rename_125 (gk_X15 D I) (Nat.le_of_ble_eq_true rfl) wr_9_182 rfl ?_
                        refine G_iload_n 5 dr_cX17_rename_128 rfl ?_
                        refine G_icmp_ne 138 dr_cX17_rename_129 (by decide +kernel) (fun hc383922 => ?_) (fun hc383922 => ?_)
                        · have r383923 : p383771.toInt ≠ p359233.toInt := gC_ne hc383922
                          obtain ⟨z383924, hz383924⟩ : ∃ z : Int32, z = g383725 + Int32.ofInt 1 := ⟨_, rfl⟩
                          have ez383924 : z383924.toInt = g383725.toInt + 1 := gI_inc hz383924 (by decide) bg383725' (by decide) (by decide)
                          have bz383924 : gB z383924 1 1000001 := ⟨by omega, by omega⟩
                          refine G_iinc (L' := [(5, .int z383924), (6, .ref q382890), (4, .ref q382880), (3, .int g382820), (0, .ref q359232), (1, .int p359233), (2, .int p359234)]) z383924 1 dr_cX17_rename_138 rfl hz383924.symm (Nat.le_of_ble_eq_true rfl) rfl ?_
                          refine G_goto 20 dr_cX17_rename_141 (by decide +kernel) ?_
                          refine G_lv (L' := [(5, .int z383924), (4, .ref q382880), (3, .int g382820), (0, .ref q359232), (1, .int p359233), (2, .int p359234)]) [0, 2, 3, 4, 5, 6] rfl ?_
                          exact ih20_383730 F383726 z383924 (gB_w bz383924 (by decide) (by decide)) hT383727 hs383728 x383729 x383730 (mz_up ez383924 (Int.le_trans bg383725'.2 (by decide)) hm20_383730)
                        · have r383925 : p383771.toInt = p359233.toInt := gC_eq hc383922
                          refine G_aload 0 dr_cX17_rename_132 rfl ?_
                          refine G_iload_n 6 dr_cX17_rename_134 rfl ?_
                          refine Gp_put 1 hm383768 he383769 dr_cX17_rename_135 (gk_X15 D I) (Nat.le_of_ble_eq_true rfl) wr_9_182 rfl rfl rfl (Nat.le_of_ble_eq_true rfl) (fun F383926 e383927 n383928 => ?_)
                          have he383929 : F383926 q359232 = .inr (18, [.ref q382831, .ref q382832, .int p382833, .int p382834]) := (n383928 q359232 (rn_oo he383733 he383769 (by decide))).trans he383733
                          have he383930 : F383926 q382831 = .inr (4, [.int p382861, .ref q382863, .int p382862]) := (n383928 q382831 (rn_oo he383734 he383769 (by decide))).trans he383734
                          have he383931 : F383926 q382863 = .inl (I (.object "java/lang/Object"), n382877, .inr (.inr (.inr (.inr f382878)))) := (n383928 q382863 (rn_ao he383735 he383769)).trans he383735
                          have he383932 : F383926 q382880 = .inr (17, [.ref q382889, .ref q382890, .int p382891, .int p382892]) := (n383928 q382880 (rn_oo he383736 he383769 (by decide))).trans he383736
                          have he383933 : F383926 q382889 = .inr (4, [.int p383740, .ref q383742, .int p383741]) := (n383928 q382889 (rn_oo he383739 he383769 (by decide))).trans he383739
                          have he383934 : F383926 q382890 = .inr (20, [.int p383770, .int p359234, .int p383772, .int p383773, .int p383774, .int p383775, .int p383776]) := e383927
                          have hs383935 : rStr γ [1] F359231 F383926 := rStr_pu2 hs383728 n383928 ht382895 (by decide)
                          have fk383936 : rFk [1] γ F359231 F383926 := rFk_put x383730 n383928 ht382895 (by decide)
                          obtain ⟨z383937, hz383937⟩ : ∃ z : Int32, z = g383725 + Int32.ofInt 1 := ⟨_, rfl⟩
                          have ez383937 : z383937.toInt = g383725.toInt + 1 := gI_inc hz383937 (by decide) bg383725' (by decide) (by decide)
                          have bz383937 : gB z383937 1 1000001 := ⟨by omega, by omega⟩
                          refine G_iinc (L' := [(5, .int z383937), (6, .ref q382890), (4, .ref q382880), (3, .int g382820), (0, .ref q359232), (1, .int p359233), (2, .int p359234)]) z383937 1 dr_cX17_rename_138 rfl hz383937.symm (Nat.le_of_ble_eq_true rfl) rfl ?_
                          refine G_goto 20 dr_cX17_rename_141 (by decide +kernel) ?_
                          have hT383938 : RS D I P359230 F383926 γ el := RS_set hT383727 n383928 ht382895 (by decide) ⟨p383770, p359234, p383772, p383773, p383774, p383775, p383776, he383934, bp383770, bp359234, bp383774, bp383775, bp383776, r383777, r383778, r383779, r383780⟩
                          refine G_lv (L' := [(5, .int z383937), (4, .ref q382880), (3, .int g382820), (0, .ref q359232), (1, .int p359233), (2, .int p359234)]) [0, 2, 3, 4, 5, 6] rfl ?_
                          exact ih20_383730 F383926 z383937 (gB_w bz383937 (by decide) (by decide)) hT383938 hs383935 (fun N hv hu hp => rPl_put hT383727 htq359232 rfl (x383729 N hv hu hp) n383928 hp383764 nb383767 hL383765 (fun _ _ _ _ z => z) (rNx_ren he383769 he383934 hu hv (Or.inl rfl) (Or.inl rfl) (Or.inr ⟨rfl, by first | assumption | omega⟩) (by rw [← hp383764]; exact x383729 N hv hu hp _ nb383767 _ hL383765))) fk383936 (mz_up ez383937 (Int.le_trans bg383725'.2 (by decide)) hm20_383730)
                    · have r383940 : o383908.toInt ≠ 0 := gj_neq hc383910 (show Int32.toInt 0 = 0 by decide)
                      have bo383908' : gB o383908 1 1 := gB_t1 bo383908 r383940
                      refine G_aload 0 dr_cX17_rename_100 rfl ?_
                      refine Gp_get 3 hm383768 he383769 dr_cX17_rename_102 (gk_X15 D I) (Nat.le_of_ble_eq_true rfl) wr_9_190 rfl ?_
                      refine G_iload_n 5 dr_cX17_rename_105 rfl ?_
                      refine G_icmp_ne 115 dr_cX17_rename_106 (by decide +kernel) (fun hc383941 => ?_) (fun hc383941 => ?_)
                      · have r383942 : p383773.toInt ≠ p359233.toInt := gC_ne hc383941
                        refine G_aload 0 dr_cX17_rename_115 rfl ?_
                        refine Gw_callV (As := []) (gV_ok D I) (cp_1654_Row_sets l hl0 D I P359230 F383726 q382890 p383770 p383771 p383772 p383773 p383774 p383775 p383776 hm383768 he383769 bp383770 bp383771 bp383774 bp383775 bp383776) dr_cX17_rename_117 ⟨wr_10_181, wr_1_39, wr_10_184, by decide, rfl, (Nat.le_of_ble_eq_true rfl), (Nat.le_of_ble_eq_true rfl)⟩ wr_10_182 wr_10_183 hm383768 he383769 rfl (show 0 + 0 ≤ 0 by first | omega | decide) (show 0 + 0 ≤ 0 by first | omega | decide) (Nat.le_of_ble_eq_true rfl) (fun r383946 w383947 dc383943 ds383944 hp383945 => ?_) (fun _ _ _ _ _ z => z.elim)
                        obtain ⟨o383948, rfl, rfl, hdc, hds, bo383948⟩ := hp383945
                        change G _ _ _ _ _ _ _ (.int o383948 :: _) _ _ _
                        refine G_widen (cs' := 0) (sl' := 0) (by omega) (by omega) ?_
                        refine G_if_eq 138 dr_cX17_rename_120 (by decide +kernel) (fun hc383949 => ?_) (fun hc383949 => ?_)
                        · have r383950 : o383948.toInt = 0 := gj_eq hc383949 (show Int32.toInt 0 = 0 by decide)
                          have bo383948' : gB o383948 0 0 := gB_t0 r383950
                          obtain ⟨z383951, hz383951⟩ : ∃ z : Int32, z = g383725 + Int32.ofInt 1 := ⟨_, rfl⟩
                          have ez383951 : z383951.toInt = g383725.toInt + 1 := gI_inc hz383951 (by decide) bg383725' (by decide) (by decide)
                          have bz383951 : gB z383951 1 1000001 := ⟨by omega, by omega⟩
                          refine G_iinc (L' := [(5, .int z383951), (6, .ref q382890), (4, .ref q382880), (3, .int g382820), (0, .ref q359232), (1, .int p359233), (2, .int p359234)]) z383951 1 dr_cX17_rename_138 rfl hz383951.symm (Nat.le_of_ble_eq_true rfl) rfl ?_
                          refine G_goto 20 dr_cX17_rename_141 (by decide +kernel) ?_
                          refine G_lv (L' := [(5, .int z383951), (4, .ref q382880), (3, .int g382820), (0, .ref q359232), (1, .int p359233), (2, .int p359234)]) [0, 2, 3, 4, 5, 6] rfl ?_
                          exact ih20_383730 F383726 z383951 (gB_w bz383951 (by decide) (by decide)) hT383727 hs383728 x383729 x383730 (mz_up ez383951 (Int.le_trans bg383725'.2 (by decide)) hm20_383730)
                        · have r383952 : o383948.toInt ≠ 0 := gj_neq hc383949 (show Int32.toInt 0 = 0 by decide)
                          have bo383948' : gB o383948 1 1 := gB_t1 bo383948 r383952
                          refine G_aload 0 dr_cX17_rename_123 rfl ?_
                          refine Gp_get 1 hm383768 he383769 dr_cX17_rename_125 (gk_X15 D I) (Nat.le_of_ble_eq_true rfl) wr_9_182 rfl ?_
                          refine G_iload_n 5 dr_cX17_rename_128 rfl ?_
                          refine G_icmp_ne 138 dr_cX17_rename_129 (by decide +kernel) (fun hc383953 => ?_) (fun hc383953 => ?_)
                          · have r383954 : p383771.toInt ≠ p359233.toInt := gC_ne hc383953
                            obtain ⟨z383955, hz383955⟩ : ∃ z : Int32, z = g383725 + Int32.ofInt 1 := ⟨_, rfl⟩
                            have ez383955 : z383955.toInt = g383725.toInt + 1 := gI_inc hz383955 (by decide) bg383725' (by decide) (by decide)
                            have bz383955 : gB z383955 1 1000001 := ⟨by omega, by omega⟩
                            refine G_iinc (L' := [(5, .int z383955), (6, .ref q382890), (4, .ref q382880), (3, .int g382820), (0, .ref q359232), (1, .int p359233), (2, .int p359234)]) z383955 1 dr_cX17_rename_138 rfl hz383955.symm (Nat.le_of_ble_eq_true rfl) rfl ?_
                            refine G_goto 20 dr_cX17_rename_141 (by decide +kernel) ?_
                            refine G_lv (L' := [(5, .int z383955), (4, .ref q382880), (3, .int g382820), (0, .ref q359232), (1, .int p359233), (2, .int p359234)]) [0, 2, 3, 4, 5, 6] rfl ?_
                            exact ih20_383730 F383726 z383955 (gB_w bz383955 (by decide) (by decide)) hT383727 hs383728 x383729 x383730 (mz_up ez383955 (Int.le_trans bg383725'.2 (by decide)) hm20_383730)
                          · have r383956 : p383771.toInt = p359233.toInt := gC_eq hc383953
                            refine G_aload 0 dr_cX17_rename_132 rfl ?_
                            refine G_iload_n 6 dr_cX17_rename_134 rfl ?_
                            refine Gp_put 1 hm383768 he383769 dr_cX17_rename_135 (gk_X15 D I) (Nat.le_of_ble_eq_true rfl) wr_9_182 rfl rfl rfl (Nat.le_of_ble_eq_true rfl) (fun F383957 e383958 n383959 => ?_)
                            have he383960 : F383957 q359232 = .inr (18, [.ref q382831, .ref q382832, .int p382833, .int p382834]) := (n383959 q359232 (rn_oo he383733 he383769 (by decide))).trans he383733
                            have he383961 : F383957 q382831 = .inr (4, [.int p382861, .ref q382863, .int p382862]) := (n383959 q382831 (rn_oo he383734 he383769 (by decide))).trans he383734
                            have he383962 : F383957 q382863 = .inl (I (.object "java/lang/Object"), n382877, .inr (.inr (.inr (.inr f382878)))) := (n383959 q382863 (rn_ao he383735 he383769)).trans he383735
                            have he383963 : F383957 q382880 = .inr (17, [.ref q382889, .ref q382890, .int p382891, .int p382892]) := (n383959 q382880 (rn_oo he383736 he383769 (by decide))).trans he383736
                            have he383964 : F383957 q382889 = .inr (4, [.int p383740, .ref q383742, .int p383741]) := (n383959 q382889 (rn_oo he383739 he383769 (by decide))).trans he383739
                            have he383965 : F383957 q382890 = .inr (20, [.int p383770, .int p359234, .int p383772, .int p383773, .int p383774, .int p383775, .int p383776]) := e383958
                            have hs383966 : rStr γ [1] F359231 F383957 := rStr_pu2 hs383728 n383959 ht382895 (by decide)
                            have fk383967 : rFk [1] γ F359231 F383957 := rFk_put x383730 n383959 ht382895 (by decide)
                            obtain ⟨z383968, hz383968⟩ : ∃ z : Int32, z = g383725 + Int32.ofInt 1 := ⟨_, rfl⟩
                            have ez383968 : z383968.toInt = g383725.toInt + 1 := gI_inc hz383968 (by decide) bg383725' (by decide) (by decide)
                            have bz383968 : gB z383968 1 1000001 := ⟨by omega, by omega⟩
                            refine G_iinc (L' := [(5, .int z383968), (6, .ref q382890), (4, .ref q382880), (3, .int g382820), (0, .ref q359232), (1, .int p359233), (2, .int p359234)]) z383968 1 dr_cX17_rename_138 rfl hz383968.symm (Nat.le_of_ble_eq_true rfl) rfl ?_
                            refine G_goto 20 dr_cX17_rename_141 (by decide +kernel) ?_
                            have hT383969 : RS D I P359230 F383957 γ el := RS_set hT383727 n383959 ht382895 (by decide) ⟨p383770, p359234, p383772, p383773, p383774, p383775, p383776, he383965, bp383770, bp359234, bp383774, bp383775, bp383776, r383777, r383778, r383779, r383780⟩
                            refine G_lv (L' := [(5, .int z383968), (4, .ref q382880), (3, .int g382820), (0, .ref q359232), (1, .int p359233), (2, .int p359234)]) [0, 2, 3, 4, 5, 6] rfl ?_
                            exact ih20_383730 F383957 z383968 (gB_w bz383968 (by decide) (by decide)) hT383969 hs383966 (fun N hv hu hp => rPl_put hT383727 htq359232 rfl (x383729 N hv hu hp) n383959 hp383764 nb383767 hL383765 (fun _ _ _ _ z => z) (rNx_ren he383769 he383965 hu hv (Or.inl rfl) (Or.inl rfl) (Or.inr ⟨rfl, by first | assumption | omega⟩) (by rw [← hp383764]; exact x383729 N hv hu hp _ nb383767 _ hL383765))) fk383967 (mz_up ez383968 (Int.le_trans bg383725'.2 (by decide)) hm20_383730)
                      · have r383971 : p383773.toInt = p359233.toInt := gC_eq hc383941
                        have bp383773' : gB p383773 0 1999 := ⟨by omega, by omega⟩
                        refine G_aload 0 dr_cX17_rename_109 rfl ?_
                        refine G_iload_n 6 dr_cX17_rename_111 rfl ?_
                        refine Gp_put 3 hm383768 he383769 dr_cX17_rename_112 (gk_X15 D I) (Nat.le_of_ble_eq_true rfl) wr_9_190 rfl rfl rfl (Nat.le_of_ble_eq_true rfl) (fun F383972 e383973 n383974 => ?_)
                        have he383975 : F383972 q359232 = .inr (18, [.ref q382831, .ref q382832, .int p382833, .int p382834]) := (n383974 q359232 (rn_oo he383733 he383769 (by decide))).trans he383733
                        have he383976 : F383972 q382831 = .inr (4, [.int p382861, .ref q382863, .int p382862]) := (n383974 q382831 (rn_oo he383734 he383769 (by decide))).trans he383734
                        have he383977 : F383972 q382863 = .inl (I (.object "java/lang/Object"), n382877, .inr (.inr (.inr (.inr f382878)))) := (n383974 q382863 (rn_ao he383735 he383769)).trans he383735
                        have he383978 : F383972 q382880 = .inr (17, [.ref q382889, .ref q382890, .int p382891, .int p382892]) := (n383974 q382880 (rn_oo he383736 he383769 (by decide))).trans he383736
                        have he383979 : F383972 q382889 = .inr (4, [.int p383740, .ref q383742, .int p383741]) := (n383974 q382889 (rn_oo he383739 he383769 (by decide))).trans he383739
                        have he383980 : F383972 q382890 = .inr (20, [.int p383770, .int p383771, .int p383772, .int p359234, .int p383774, .int p383775, .int p383776]) := e383973
                        have hs383981 : rStr γ [1] F359231 F383972 := rStr_pu2 hs383728 n383974 ht382895 (by decide)
                        have fk383982 : rFk [1] γ F359231 F383972 := rFk_put x383730 n383974 ht382895 (by decide)
                        refine G_aload 0 dr_cX17_rename_115 rfl ?_
                        have hT383983 : RS D I P359230 F383972 γ el := RS_set hT383727 n383974 ht382895 (by decide) ⟨p383770, p383771, p383772, p359234, p383774, p383775, p383776, he383980, bp383770, bp383771, bp383774, bp383775, bp383776, r383777, r383778, (Or.inr bp359234), r383780⟩
                        refine Gw_callV (As := []) (gV_ok D I) (cp_1654_Row_sets l hl0 D I P359230 F383972 q382890 p383770 p383771 p383772 p359234 p383774 p383775 p383776 hm383768 he383980 bp383770 bp383771 bp383774 bp383775 bp383776) dr_cX17_rename_117 ⟨wr_10_181, wr_1_39, wr_10_184, by decide, rfl, (Nat.le_of_ble_eq_true rfl), (Nat.le_of_ble_eq_true rfl)⟩ wr_10_182 wr_10_183 hm383768 he383980 rfl (show 0 + 0 ≤ 0 by first | omega | decide) (show 0 + 0 ≤ 0 by first | omega | decide) (Nat.le_of_ble_eq_true rfl) (fun r383988 w383989 dc383985 ds383986 hp383987 => ?_) (fun _ _ _ _ _ z => z.elim)
                        obtain ⟨o383990, rfl, rfl, hdc, hds, bo383990⟩ := hp383987
                        change G _ _ _ _ _ _ _ (.int o383990 :: _) _ _ _
                        refine G_widen (cs' := 0) (sl' := 0) (by omega) (by omega) ?_
                        refine G_if_eq 138 dr_cX17_rename_120 (by decide +kernel) (fun hc383991 => ?_) (fun hc383991 => ?_)
                        · have r383992 : o383990.toInt = 0 := gj_eq hc383991 (show Int32.toInt 0 = 0 by decide)
                          have bo383990' : gB o383990 0 0 := gB_t0 r383992
                          obtain ⟨z383993, hz383993⟩ : ∃ z : Int32, z = g383725 + Int32.ofInt 1 := ⟨_, rfl⟩
                          have ez383993 : z383993.toInt = g383725.toInt + 1 := gI_inc hz383993 (by decide) bg383725' (by decide) (by decide)
                          have bz383993 : gB z383993 1 1000001 := ⟨by omega, by omega⟩
                          refine G_iinc (L' := [(5, .int z383993), (6, .ref q382890), (4, .ref q382880), (3, .int g382820), (0, .ref q359232), (1, .int p359233), (2, .int p359234)]) z383993 1 dr_cX17_rename_138 rfl hz383993.symm (Nat.le_of_ble_eq_true rfl) rfl ?_
                          refine G_goto 20 dr_cX17_rename_141 (by decide +kernel) ?_
                          refine G_lv (L' := [(5, .int z383993), (4, .ref q382880), (3, .int g382820), (0, .ref q359232), (1, .int p359233), (2, .int p359234)]) [0, 2, 3, 4, 5, 6] rfl ?_
                          exact ih20_383730 F383972 z383993 (gB_w bz383993 (by decide) (by decide)) hT383983 hs383981 (fun N hv hu hp => rPl_put hT383727 htq359232 rfl (x383729 N hv hu hp) n383974 hp383764 nb383767 hL383765 (fun _ _ _ _ z => z) (rNx_ren he383769 he383980 hu hv (Or.inl rfl) (Or.inr rfl) (Or.inl rfl) (by rw [← hp383764]; exact x383729 N hv hu hp _ nb383767 _ hL383765))) fk383982 (mz_up ez383993 (Int.le_trans bg383725'.2 (by decide)) hm20_383730)
                        · have r383994 : o383990.toInt ≠ 0 := gj_neq hc383991 (show Int32.toInt 0 = 0 by decide)
                          have bo383990' : gB o383990 1 1 := gB_t1 bo383990 r383994
                          refine G_aload 0 dr_cX17_rename_123 rfl ?_
                          refine Gp_get 1 hm383768 he383980 dr_cX17_rename_125 (gk_X15 D I) (Nat.le_of_ble_eq_true rfl) wr_9_182 rfl ?_
                          refine G_iload_n 5 dr_cX17_rename_128 rfl ?_
                          refine G_icmp_ne 138 dr_cX17_rename_129 (by decide +kernel) (fun hc383995 => ?_) (fun hc383995 => ?_)
                          · have r383996 : p383771.toInt ≠ p359233.toInt := gC_ne hc383995
                            obtain ⟨z383997, hz383997⟩ : ∃ z : Int32, z = g383725 + Int32.ofInt 1 := ⟨_, rfl⟩
                            have ez383997 : z383997.toInt = g383725.toInt + 1 := gI_inc hz383997 (by decide) bg383725' (by decide) (by decide)
                            have bz383997 : gB z383997 1 1000001 := ⟨by omega, by omega⟩
                            refine G_iinc (L' := [(5, .int z383997), (6, .ref q382890), (4, .ref q382880), (3, .int g382820), (0, .ref q359232), (1, .int p359233), (2, .int p359234)]) z383997 1 dr_cX17_rename_138 rfl hz383997.symm (Nat.le_of_ble_eq_true rfl) rfl ?_
                            refine G_goto 20 dr_cX17_rename_141 (by decide +kernel) ?_
                            refine G_lv (L' := [(5, .int z383997), (4, .ref q382880), (3, .int g382820), (0, .ref q359232), (1, .int p359233), (2, .int p359234)]) [0, 2, 3, 4, 5, 6] rfl ?_
                            exact ih20_383730 F383972 z383997 (gB_w bz383997 (by decide) (by decide)) hT383983 hs383981 (fun N hv hu hp => rPl_put hT383727 htq359232 rfl (x383729 N hv hu hp) n383974 hp383764 nb383767 hL383765 (fun _ _ _ _ z => z) (rNx_ren he383769 he383980 hu hv (Or.inl rfl) (Or.inr rfl) (Or.inl rfl) (by rw [← hp383764]; exact x383729 N hv hu hp _ nb383767 _ hL383765))) fk383982 (mz_up ez383997 (Int.le_trans bg383725'.2 (by decide)) hm20_383730)
                          · have r383998 : p383771.toInt = p359233.toInt := gC_eq hc383995
                            refine G_aload 0 dr_cX17_rename_132 rfl ?_
                            refine G_iload_n 6 dr_cX17_rename_134 rfl ?_
                            refine Gp_put 1 hm383768 he383980 dr_cX17_rename_135 (gk_X15 D I) (Nat.le_of_ble_eq_true rfl) wr_9_182 rfl rfl rfl (Nat.le_of_ble_eq_true rfl) (fun F383999 e384000 n384001 => ?_)
                            have he384002 : F383999 q359232 = .inr (18, [.ref q382831, .ref q382832, .int p382833, .int p382834]) := (n384001 q359232 (rn_oo he383975 he383980 (by decide))).trans he383975
                            have he384003 : F383999 q382831 = .inr (4, [.int p382861, .ref q382863, .int p382862]) := (n384001 q382831 (rn_oo he383976 he383980 (by decide))).trans he383976
                            have he384004 : F383999 q382863 = .inl (I (.object "java/lang/Object"), n382877, .inr (.inr (.inr (.inr f382878)))) := (n384001 q382863 (rn_ao he383977 he383980)).trans he383977
                            have he384005 : F383999 q382880 = .inr (17, [.ref q382889, .ref q382890, .int p382891, .int p382892]) := (n384001 q382880 (rn_oo he383978 he383980 (by decide))).trans he383978
                            have he384006 : F383999 q382889 = .inr (4, [.int p383740, .ref q383742, .int p383741]) := (n384001 q382889 (rn_oo he383979 he383980 (by decide))).trans he383979
                            have he384007 : F383999 q382890 = .inr (20, [.int p383770, .int p359234, .int p383772, .int p359234, .int p383774, .int p383775, .int p383776]) := e384000
                            have hs384008 : rStr γ [1] F359231 F383999 := rStr_pu2 hs383981 n384001 ht382895 (by decide)
                            have fk384009 : rFk [1] γ F359231 F383999 := rFk_put fk383982 n384001 ht382895 (by decide)
                            obtain ⟨z384010, hz384010⟩ : ∃ z : Int32, z = g383725 + Int32.ofInt 1 := ⟨_, rfl⟩
                            have ez384010 : z384010.toInt = g383725.toInt + 1 := gI_inc hz384010 (by decide) bg383725' (by decide) (by decide)
                            have bz384010 : gB z384010 1 1000001 := ⟨by omega, by omega⟩
                            refine G_iinc (L' := [(5, .int z384010), (6, .ref q382890), (4, .ref q382880), (3, .int g382820), (0, .ref q359232), (1, .int p359233), (2, .int p359234)]) z384010 1 dr_cX17_rename_138 rfl hz384010.symm (Nat.le_of_ble_eq_true rfl) rfl ?_
                            refine G_goto 20 dr_cX17_rename_141 (by decide +kernel) ?_
                            have hT384011 : RS D I P359230 F383999 γ el := RS_set hT383983 n384001 ht382895 (by decide) ⟨p383770, p359234, p383772, p359234, p383774, p383775, p383776, he384007, bp383770, bp359234, bp383774, bp383775, bp383776, r383777, r383778, (Or.inr bp359234), r383780⟩
                            have of384012 : ∀ b, b ≠ q382890 → F383999 b = F383726 b := fun b hb => (n384001 b hb).trans (n383974 b hb)
                            refine G_lv (L' := [(5, .int z384010), (4, .ref q382880), (3, .int g382820), (0, .ref q359232), (1, .int p359233), (2, .int p359234)]) [0, 2, 3, 4, 5, 6] rfl ?_
                            exact ih20_383730 F383999 z384010 (gB_w bz384010 (by decide) (by decide)) hT384011 hs384008 (fun N hv hu hp => rPl_put hT383727 htq359232 rfl (x383729 N hv hu hp) of384012 hp383764 nb383767 hL383765 (fun _ _ _ _ z => z) (rNx_ren he383769 he384007 hu hv (Or.inl rfl) (Or.inr rfl) (Or.inr ⟨rfl, by first | assumption | omega⟩) (by rw [← hp383764]; exact x383729 N hv hu hp _ nb383767 _ hL383765))) fk384009 (mz_up ez384010 (Int.le_trans bg383725'.2 (by decide)) hm20_383730)
                  · have r384013 : p383772.toInt = p359233.toInt := gC_eq hc383901
                    have bp383772' : gB p383772 0 1999 := ⟨by omega, by omega⟩
                    refine G_aload 0 dr_cX17_rename_86 rfl ?_
                    refine G_iload_n 6 dr_cX17_rename_88 rfl ?_
                    refine Gp_put 2 hm383768 he383769 dr_cX17_rename_89 (gk_X15 D I) (Nat.le_of_ble_eq_true rfl) wr_9_186 rfl rfl rfl (Nat.le_of_ble_eq_true rfl) (fun F384014 e384015 n384016 => ?_)
                    have he384017 : F384014 q359232 = .inr (18, [.ref q382831, .ref q382832, .int p382833, .int p382834]) := (n384016 q359232 (rn_oo he383733 he383769 (by decide))).trans he383733
                    have he384018 : F384014 q382831 = .inr (4, [.int p382861, .ref q382863, .int p382862]) := (n384016 q382831 (rn_oo he383734 he383769 (by decide))).trans he383734
                    have he384019 : F384014 q382863 = .inl (I (.object "java/lang/Object"), n382877, .inr (.inr (.inr (.inr f382878)))) := (n384016 q382863 (rn_ao he383735 he383769)).trans he383735
                    have he384020 : F384014 q382880 = .inr (17, [.ref q382889, .ref q382890, .int p382891, .int p382892]) := (n384016 q382880 (rn_oo he383736 he383769 (by decide))).trans he383736
                    have he384021 : F384014 q382889 = .inr (4, [.int p383740, .ref q383742, .int p383741]) := (n384016 q382889 (rn_oo he383739 he383769 (by decide))).trans he383739
                    have he384022 : F384014 q382890 = .inr (20, [.int p383770, .int p383771, .int p359234, .int p383773, .int p383774, .int p383775, .int p383776]) := e384015
                    have hs384023 : rStr γ [1] F359231 F384014 := rStr_pu2 hs383728 n384016 ht382895 (by decide)
                    have fk384024 : rFk [1] γ F359231 F384014 := rFk_put x383730 n384016 ht382895 (by decide)
                    refine G_aload 0 dr_cX17_rename_92 rfl ?_
                    have hT384025 : RS D I P359230 F384014 γ el := RS_set hT383727 n384016 ht382895 (by decide) ⟨p383770, p383771, p359234, p383773, p383774, p383775, p383776, he384022, bp383770, bp383771, bp383774, bp383775, bp383776, r383777, (Or.inr bp359234), r383779, r383780⟩
                    refine Gw_callV (As := []) (gV_ok D I) (cp_1693_Row_usesB l hl0 D I P359230 F384014 q382890 p383770 p383771 p359234 p383773 p383774 p383775 p383776 hm383768 he384022 bp383770 bp383771 bp383774 bp383775 bp383776) dr_cX17_rename_94 ⟨wr_10_196, wr_1_39, wr_10_199, by decide, rfl, (Nat.le_of_ble_eq_true rfl), (Nat.le_of_ble_eq_true rfl)⟩ wr_10_197 wr_10_198 hm383768 he384022 rfl (show 0 + 0 ≤ 0 by first | omega | decide) (show 0 + 0 ≤ 0 by first | omega | decide) (Nat.le_of_ble_eq_true rfl) (fun r384030 w384031 dc384027 ds384028 hp384029 => ?_) (fun _ _ _ _ _ z => z.elim)
                    obtain ⟨o384032, rfl, rfl, hdc, hds, bo384032, x384033⟩ := hp384029
                    change G _ _ _ _ _ _ _ (.int o384032 :: _) _ _ _
                    refine G_widen (cs' := 0) (sl' := 0) (by omega) (by omega) ?_
                    refine G_if_eq 115 dr_cX17_rename_97 (by decide +kernel) (fun hc384034 => ?_) (fun hc384034 => ?_)
                    · have r384035 : o384032.toInt = 0 := gj_eq hc384034 (show Int32.toInt 0 = 0 by decide)
                      have bo384032' : gB o384032 0 0 := gB_t0 r384035
                      refine G_aload 0 dr_cX17_rename_115 rfl ?_
                      refine Gw_callV (As := []) (gV_ok D I) (cp_1654_Row_sets l hl0 D I P359230 F384014 q382890 p383770 p383771 p359234 p383773 p383774 p383775 p383776 hm383768 he384022 bp383770 bp383771 bp383774 bp383775 bp383776) dr_cX17_rename_117 ⟨wr_10_181, wr_1_39, wr_10_184, by decide, rfl, (Nat.le_of_ble_eq_true rfl), (Nat.le_of_ble_eq_true rfl)⟩ wr_10_182 wr_10_183 hm383768 he384022 rfl (show 0 + 0 ≤ 0 by first | omega | decide) (show 0 + 0 ≤ 0 by first | omega | decide) (Nat.le_of_ble_eq_true rfl) (fun r384039 w384040 dc384036 ds384037 hp384038 => ?_) (fun _ _ _ _ _ z => z.elim)
                      obtain ⟨o384041, rfl, rfl, hdc, hds, bo384041⟩ := hp384038
                      change G _ _ _ _ _ _ _ (.int o384041 :: _) _ _ _
                      refine G_widen (cs' := 0) (sl' := 0) (by omega) (by omega) ?_
                      refine G_if_eq 138 dr_cX17_rename_120 (by decide +kernel) (fun hc384042 => ?_) (fun hc384042 => ?_)
                      · have r384043 : o384041.toInt = 0 := gj_eq hc384042 (show Int32.toInt 0 = 0 by decide)
                        have bo384041' : gB o384041 0 0 := gB_t0 r384043
                        obtain ⟨z384044, hz384044⟩ : ∃ z : Int32, z = g383725 + Int32.ofInt 1 := ⟨_, rfl⟩
                        have ez384044 : z384044.toInt = g383725.toInt + 1 := gI_inc hz384044 (by decide) bg383725' (by decide) (by decide)
                        have bz384044 : gB z384044 1 1000001 := ⟨by omega, by omega⟩
                        refine G_iinc (L' := [(5, .int z384044), (6, .ref q382890), (4, .ref q382880), (3, .int g382820), (0, .ref q359232), (1, .int p359233), (2, .int p359234)]) z384044 1 dr_cX17_rename_138 rfl hz384044.symm (Nat.le_of_ble_eq_true rfl) rfl ?_
                        refine G_goto 20 dr_cX17_rename_141 (by decide +kernel) ?_
                        refine G_lv (L' := [(5, .int z384044), (4, .ref q382880), (3, .int g382820), (0, .ref q359232), (1, .int p359233), (2, .int p359234)]) [0, 2, 3, 4, 5, 6] rfl ?_
                        exact ih20_383730 F384014 z384044 (gB_w bz384044 (by decide) (by decide)) hT384025 hs384023 (fun N hv hu hp => rPl_put hT383727 htq359232 rfl (x383729 N hv hu hp) n384016 hp383764 nb383767 hL383765 (fun _ _ _ _ z => z) (rNx_ren he383769 he384022 hu hv (Or.inr rfl) (Or.inl rfl) (Or.inl rfl) (by rw [← hp383764]; exact x383729 N hv hu hp _ nb383767 _ hL383765))) fk384024 (mz_up ez384044 (Int.le_trans bg383725'.2 (by decide)) hm20_383730)
                      · have r384045 : o384041.toInt ≠ 0 := gj_neq hc384042 (show Int32.toInt 0 = 0 by decide)
                        have bo384041' : gB o384041 1 1 := gB_t1 bo384041 r384045
                        refine G_aload 0 dr_cX17_rename_123 rfl ?_
                        refine Gp_get 1 hm383768 he384022 dr_cX17_rename_125 (gk_X15 D I) (Nat.le_of_ble_eq_true rfl) wr_9_182 rfl ?_
                        refine G_iload_n 5 dr_cX17_rename_128 rfl ?_
                        refine G_icmp_ne 138 dr_cX17_rename_129 (by decide +kernel) (fun hc384046 => ?_) (fun hc384046 => ?_)
                        · have r384047 : p383771.toInt ≠ p359233.toInt := gC_ne hc384046
                          obtain ⟨z384048, hz384048⟩ : ∃ z : Int32, z = g383725 + Int32.ofInt 1 := ⟨_, rfl⟩
                          have ez384048 : z384048.toInt = g383725.toInt + 1 := gI_inc hz384048 (by decide) bg383725' (by decide) (by decide)
                          have bz384048 : gB z384048 1 1000001 := ⟨by omega, by omega⟩
                          refine G_iinc (L' := [(5, .int z384048), (6, .ref q382890), (4, .ref q382880), (3, .int g382820), (0, .ref q359232), (1, .int p359233), (2, .int p359234)]) z384048 1 dr_cX17_rename_138 rfl hz384048.symm (Nat.le_of_ble_eq_true rfl) rfl ?_
                          refine G_goto 20 dr_cX17_rename_141 (by decide +kernel) ?_
                          refine G_lv (L' := [(5, .int z384048), (4, .ref q382880), (3, .int g382820), (0, .ref q359232), (1, .int p359233), (2, .int p359234)]) [0, 2, 3, 4, 5, 6] rfl ?_
                          exact ih20_383730 F384014 z384048 (gB_w bz384048 (by decide) (by decide)) hT384025 hs384023 (fun N hv hu hp => rPl_put hT383727 htq359232 rfl (x383729 N hv hu hp) n384016 hp383764 nb383767 hL383765 (fun _ _ _ _ z => z) (rNx_ren he383769 he384022 hu hv (Or.inr rfl) (Or.inl rfl) (Or.inl rfl) (by rw [← hp383764]; exact x383729 N hv hu hp _ nb383767 _ hL383765))) fk384024 (mz_up ez384048 (Int.le_trans bg383725'.2 (by decide)) hm20_383730)
                        · have r384049 : p383771.toInt = p359233.toInt := gC_eq hc384046
                          refine G_aload 0 dr_cX17_rename_132 rfl ?_
                          refine G_iload_n 6 dr_cX17_rename_134 rfl ?_
                          refine Gp_put 1 hm383768 he384022 dr_cX17_rename_135 (gk_X15 D I) (Nat.le_of_ble_eq_true rfl) wr_9_182 rfl rfl rfl (Nat.le_of_ble_eq_true rfl) (fun F384050 e384051 n384052 => ?_)
                          have he384053 : F384050 q359232 = .inr (18, [.ref q382831, .ref q382832, .int p382833, .int p382834]) := (n384052 q359232 (rn_oo he384017 he384022 (by decide))).trans he384017
                          have he384054 : F384050 q382831 = .inr (4, [.int p382861, .ref q382863, .int p382862]) := (n384052 q382831 (rn_oo he384018 he384022 (by decide))).trans he384018
                          have he384055 : F384050 q382863 = .inl (I (.object "java/lang/Object"), n382877, .inr (.inr (.inr (.inr f382878)))) := (n384052 q382863 (rn_ao he384019 he384022)).trans he384019
                          have he384056 : F384050 q382880 = .inr (17, [.ref q382889, .ref q382890, .int p382891, .int p382892]) := (n384052 q382880 (rn_oo he384020 he384022 (by decide))).trans he384020
                          have he384057 : F384050 q382889 = .inr (4, [.int p383740, .ref q383742, .int p383741]) := (n384052 q382889 (rn_oo he384021 he384022 (by decide))).trans he384021
                          have he384058 : F384050 q382890 = .inr (20, [.int p383770, .int p359234, .int p359234, .int p383773, .int p383774, .int p383775, .int p383776]) := e384051
                          have hs384059 : rStr γ [1] F359231 F384050 := rStr_pu2 hs384023 n384052 ht382895 (by decide)
                          have fk384060 : rFk [1] γ F359231 F384050 := rFk_put fk384024 n384052 ht382895 (by decide)
                          obtain ⟨z384061, hz384061⟩ : ∃ z : Int32, z = g383725 + Int32.ofInt 1 := ⟨_, rfl⟩
                          have ez384061 : z384061.toInt = g383725.toInt + 1 := gI_inc hz384061 (by decide) bg383725' (by decide) (by decide)
                          have bz384061 : gB z384061 1 1000001 := ⟨by omega, by omega⟩
                          refine G_iinc (L' := [(5, .int z384061), (6, .ref q382890), (4, .ref q382880), (3, .int g382820), (0, .ref q359232), (1, .int p359233), (2, .int p359234)]) z384061 1 dr_cX17_rename_138 rfl hz384061.symm (Nat.le_of_ble_eq_true rfl) rfl ?_
                          refine G_goto 20 dr_cX17_rename_141 (by decide +kernel) ?_
                          have hT384062 : RS D I P359230 F384050 γ el := RS_set hT384025 n384052 ht382895 (by decide) ⟨p383770, p359234, p359234, p383773, p383774, p383775, p383776, he384058, bp383770, bp359234, bp383774, bp383775, bp383776, r383777, (Or.inr bp359234), r383779, r383780⟩
                          have of384063 : ∀ b, b ≠ q382890 → F384050 b = F383726 b := fun b hb => (n384052 b hb).trans (n384016 b hb)
                          refine G_lv (L' := [(5, .int z384061), (4, .ref q382880), (3, .int g382820), (0, .ref q359232), (1, .int p359233), (2, .int p359234)]) [0, 2, 3, 4, 5, 6] rfl ?_
                          exact ih20_383730 F384050 z384061 (gB_w bz384061 (by decide) (by decide)) hT384062 hs384059 (fun N hv hu hp => rPl_put hT383727 htq359232 rfl (x383729 N hv hu hp) of384063 hp383764 nb383767 hL383765 (fun _ _ _ _ z => z) (rNx_ren he383769 he384058 hu hv (Or.inr rfl) (Or.inl rfl) (Or.inr ⟨rfl, by first | assumption | omega⟩) (by rw [← hp383764]; exact x383729 N hv hu hp _ nb383767 _ hL383765))) fk384060 (mz_up ez384061 (Int.le_trans bg383725'.2 (by decide)) hm20_383730)
                    · have r384064 : o384032.toInt ≠ 0 := gj_neq hc384034 (show Int32.toInt 0 = 0 by decide)
                      have bo384032' : gB o384032 1 1 := gB_t1 bo384032 r384064
                      refine G_aload 0 dr_cX17_rename_100 rfl ?_
                      refine Gp_get 3 hm383768 he384022 dr_cX17_rename_102 (gk_X15 D I) (Nat.le_of_ble_eq_true rfl) wr_9_190 rfl ?_
                      refine G_iload_n 5 dr_cX17_rename_105 rfl ?_
                      refine G_icmp_ne 115 dr_cX17_rename_106 (by decide +kernel) (fun hc384065 => ?_) (fun hc384065 => ?_)
                      · have r384066 : p383773.toInt ≠ p359233.toInt := gC_ne hc384065
                        refine G_aload 0 dr_cX17_rename_115 rfl ?_
                        refine Gw_callV (As := []) (gV_ok D I) (cp_1654_Row_sets l hl0 D I P359230 F384014 q382890 p383770 p383771 p359234 p383773 p383774 p383775 p383776 hm383768 he384022 bp383770 bp383771 bp383774 bp383775 bp383776) dr_cX17_rename_117 ⟨wr_10_181, wr_1_39, wr_10_184, by decide, rfl, (Nat.le_of_ble_eq_true rfl), (Nat.le_of_ble_eq_true rfl)⟩ wr_10_182 wr_10_183 hm383768 he384022 rfl (show 0 + 0 ≤ 0 by first | omega | decide) (show 0 + 0 ≤ 0 by first | omega | decide) (Nat.le_of_ble_eq_true rfl) (fun r384070 w384071 dc384067 ds384068 hp384069 => ?_) (fun _ _ _ _ _ z => z.elim)
                        obtain ⟨o384072, rfl, rfl, hdc, hds, bo384072⟩ := hp384069
                        change G _ _ _ _ _ _ _ (.int o384072 :: _) _ _ _
                        refine G_widen (cs' := 0) (sl' := 0) (by omega) (by omega) ?_
                        refine G_if_eq 138 dr_cX17_rename_120 (by decide +kernel) (fun hc384073 => ?_) (fun hc384073 => ?_)
                        · have r384074 : o384072.toInt = 0 := gj_eq hc384073 (show Int32.toInt 0 = 0 by decide)
                          have bo384072' : gB o384072 0 0 := gB_t0 r384074
                          obtain ⟨z384075, hz384075⟩ : ∃ z : Int32, z = g383725 + Int32.ofInt 1 := ⟨_, rfl⟩
                          have ez384075 : z384075.toInt = g383725.toInt + 1 := gI_inc hz384075 (by decide) bg383725' (by decide) (by decide)
                          have bz384075 : gB z384075 1 1000001 := ⟨by omega, by omega⟩
                          refine G_iinc (L' := [(5, .int z384075), (6, .ref q382890), (4, .ref q382880), (3, .int g382820), (0, .ref q359232), (1, .int p359233), (2, .int p359234)]) z384075 1 dr_cX17_rename_138 rfl hz384075.symm (Nat.le_of_ble_eq_true rfl) rfl ?_
                          refine G_goto 20 dr_cX17_rename_141 (by decide +kernel) ?_
                          refine G_lv (L' := [(5, .int z384075), (4, .ref q382880), (3, .int g382820), (0, .ref q359232), (1, .int p359233), (2, .int p359234)]) [0, 2, 3, 4, 5, 6] rfl ?_
                          exact ih20_383730 F384014 z384075 (gB_w bz384075 (by decide) (by decide)) hT384025 hs384023 (fun N hv hu hp => rPl_put hT383727 htq359232 rfl (x383729 N hv hu hp) n384016 hp383764 nb383767 hL383765 (fun _ _ _ _ z => z) (rNx_ren he383769 he384022 hu hv (Or.inr rfl) (Or.inl rfl) (Or.inl rfl) (by rw [← hp383764]; exact x383729 N hv hu hp _ nb383767 _ hL383765))) fk384024 (mz_up ez384075 (Int.le_trans bg383725'.2 (by decide)) hm20_383730)
                        · have r384076 : o384072.toInt ≠ 0 := gj_neq hc384073 (show Int32.toInt 0 = 0 by decide)
                          have bo384072' : gB o384072 1 1 := gB_t1 bo384072 r384076
                          refine G_aload 0 dr_cX17_rename_123 rfl ?_
                          refine Gp_get 1 hm383768 he384022 dr_cX17_rename_125 (gk_X15 D I) (Nat.le_of_ble_eq_true rfl) wr_9_182 rfl ?_
                          refine G_iload_n 5 dr_cX17_rename_128 rfl ?_
                          refine G_icmp_ne 138 dr_cX17_rename_129 (by decide +kernel) (fun hc384077 => ?_) (fun hc384077 => ?_)
                          · have r384078 : p383771.toInt ≠ p359233.toInt := gC_ne hc384077
                            obtain ⟨z384079, hz384079⟩ : ∃ z : Int32, z = g383725 + Int32.ofInt 1 := ⟨_, rfl⟩
                            have ez384079 : z384079.toInt = g383725.toInt + 1 := gI_inc hz384079 (by decide) bg383725' (by decide) (by decide)
                            have bz384079 : gB z384079 1 1000001 := ⟨by omega, by omega⟩
                            refine G_iinc (L' := [(5, .int z384079), (6, .ref q382890), (4, .ref q382880), (3, .int g382820), (0, .ref q359232), (1, .int p359233), (2, .int p359234)]) z384079 1 dr_cX17_rename_138 rfl hz384079.symm (Nat.le_of_ble_eq_true rfl) rfl ?_
                            refine G_goto 20 dr_cX17_rename_141 (by decide +kernel) ?_
                            refine G_lv (L' := [(5, .int z384079), (4, .ref q382880), (3, .int g382820), (0, .ref q359232), (1, .int p359233), (2, .int p359234)]) [0, 2, 3, 4, 5, 6] rfl ?_
                            exact ih20_383730 F384014 z384079 (gB_w bz384079 (by decide) (by decide)) hT384025 hs384023 (fun N hv hu hp => rPl_put hT383727 htq359232 rfl (x383729 N hv hu hp) n384016 hp383764 nb383767 hL383765 (fun _ _ _ _ z => z) (rNx_ren he383769 he384022 hu hv (Or.inr rfl) (Or.inl rfl) (Or.inl rfl) (by rw [← hp383764]; exact x383729 N hv hu hp _ nb383767 _ hL383765))) fk384024 (mz_up ez384079 (Int.le_trans bg383725'.2 (by decide)) hm20_383730)
                          · have r384080 : p383771.toInt = p359233.toInt := gC_eq hc384077
                            refine G_aload 0 dr_cX17_rename_132 rfl ?_
                            refine G_iload_n 6 dr_cX17_rename_134 rfl ?_
                            refine Gp_put 1 hm383768 he384022 dr_cX17_rename_135 (gk_X15 D I) (Nat.le_of_ble_eq_true rfl) wr_9_182 rfl rfl rfl (Nat.le_of_ble_eq_true rfl) (fun F384081 e384082 n384083 => ?_)
                            have he384084 : F384081 q359232 = .inr (18, [.ref q382831, .ref q382832, .int p382833, .int p382834]) := (n384083 q359232 (rn_oo he384017 he384022 (by decide))).trans he384017
                            have he384085 : F384081 q382831 = .inr (4, [.int p382861, .ref q382863, .int p382862]) := (n384083 q382831 (rn_oo he384018 he384022 (by decide))).trans he384018
                            have he384086 : F384081 q382863 = .inl (I (.object "java/lang/Object"), n382877, .inr (.inr (.inr (.inr f382878)))) := (n384083 q382863 (rn_ao he384019 he384022)).trans he384019
                            have he384087 : F384081 q382880 = .inr (17, [.ref q382889, .ref q382890, .int p382891, .int p382892]) := (n384083 q382880 (rn_oo he384020 he384022 (by decide))).trans he384020
                            have he384088 : F384081 q382889 = .inr (4, [.int p383740, .ref q383742, .int p383741]) := (n384083 q382889 (rn_oo he384021 he384022 (by decide))).trans he384021
                            have he384089 : F384081 q382890 = .inr (20, [.int p383770, .int p359234, .int p359234, .int p383773, .int p383774, .int p383775, .int p383776]) := e384082
                            have hs384090 : rStr γ [1] F359231 F384081 := rStr_pu2 hs384023 n384083 ht382895 (by decide)
                            have fk384091 : rFk [1] γ F359231 F384081 := rFk_put fk384024 n384083 ht382895 (by decide)
                            obtain ⟨z384092, hz384092⟩ : ∃ z : Int32, z = g383725 + Int32.ofInt 1 := ⟨_, rfl⟩
                            have ez384092 : z384092.toInt = g383725.toInt + 1 := gI_inc hz384092 (by decide) bg383725' (by decide) (by decide)
                            have bz384092 : gB z384092 1 1000001 := ⟨by omega, by omega⟩
                            refine G_iinc (L' := [(5, .int z384092), (6, .ref q382890), (4, .ref q382880), (3, .int g382820), (0, .ref q359232), (1, .int p359233), (2, .int p359234)]) z384092 1 dr_cX17_rename_138 rfl hz384092.symm (Nat.le_of_ble_eq_true rfl) rfl ?_
                            refine G_goto 20 dr_cX17_rename_141 (by decide +kernel) ?_
                            have hT384093 : RS D I P359230 F384081 γ el := RS_set hT384025 n384083 ht382895 (by decide) ⟨p383770, p359234, p359234, p383773, p383774, p383775, p383776, he384089, bp383770, bp359234, bp383774, bp383775, bp383776, r383777, (Or.inr bp359234), r383779, r383780⟩
                            have of384094 : ∀ b, b ≠ q382890 → F384081 b = F383726 b := fun b hb => (n384083 b hb).trans (n384016 b hb)
                            refine G_lv (L' := [(5, .int z384092), (4, .ref q382880), (3, .int g382820), (0, .ref q359232), (1, .int p359233), (2, .int p359234)]) [0, 2, 3, 4, 5, 6] rfl ?_
                            exact ih20_383730 F384081 z384092 (gB_w bz384092 (by decide) (by decide)) hT384093 hs384090 (fun N hv hu hp => rPl_put hT383727 htq359232 rfl (x383729 N hv hu hp) of384094 hp383764 nb383767 hL383765 (fun _ _ _ _ z => z) (rNx_ren he383769 he384089 hu hv (Or.inr rfl) (Or.inl rfl) (Or.inr ⟨rfl, by first | assumption | omega⟩) (by rw [← hp383764]; exact x383729 N hv hu hp _ nb383767 _ hL383765))) fk384091 (mz_up ez384092 (Int.le_trans bg383725'.2 (by decide)) hm20_383730)
                      · have r384095 : p383773.toInt = p359233.toInt := gC_eq hc384065
                        have bp383773' : gB p383773 0 1999 := ⟨by omega, by omega⟩
                        refine G_aload 0 dr_cX17_rename_109 rfl ?_
                        refine G_iload_n 6 dr_cX17_rename_111 rfl ?_
                        refine Gp_put 3 hm383768 he384022 dr_cX17_rename_112 (gk_X15 D I) (Nat.le_of_ble_eq_true rfl) wr_9_190 rfl rfl rfl (Nat.le_of_ble_eq_true rfl) (fun F384096 e384097 n384098 => ?_)
                        have he384099 : F384096 q359232 = .inr (18, [.ref q382831, .ref q382832, .int p382833, .int p382834]) := (n384098 q359232 (rn_oo he384017 he384022 (by decide))).trans he384017
                        have he384100 : F384096 q382831 = .inr (4, [.int p382861, .ref q382863, .int p382862]) := (n384098 q382831 (rn_oo he384018 he384022 (by decide))).trans he384018
                        have he384101 : F384096 q382863 = .inl (I (.object "java/lang/Object"), n382877, .inr (.inr (.inr (.inr f382878)))) := (n384098 q382863 (rn_ao he384019 he384022)).trans he384019
                        have he384102 : F384096 q382880 = .inr (17, [.ref q382889, .ref q382890, .int p382891, .int p382892]) := (n384098 q382880 (rn_oo he384020 he384022 (by decide))).trans he384020
                        have he384103 : F384096 q382889 = .inr (4, [.int p383740, .ref q383742, .int p383741]) := (n384098 q382889 (rn_oo he384021 he384022 (by decide))).trans he384021
                        have he384104 : F384096 q382890 = .inr (20, [.int p383770, .int p383771, .int p359234, .int p359234, .int p383774, .int p383775, .int p383776]) := e384097
                        have hs384105 : rStr γ [1] F359231 F384096 := rStr_pu2 hs384023 n384098 ht382895 (by decide)
                        have fk384106 : rFk [1] γ F359231 F384096 := rFk_put fk384024 n384098 ht382895 (by decide)
                        refine G_aload 0 dr_cX17_rename_115 rfl ?_
                        have hT384107 : RS D I P359230 F384096 γ el := RS_set hT384025 n384098 ht382895 (by decide) ⟨p383770, p383771, p359234, p359234, p383774, p383775, p383776, he384104, bp383770, bp383771, bp383774, bp383775, bp383776, r383777, (Or.inr bp359234), (Or.inr bp359234), r383780⟩
                        have of384108 : ∀ b, b ≠ q382890 → F384096 b = F383726 b := fun b hb => (n384098 b hb).trans (n384016 b hb)
                        refine Gw_callV (As := []) (gV_ok D I) (cp_1654_Row_sets l hl0 D I P359230 F384096 q382890 p383770 p383771 p359234 p359234 p383774 p383775 p383776 hm383768 he384104 bp383770 bp383771 bp383774 bp383775 bp383776) dr_cX17_rename_117 ⟨wr_10_181, wr_1_39, wr_10_184, by decide, rfl, (Nat.le_of_ble_eq_true rfl), (Nat.le_of_ble_eq_true rfl)⟩ wr_10_182 wr_10_183 hm383768 he384104 rfl (show 0 + 0 ≤ 0 by first | omega | decide) (show 0 + 0 ≤ 0 by first | omega | decide) (Nat.le_of_ble_eq_true rfl) (fun r384112 w384113 dc384109 ds384110 hp384111 => ?_) (fun _ _ _ _ _ z => z.elim)
                        obtain ⟨o384114, rfl, rfl, hdc, hds, bo384114⟩ := hp384111
                        change G _ _ _ _ _ _ _ (.int o384114 :: _) _ _ _
                        refine G_widen (cs' := 0) (sl' := 0) (by omega) (by omega) ?_
                        refine G_if_eq 138 dr_cX17_rename_120 (by decide +kernel) (fun hc384115 => ?_) (fun hc384115 => ?_)
                        · have r384116 : o384114.toInt = 0 := gj_eq hc384115 (show Int32.toInt 0 = 0 by decide)
                          have bo384114' : gB o384114 0 0 := gB_t0 r384116
                          obtain ⟨z384117, hz384117⟩ : ∃ z : Int32, z = g383725 + Int32.ofInt 1 := ⟨_, rfl⟩
                          have ez384117 : z384117.toInt = g383725.toInt + 1 := gI_inc hz384117 (by decide) bg383725' (by decide) (by decide)
                          have bz384117 : gB z384117 1 1000001 := ⟨by omega, by omega⟩
                          refine G_iinc (L' := [(5, .int z384117), (6, .ref q382890), (4, .ref q382880), (3, .int g382820), (0, .ref q359232), (1, .int p359233), (2, .int p359234)]) z384117 1 dr_cX17_rename_138 rfl hz384117.symm (Nat.le_of_ble_eq_true rfl) rfl ?_
                          refine G_goto 20 dr_cX17_rename_141 (by decide +kernel) ?_
                          refine G_lv (L' := [(5, .int z384117), (4, .ref q382880), (3, .int g382820), (0, .ref q359232), (1, .int p359233), (2, .int p359234)]) [0, 2, 3, 4, 5, 6] rfl ?_
                          exact ih20_383730 F384096 z384117 (gB_w bz384117 (by decide) (by decide)) hT384107 hs384105 (fun N hv hu hp => rPl_put hT383727 htq359232 rfl (x383729 N hv hu hp) of384108 hp383764 nb383767 hL383765 (fun _ _ _ _ z => z) (rNx_ren he383769 he384104 hu hv (Or.inr rfl) (Or.inr rfl) (Or.inl rfl) (by rw [← hp383764]; exact x383729 N hv hu hp _ nb383767 _ hL383765))) fk384106 (mz_up ez384117 (Int.le_trans bg383725'.2 (by decide)) hm20_383730)
                        · have r384118 : o384114.toInt ≠ 0 := gj_neq hc384115 (show Int32.toInt 0 = 0 by decide)
                          have bo384114' : gB o384114 1 1 := gB_t1 bo384114 r384118
                          refine G_aload 0 dr_cX17_rename_123 rfl ?_
                          refine Gp_get 1 hm383768 he384104 dr_cX17_rename_125 (gk_X15 D I) (Nat.le_of_ble_eq_true rfl) wr_9_182 rfl ?_
                          refine G_iload_n 5 dr_cX17_rename_128 rfl ?_
                          refine G_icmp_ne 138 dr_cX17_rename_129 (by decide +kernel) (fun hc384119 => ?_) (fun hc384119 => ?_)
                          · have r384120 : p383771.toInt ≠ p359233.toInt := gC_ne hc384119
                            obtain ⟨z384121, hz384121⟩ : ∃ z : Int32, z = g383725 + Int32.ofInt 1 := ⟨_, rfl⟩
                            have ez384121 : z384121.toInt = g383725.toInt + 1 := gI_inc hz384121 (by decide) bg383725' (by decide) (by decide)
                            have bz384121 : gB z384121 1 1000001 := ⟨by omega, by omega⟩
                            refine G_iinc (L' := [(5, .int z384121), (6, .ref q382890), (4, .ref q382880), (3, .int g382820), (0, .ref q359232), (1, .int p359233), (2, .int p359234)]) z384121 1 dr_cX17_rename_138 rfl hz384121.symm (Nat.le_of_ble_eq_true rfl) rfl ?_
                            refine G_goto 20 dr_cX17_rename_141 (by decide +kernel) ?_
                            refine G_lv (L' := [(5, .int z384121), (4, .ref q382880), (3, .int g382820), (0, .ref q359232), (1, .int p359233), (2, .int p359234)]) [0, 2, 3, 4, 5, 6] rfl ?_
                            exact ih20_383730 F384096 z384121 (gB_w bz384121 (by decide) (by decide)) hT384107 hs384105 (fun N hv hu hp => rPl_put hT383727 htq359232 rfl (x383729 N hv hu hp) of384108 hp383764 nb383767 hL383765 (fun _ _ _ _ z => z) (rNx_ren he383769 he384104 hu hv (Or.inr rfl) (Or.inr rfl) (Or.inl rfl) (by rw [← hp383764]; exact x383729 N hv hu hp _ nb383767 _ hL383765))) fk384106 (mz_up ez384121 (Int.le_trans bg383725'.2 (by decide)) hm20_383730)
                          · have r384122 : p383771.toInt = p359233.toInt := gC_eq hc384119
                            refine G_aload 0 dr_cX17_rename_132 rfl ?_
                            refine G_iload_n 6 dr_cX17_rename_134 rfl ?_
                            refine Gp_put 1 hm383768 he384104 dr_cX17_rename_135 (gk_X15 D I) (Nat.le_of_ble_eq_true rfl) wr_9_182 rfl rfl rfl (Nat.le_of_ble_eq_true rfl) (fun F384123 e384124 n384125 => ?_)
                            have he384126 : F384123 q359232 = .inr (18, [.ref q382831, .ref q382832, .int p382833, .int p382834]) := (n384125 q359232 (rn_oo he384099 he384104 (by decide))).trans he384099
                            have he384127 : F384123 q382831 = .inr (4, [.int p382861, .ref q382863, .int p382862]) := (n384125 q382831 (rn_oo he384100 he384104 (by decide))).trans he384100
                            have he384128 : F384123 q382863 = .inl (I (.object "java/lang/Object"), n382877, .inr (.inr (.inr (.inr f382878)))) := (n384125 q382863 (rn_ao he384101 he384104)).trans he384101
                            have he384129 : F384123 q382880 = .inr (17, [.ref q382889, .ref q382890, .int p382891, .int p382892]) := (n384125 q382880 (rn_oo he384102 he384104 (by decide))).trans he384102
                            have he384130 : F384123 q382889 = .inr (4, [.int p383740, .ref q383742, .int p383741]) := (n384125 q382889 (rn_oo he384103 he384104 (by decide))).trans he384103
                            have he384131 : F384123 q382890 = .inr (20, [.int p383770, .int p359234, .int p359234, .int p359234, .int p383774, .int p383775, .int p383776]) := e384124
                            have hs384132 : rStr γ [1] F359231 F384123 := rStr_pu2 hs384105 n384125 ht382895 (by decide)
                            have fk384133 : rFk [1] γ F359231 F384123 := rFk_put fk384106 n384125 ht382895 (by decide)
                            obtain ⟨z384134, hz384134⟩ : ∃ z : Int32, z = g383725 + Int32.ofInt 1 := ⟨_, rfl⟩
                            have ez384134 : z384134.toInt = g383725.toInt + 1 := gI_inc hz384134 (by decide) bg383725' (by decide) (by decide)
                            have bz384134 : gB z384134 1 1000001 := ⟨by omega, by omega⟩
                            refine G_iinc (L' := [(5, .int z384134), (6, .ref q382890), (4, .ref q382880), (3, .int g382820), (0, .ref q359232), (1, .int p359233), (2, .int p359234)]) z384134 1 dr_cX17_rename_138 rfl hz384134.symm (Nat.le_of_ble_eq_true rfl) rfl ?_
                            refine G_goto 20 dr_cX17_rename_141 (by decide +kernel) ?_
                            have hT384135 : RS D I P359230 F384123 γ el := RS_set hT384107 n384125 ht382895 (by decide) ⟨p383770, p359234, p359234, p359234, p383774, p383775, p383776, he384131, bp383770, bp359234, bp383774, bp383775, bp383776, r383777, (Or.inr bp359234), (Or.inr bp359234), r383780⟩
                            have of384136 : ∀ b, b ≠ q382890 → F384123 b = F383726 b := fun b hb => (n384125 b hb).trans (of384108 b hb)
                            refine G_lv (L' := [(5, .int z384134), (4, .ref q382880), (3, .int g382820), (0, .ref q359232), (1, .int p359233), (2, .int p359234)]) [0, 2, 3, 4, 5, 6] rfl ?_
                            exact ih20_383730 F384123 z384134 (gB_w bz384134 (by decide) (by decide)) hT384135 hs384132 (fun N hv hu hp => rPl_put hT383727 htq359232 rfl (x383729 N hv hu hp) of384136 hp383764 nb383767 hL383765 (fun _ _ _ _ z => z) (rNx_ren he383769 he384131 hu hv (Or.inr rfl) (Or.inr rfl) (Or.inr ⟨rfl, by first | assumption | omega⟩) (by rw [← hp383764]; exact x383729 N hv hu hp _ nb383767 _ hL383765))) fk384133 (mz_up ez384134 (Int.le_trans bg383725'.2 (by decide)) hm20_383730)
              · have r384137 : g383725.toInt < p383741.toInt := gC_nle hc383762
                have bg383725'' : gB g383725 0 999999 := ⟨by omega, by omega⟩
                have bp383741' : gB p383741 1 1000000 := ⟨by omega, by omega⟩
                refine G_aload 1 dr_cX17_rename_46 rfl ?_
                refine Gp_get 0 hm382887 he383736 dr_cX17_rename_48 (gk_X12 D I) (Nat.le_of_ble_eq_true rfl) wr_9_220 rfl ?_
                refine G_iload 0 dr_cX17_rename_51 rfl ?_
                obtain ⟨r384138, r384139, n384146, f384147, r384140, r384141, r384142, r384143, r384144, r384145⟩ := rLC_n r383745 (by omega)
                have hm384148 : q383742 ∈ P359230 := RS_m hT383727 r384138 (by decide)
                obtain ⟨q384149, hx384150⟩ : ∃ x, x = el q382889 g383725.toInt.toNat := ⟨_, rfl⟩
                have hx384151 : f384147 g383725.toNatClampNeg = some q384149 := (r384144 _ (show g383725.toInt.toNat < γ 2 q382889 by omega)).trans (by rw [hx384150])
                have ht384152 : rKd γ q384149 1 := by rw [hx384150]; exact (r383746 _ (show g383725.toInt.toNat < γ 2 q382889 by omega)).1
                have ht384153 : rFm γ q384149 q382889 := by rw [hx384150]; exact (r383746 _ (show g383725.toInt.toNat < γ 2 q382889 by omega)).2.1
                refine Gw_callV (As := [.int g383725]) (gV_ok D I) (cp_22_ArrayList_get l hl0 D I P359230 F383726 q382889 q383742 g383725 p383740 p383741 f384147 n384146 q384149 hm383738 hm384148 he383739 r384140 (gB_w bg383725'' (by decide) (by decide)) (gB_w bp383741' (by decide) (by decide)) (by omega) (by omega) (by assumption) (by omega)) dr_cX17_rename_53 ⟨wr_10_201, wr_1_18, wr_10_65, by decide, rfl, (Nat.le_of_ble_eq_true rfl), (Nat.le_of_ble_eq_true rfl)⟩ wr_10_63 wr_10_64 hm383738 he383739 rfl (show 0 + 0 ≤ 0 by first | omega | decide) (show 0 + 0 ≤ 0 by first | omega | decide) (Nat.le_of_ble_eq_true rfl) (fun r384157 w384158 dc384154 ds384155 hp384156 => ?_) (fun _ _ _ _ _ z => z.elim)
                obtain ⟨rfl, rfl, hdc, hds⟩ := hp384156
                change G _ _ _ _ _ _ _ (.ref q384149 :: _) _ _ _
                refine G_widen (cs' := 0) (sl' := 0) (by omega) (by omega) ?_
                have hm384159 : q384149 ∈ P359230 := RS_m hT383727 ht384152 (by decide)
                obtain ⟨p384161, p384162, p384163, p384164, p384165, p384166, p384167, he384160, bp384161, bp384162, bp384165, bp384166, bp384167, r384168, r384169, r384170, r384171⟩ := show rk_1 γ q384149 (F383726 q384149) from RS_o hT383727 ht384152
                have bp384163 := gB_any p384163
                have bp384164 := gB_any p384164
                refine Gp_cast hm384159 he384160 rfl dr_cX17_rename_56 wr_10_202 (gr_cast 1 rfl) ?_
                refine G_goto 67 dr_cX17_rename_59 (by decide +kernel) ?_
                have fl384174 : p383741.toInt = γ 2 q382889 := r383743
                have hp384172 : rAt γ el q359232 (g382820.toInt : Int).toNat (g383725.toInt : Int).toNat = q384149 := (rAt_r hb382907 ht382899.1 (by omega)).trans (by rw [hx384150])
                have hL384173 : (g383725.toInt : Int).toNat ≤ γ 2 (rwL γ el q359232 (g382820.toInt : Int).toNat) := by unfold rwL; rw [hb382907, ht382899.1]; omega
                have nb384175 : (g382820.toInt : Int).toNat < γ 6 (γ 1 q359232) := by omega
                refine G_astore (L' := [(6, .ref q384149), (5, .int g383725), (4, .ref q382880), (3, .int g382820), (0, .ref q359232), (1, .int p359233), (2, .int p359234)]) dr_cX17_rename_67 (Nat.le_of_ble_eq_true rfl) rfl ?_
                refine G_aload 0 dr_cX17_rename_69 rfl ?_
                refine Gw_callV (As := []) (gV_ok D I) (cp_1669_Row_usesA l hl0 D I P359230 F383726 q384149 p384161 p384162 p384163 p384164 p384165 p384166 p384167 hm384159 he384160 bp384161 bp384162 bp384165 bp384166 bp384167) dr_cX17_rename_71 ⟨wr_10_192, wr_1_39, wr_10_195, by decide, rfl, (Nat.le_of_ble_eq_true rfl), (Nat.le_of_ble_eq_true rfl)⟩ wr_10_193 wr_10_194 hm384159 he384160 rfl (show 0 + 0 ≤ 0 by first | omega | decide) (show 0 + 0 ≤ 0 by first | omega | decide) (Nat.le_of_ble_eq_true rfl) (fun r384179 w384180 dc384176 ds384177 hp384178 => ?_) (fun _ _ _ _ _ z => z.elim)
                obtain ⟨o384181, rfl, rfl, hdc, hds, bo384181, x384182⟩ := hp384178
                change G _ _ _ _ _ _ _ (.int o384181 :: _) _ _ _
                refine G_widen (cs' := 0) (sl' := 0) (by omega) (by omega) ?_
                refine G_if_eq 92 dr_cX17_rename_74 (by decide +kernel) (fun hc384183 => ?_) (fun hc384183 => ?_)
                · have r384184 : o384181.toInt = 0 := gj_eq hc384183 (show Int32.toInt 0 = 0 by decide)
                  have bo384181' : gB o384181 0 0 := gB_t0 r384184
                  refine G_aload 0 dr_cX17_rename_92 rfl ?_
                  refine Gw_callV (As := []) (gV_ok D I) (cp_1693_Row_usesB l hl0 D I P359230 F383726 q384149 p384161 p384162 p384163 p384164 p384165 p384166 p384167 hm384159 he384160 bp384161 bp384162 bp384165 bp384166 bp384167) dr_cX17_rename_94 ⟨wr_10_196, wr_1_39, wr_10_199, by decide, rfl, (Nat.le_of_ble_eq_true rfl), (Nat.le_of_ble_eq_true rfl)⟩ wr_10_197 wr_10_198 hm384159 he384160 rfl (show 0 + 0 ≤ 0 by first | omega | decide) (show 0 + 0 ≤ 0 by first | omega | decide) (Nat.le_of_ble_eq_true rfl) (fun r384188 w384189 dc384185 ds384186 hp384187 => ?_) (fun _ _ _ _ _ z => z.elim)
                  obtain ⟨o384190, rfl, rfl, hdc, hds, bo384190, x384191⟩ := hp384187
                  change G _ _ _ _ _ _ _ (.int o384190 :: _) _ _ _
                  refine G_widen (cs' := 0) (sl' := 0) (by omega) (by omega) ?_
                  refine G_if_eq 115 dr_cX17_rename_97 (by decide +kernel) (fun hc384192 => ?_) (fun hc384192 => ?_)
                  · have r384193 : o384190.toInt = 0 := gj_eq hc384192 (show Int32.toInt 0 = 0 by decide)
                    have bo384190' : gB o384190 0 0 := gB_t0 r384193
                    refine G_aload 0 dr_cX17_rename_115 rfl ?_
                    refine Gw_callV (As := []) (gV_ok D I) (cp_1654_Row_sets l hl0 D I P359230 F383726 q384149 p384161 p384162 p384163 p384164 p384165 p384166 p384167 hm384159 he384160 bp384161 bp384162 bp384165 bp384166 bp384167) dr_cX17_rename_117 ⟨wr_10_181, wr_1_39, wr_10_184, by decide, rfl, (Nat.le_of_ble_eq_true rfl), (Nat.le_of_ble_eq_true rfl)⟩ wr_10_182 wr_10_183 hm384159 he384160 rfl (show 0 + 0 ≤ 0 by first | omega | decide) (show 0 + 0 ≤ 0 by first | omega | decide) (Nat.le_of_ble_eq_true rfl) (fun r384197 w384198 dc384194 ds384195 hp384196 => ?_) (fun _ _ _ _ _ z => z.elim)
                    obtain ⟨o384199, rfl, rfl, hdc, hds, bo384199⟩ := hp384196
                    change G _ _ _ _ _ _ _ (.int o384199 :: _) _ _ _
                    refine G_widen (cs' := 0) (sl' := 0) (by omega) (by omega) ?_
                    refine G_if_eq 138 dr_cX17_rename_120 (by decide +kernel) (fun hc384200 => ?_) (fun hc384200 => ?_)
                    · have r384201 : o384199.toInt = 0 := gj_eq hc384200 (show Int32.toInt 0 = 0 by decide)
                      have bo384199' : gB o384199 0 0 := gB_t0 r384201
                      obtain ⟨z384202, hz384202⟩ : ∃ z : Int32, z = g383725 + Int32.ofInt 1 := ⟨_, rfl⟩
                      have ez384202 : z384202.toInt = g383725.toInt + 1 := gI_inc hz384202 (by decide) bg383725'' (by decide) (by decide)
                      have bz384202 : gB z384202 1 1000000 := ⟨by omega, by omega⟩
                      refine G_iinc (L' := [(5, .int z384202), (6, .ref q384149), (4, .ref q382880), (3, .int g382820), (0, .ref q359232), (1, .int p359233), (2, .int p359234)]) z384202 1 dr_cX17_rename_138 rfl hz384202.symm (Nat.le_of_ble_eq_true rfl) rfl ?_
                      refine G_goto 20 dr_cX17_rename_141 (by decide +kernel) ?_
                      refine G_lv (L' := [(5, .int z384202), (4, .ref q382880), (3, .int g382820), (0, .ref q359232), (1, .int p359233), (2, .int p359234)]) [0, 2, 3, 4, 5, 6] rfl ?_
                      exact ih20_383730 F383726 z384202 (gB_w bz384202 (by decide) (by decide)) hT383727 hs383728 x383729 x383730 (mz_up ez384202 (Int.le_trans bg383725''.2 (by decide)) hm20_383730)
                    · have r384203 : o384199.toInt ≠ 0 := gj_neq hc384200 (show Int32.toInt 0 = 0 by decide)
                      have bo384199' : gB o384199 1 1 := gB_t1 bo384199 r384203
                      refine G_aload 0 dr_cX17_rename_123 rfl ?_
                      refine Gp_get 1 hm384159 he384160 dr_cX17_rename_125 (gk_X15 D I) (Nat.le_of_ble_eq_true rfl) wr_9_182 rfl ?_
                      refine G_iload_n 5 dr_cX17_rename_128 rfl ?_
                      refine G_icmp_ne 138 dr_cX17_rename_129 (by decide +kernel) (fun hc384204 => ?_) (fun hc384204 => ?_)
                      · have r384205 : p384162.toInt ≠ p359233.toInt := gC_ne hc384204
                        obtain ⟨z384206, hz384206⟩ : ∃ z : Int32, z = g383725 + Int32.ofInt 1 := ⟨_, rfl⟩
                        have ez384206 : z384206.toInt = g383725.toInt + 1 := gI_inc hz384206 (by decide) bg383725'' (by decide) (by decide)
                        have bz384206 : gB z384206 1 1000000 := ⟨by omega, by omega⟩
                        refine G_iinc (L' := [(5, .int z384206), (6, .ref q384149), (4, .ref q382880), (3, .int g382820), (0, .ref q359232), (1, .int p359233), (2, .int p359234)]) z384206 1 dr_cX17_rename_138 rfl hz384206.symm (Nat.le_of_ble_eq_true rfl) rfl ?_
                        refine G_goto 20 dr_cX17_rename_141 (by decide +kernel) ?_
                        refine G_lv (L' := [(5, .int z384206), (4, .ref q382880), (3, .int g382820), (0, .ref q359232), (1, .int p359233), (2, .int p359234)]) [0, 2, 3, 4, 5, 6] rfl ?_
                        exact ih20_383730 F383726 z384206 (gB_w bz384206 (by decide) (by decide)) hT383727 hs383728 x383729 x383730 (mz_up ez384206 (Int.le_trans bg383725''.2 (by decide)) hm20_383730)
                      · have r384207 : p384162.toInt = p359233.toInt := gC_eq hc384204
                        refine G_aload 0 dr_cX17_rename_132 rfl ?_
                        refine G_iload_n 6 dr_cX17_rename_134 rfl ?_
                        refine Gp_put 1 hm384159 he384160 dr_cX17_rename_135 (gk_X15 D I) (Nat.le_of_ble_eq_true rfl) wr_9_182 rfl rfl rfl (Nat.le_of_ble_eq_true rfl) (fun F384208 e384209 n384210 => ?_)
                        have he384211 : F384208 q359232 = .inr (18, [.ref q382831, .ref q382832, .int p382833, .int p382834]) := (n384210 q359232 (rn_oo he383733 he384160 (by decide))).trans he383733
                        have he384212 : F384208 q382831 = .inr (4, [.int p382861, .ref q382863, .int p382862]) := (n384210 q382831 (rn_oo he383734 he384160 (by decide))).trans he383734
                        have he384213 : F384208 q382863 = .inl (I (.object "java/lang/Object"), n382877, .inr (.inr (.inr (.inr f382878)))) := (n384210 q382863 (rn_ao he383735 he384160)).trans he383735
                        have he384214 : F384208 q382880 = .inr (17, [.ref q382889, .ref q382890, .int p382891, .int p382892]) := (n384210 q382880 (rn_oo he383736 he384160 (by decide))).trans he383736
                        have he384215 : F384208 q382889 = .inr (4, [.int p383740, .ref q383742, .int p383741]) := (n384210 q382889 (rn_oo he383739 he384160 (by decide))).trans he383739
                        have he384216 : F384208 q383742 = .inl (I (.object "java/lang/Object"), n384146, .inr (.inr (.inr (.inr f384147)))) := (n384210 q383742 (rn_ao r384140 he384160)).trans r384140
                        have he384217 : F384208 q384149 = .inr (20, [.int p384161, .int p359234, .int p384163, .int p384164, .int p384165, .int p384166, .int p384167]) := e384209
                        have hs384218 : rStr γ [1] F359231 F384208 := rStr_pu2 hs383728 n384210 ht384152 (by decide)
                        have fk384219 : rFk [1] γ F359231 F384208 := rFk_put x383730 n384210 ht384152 (by decide)
                        obtain ⟨z384220, hz384220⟩ : ∃ z : Int32, z = g383725 + Int32.ofInt 1 := ⟨_, rfl⟩
                        have ez384220 : z384220.toInt = g383725.toInt + 1 := gI_inc hz384220 (by decide) bg383725'' (by decide) (by decide)
                        have bz384220 : gB z384220 1 1000000 := ⟨by omega, by omega⟩
                        refine G_iinc (L' := [(5, .int z384220), (6, .ref q384149), (4, .ref q382880), (3, .int g382820), (0, .ref q359232), (1, .int p359233), (2, .int p359234)]) z384220 1 dr_cX17_rename_138 rfl hz384220.symm (Nat.le_of_ble_eq_true rfl) rfl ?_
                        refine G_goto 20 dr_cX17_rename_141 (by decide +kernel) ?_
                        have hT384221 : RS D I P359230 F384208 γ el := RS_set hT383727 n384210 ht384152 (by decide) ⟨p384161, p359234, p384163, p384164, p384165, p384166, p384167, he384217, bp384161, bp359234, bp384165, bp384166, bp384167, r384168, r384169, r384170, r384171⟩
                        refine G_lv (L' := [(5, .int z384220), (4, .ref q382880), (3, .int g382820), (0, .ref q359232), (1, .int p359233), (2, .int p359234)]) [0, 2, 3, 4, 5, 6] rfl ?_
                        exact ih20_383730 F384208 z384220 (gB_w bz384220 (by decide) (by decide)) hT384221 hs384218 (fun N hv hu hp => rPl_put hT383727 htq359232 rfl (x383729 N hv hu hp) n384210 hp384172 nb384175 hL384173 (fun _ _ _ _ z => z) (rNx_ren he384160 he384217 hu hv (Or.inl rfl) (Or.inl rfl) (Or.inr ⟨rfl, by first | assumption | omega⟩) (by rw [← hp384172]; exact x383729 N hv hu hp _ nb384175 _ hL384173))) fk384219 (mz_up ez384220 (Int.le_trans bg383725''.2 (by decide)) hm20_383730)
                  · have r384223 : o384190.toInt ≠ 0 := gj_neq hc384192 (show Int32.toInt 0 = 0 by decide)
                    have bo384190' : gB o384190 1 1 := gB_t1 bo384190 r384223
                    refine G_aload 0 dr_cX17_rename_100 rfl ?_
                    refine Gp_get 3 hm384159 he384160 dr_cX17_rename_102 (gk_X15 D I) (Nat.le_of_ble_eq_true rfl) wr_9_190 rfl ?_
                    refine G_iload_n 5 dr_cX17_rename_105 rfl ?_
                    refine G_icmp_ne 115 dr_cX17_rename_106 (by decide +kernel) (fun hc384224 => ?_) (fun hc384224 => ?_)
                    · have r384225 : p384164.toInt ≠ p359233.toInt := gC_ne hc384224
                      refine G_aload 0 dr_cX17_rename_115 rfl ?_
                      refine Gw_callV (As := []) (gV_ok D I) (cp_1654_Row_sets l hl0 D I P359230 F383726 q384149 p384161 p384162 p384163 p384164 p384165 p384166 p384167 hm384159 he384160 bp384161 bp384162 bp384165 bp384166 bp384167) dr_cX17_rename_117 ⟨wr_10_181, wr_1_39, wr_10_184, by decide, rfl, (Nat.le_of_ble_eq_true rfl), (Nat.le_of_ble_eq_true rfl)⟩ wr_10_182 wr_10_183 hm384159 he384160 rfl (show 0 + 0 ≤ 0 by first | omega | decide) (show 0 + 0 ≤ 0 by first | omega | decide) (Nat.le_of_ble_eq_true rfl) (fun r384229 w384230 dc384226 ds384227 hp384228 => ?_) (fun _ _ _ _ _ z => z.elim)
                      obtain ⟨o384231, rfl, rfl, hdc, hds, bo384231⟩ := hp384228
                      change G _ _ _ _ _ _ _ (.int o384231 :: _) _ _ _
                      refine G_widen (cs' := 0) (sl' := 0) (by omega) (by omega) ?_
                      refine G_if_eq 138 dr_cX17_rename_120 (by decide +kernel) (fun hc384232 => ?_) (fun hc384232 => ?_)
                      · have r384233 : o384231.toInt = 0 := gj_eq hc384232 (show Int32.toInt 0 = 0 by decide)
                        have bo384231' : gB o384231 0 0 := gB_t0 r384233
                        obtain ⟨z384234, hz384234⟩ : ∃ z : Int32, z = g383725 + Int32.ofInt 1 := ⟨_, rfl⟩
                        have ez384234 : z384234.toInt = g383725.toInt + 1 := gI_inc hz384234 (by decide) bg383725'' (by decide) (by decide)
                        have bz384234 : gB z384234 1 1000000 := ⟨by omega, by omega⟩
                        refine G_iinc (L' := [(5, .int z384234), (6, .ref q384149), (4, .ref q382880), (3, .int g382820), (0, .ref q359232), (1, .int p359233), (2, .int p359234)]) z384234 1 dr_cX17_rename_138 rfl hz384234.symm (Nat.le_of_ble_eq_true rfl) rfl ?_
                        refine G_goto 20 dr_cX17_rename_141 (by decide +kernel) ?_
                        refine G_lv (L' := [(5, .int z384234), (4, .ref q382880), (3, .int g382820), (0, .ref q359232), (1, .int p359233), (2, .int p359234)]) [0, 2, 3, 4, 5, 6] rfl ?_
                        exact ih20_383730 F383726 z384234 (gB_w bz384234 (by decide) (by decide)) hT383727 hs383728 x383729 x383730 (mz_up ez384234 (Int.le_trans bg383725''.2 (by decide)) hm20_383730)
                      · have r384235 : o384231.toInt ≠ 0 := gj_neq hc384232 (show Int32.toInt 0 = 0 by decide)
                        have bo384231' : gB o384231 1 1 := gB_t1 bo384231 r384235
                        refine G_aload 0 dr_cX17_rename_123 rfl ?_
                        refine Gp_get 1 hm384159 he384160 dr_cX17_rename_125 (gk_X15 D I) (Nat.le_of_ble_eq_true rfl) wr_9_182 rfl ?_
                        refine G_iload_n 5 dr_cX17_rename_128 rfl ?_
                        refine G_icmp_ne 138 dr_cX17_rename_129 (by decide +kernel) (fun hc384236 => ?_) (fun hc384236 => ?_)
                        · have r384237 : p384162.toInt ≠ p359233.toInt := gC_ne hc384236
                          obtain ⟨z384238, hz384238⟩ : ∃ z : Int32, z = g383725 + Int32.ofInt 1 := ⟨_, rfl⟩
                          have ez384238 : z384238.toInt = g383725.toInt + 1 := gI_inc hz384238 (by decide) bg383725'' (by decide) (by decide)
                          have bz384238 : gB z384238 1 1000000 := ⟨by omega, by omega⟩
                          refine G_iinc (L' := [(5, .int z384238), (6, .ref q384149), (4, .ref q382880), (3, .int g382820), (0, .ref q359232), (1, .int p359233), (2, .int p359234)]) z384238 1 dr_cX17_rename_138 rfl hz384238.symm (Nat.le_of_ble_eq_true rfl) rfl ?_
                          refine G_goto 20 dr_cX17_rename_141 (by decide +kernel) ?_
                          refine G_lv (L' := [(5, .int z384238), (4, .ref q382880), (3, .int g382820), (0, .ref q359232), (1, .int p359233), (2, .int p359234)]) [0, 2, 3, 4, 5, 6] rfl ?_
                          exact ih20_383730 F383726 z384238 (gB_w bz384238 (by decide) (by decide)) hT383727 hs383728 x383729 x383730 (mz_up ez384238 (Int.le_trans bg383725''.2 (by decide)) hm20_383730)
                        · have r384239 : p384162.toInt = p359233.toInt := gC_eq hc384236
                          refine G_aload 0 dr_cX17_rename_132 rfl ?_
                          refine G_iload_n 6 dr_cX17_rename_134 rfl ?_
                          refine Gp_put 1 hm384159 he384160 dr_cX17_rename_135 (gk_X15 D I) (Nat.le_of_ble_eq_true rfl) wr_9_182 rfl rfl rfl (Nat.le_of_ble_eq_true rfl) (fun F384240 e384241 n384242 => ?_)
                          have he384243 : F384240 q359232 = .inr (18, [.ref q382831, .ref q382832, .int p382833, .int p382834]) := (n384242 q359232 (rn_oo he383733 he384160 (by decide))).trans he383733
                          have he384244 : F384240 q382831 = .inr (4, [.int p382861, .ref q382863, .int p382862]) := (n384242 q382831 (rn_oo he383734 he384160 (by decide))).trans he383734
                          have he384245 : F384240 q382863 = .inl (I (.object "java/lang/Object"), n382877, .inr (.inr (.inr (.inr f382878)))) := (n384242 q382863 (rn_ao he383735 he384160)).trans he383735
                          have he384246 : F384240 q382880 = .inr (17, [.ref q382889, .ref q382890, .int p382891, .int p382892]) := (n384242 q382880 (rn_oo he383736 he384160 (by decide))).trans he383736
                          have he384247 : F384240 q382889 = .inr (4, [.int p383740, .ref q383742, .int p383741]) := (n384242 q382889 (rn_oo he383739 he384160 (by decide))).trans he383739
                          have he384248 : F384240 q383742 = .inl (I (.object "java/lang/Object"), n384146, .inr (.inr (.inr (.inr f384147)))) := (n384242 q383742 (rn_ao r384140 he384160)).trans r384140
                          have he384249 : F384240 q384149 = .inr (20, [.int p384161, .int p359234, .int p384163, .int p384164, .int p384165, .int p384166, .int p384167]) := e384241
                          have hs384250 : rStr γ [1] F359231 F384240 := rStr_pu2 hs383728 n384242 ht384152 (by decide)
                          have fk384251 : rFk [1] γ F359231 F384240 := rFk_put x383730 n384242 ht384152 (by decide)
                          obtain ⟨z384252, hz384252⟩ : ∃ z : Int32, z = g383725 + Int32.ofInt 1 := ⟨_, rfl⟩
                          have ez384252 : z384252.toInt = g383725.toInt + 1 := gI_inc hz384252 (by decide) bg383725'' (by decide) (by decide)
                          have bz384252 : gB z384252 1 1000000 := ⟨by omega, by omega⟩
                          refine G_iinc (L' := [(5, .int z384252), (6, .ref q384149), (4, .ref q382880), (3, .int g382820), (0, .ref q359232), (1, .int p359233), (2, .int p359234)]) z384252 1 dr_cX17_rename_138 rfl hz384252.symm (Nat.le_of_ble_eq_true rfl) rfl ?_
                          refine G_goto 20 dr_cX17_rename_141 (by decide +kernel) ?_
                          have hT384253 : RS D I P359230 F384240 γ el := RS_set hT383727 n384242 ht384152 (by decide) ⟨p384161, p359234, p384163, p384164, p384165, p384166, p384167, he384249, bp384161, bp359234, bp384165, bp384166, bp384167, r384168, r384169, r384170, r384171⟩
                          refine G_lv (L' := [(5, .int z384252), (4, .ref q382880), (3, .int g382820), (0, .ref q359232), (1, .int p359233), (2, .int p359234)]) [0, 2, 3, 4, 5, 6] rfl ?_
                          exact ih20_383730 F384240 z384252 (gB_w bz384252 (by decide) (by decide)) hT384253 hs384250 (fun N hv hu hp => rPl_put hT383727 htq359232 rfl (x383729 N hv hu hp) n384242 hp384172 nb384175 hL384173 (fun _ _ _ _ z => z) (rNx_ren he384160 he384249 hu hv (Or.inl rfl) (Or.inl rfl) (Or.inr ⟨rfl, by first | assumption | omega⟩) (by rw [← hp384172]; exact x383729 N hv hu hp _ nb384175 _ hL384173))) fk384251 (mz_up ez384252 (Int.le_trans bg383725''.2 (by decide)) hm20_383730)
                    · have r384255 : p384164.toInt = p359233.toInt := gC_eq hc384224
                      have bp384164' : gB p384164 0 1999 := ⟨by omega, by omega⟩
                      refine G_aload 0 dr_cX17_rename_109 rfl ?_
                      refine G_iload_n 6 dr_cX17_rename_111 rfl ?_
                      refine Gp_put 3 hm384159 he384160 dr_cX17_rename_112 (gk_X15 D I) (Nat.le_of_ble_eq_true rfl) wr_9_190 rfl rfl rfl (Nat.le_of_ble_eq_true rfl) (fun F384256 e384257 n384258 => ?_)
                      have he384259 : F384256 q359232 = .inr (18, [.ref q382831, .ref q382832, .int p382833, .int p382834]) := (n384258 q359232 (rn_oo he383733 he384160 (by decide))).trans he383733
                      have he384260 : F384256 q382831 = .inr (4, [.int p382861, .ref q382863, .int p382862]) := (n384258 q382831 (rn_oo he383734 he384160 (by decide))).trans he383734
                      have he384261 : F384256 q382863 = .inl (I (.object "java/lang/Object"), n382877, .inr (.inr (.inr (.inr f382878)))) := (n384258 q382863 (rn_ao he383735 he384160)).trans he383735
                      have he384262 : F384256 q382880 = .inr (17, [.ref q382889, .ref q382890, .int p382891, .int p382892]) := (n384258 q382880 (rn_oo he383736 he384160 (by decide))).trans he383736
                      have he384263 : F384256 q382889 = .inr (4, [.int p383740, .ref q383742, .int p383741]) := (n384258 q382889 (rn_oo he383739 he384160 (by decide))).trans he383739
                      have he384264 : F384256 q383742 = .inl (I (.object "java/lang/Object"), n384146, .inr (.inr (.inr (.inr f384147)))) := (n384258 q383742 (rn_ao r384140 he384160)).trans r384140
                      have he384265 : F384256 q384149 = .inr (20, [.int p384161, .int p384162, .int p384163, .int p359234, .int p384165, .int p384166, .int p384167]) := e384257
                      have hs384266 : rStr γ [1] F359231 F384256 := rStr_pu2 hs383728 n384258 ht384152 (by decide)
                      have fk384267 : rFk [1] γ F359231 F384256 := rFk_put x383730 n384258 ht384152 (by decide)
                      refine G_aload 0 dr_cX17_rename_115 rfl ?_
                      have hT384268 : RS D I P359230 F384256 γ el := RS_set hT383727 n384258 ht384152 (by decide) ⟨p384161, p384162, p384163, p359234, p384165, p384166, p384167, he384265, bp384161, bp384162, bp384165, bp384166, bp384167, r384168, r384169, (Or.inr bp359234), r384171⟩
                      refine Gw_callV (As := []) (gV_ok D I) (cp_1654_Row_sets l hl0 D I P359230 F384256 q384149 p384161 p384162 p384163 p359234 p384165 p384166 p384167 hm384159 he384265 bp384161 bp384162 bp384165 bp384166 bp384167) dr_cX17_rename_117 ⟨wr_10_181, wr_1_39, wr_10_184, by decide, rfl, (Nat.le_of_ble_eq_true rfl), (Nat.le_of_ble_eq_true rfl)⟩ wr_10_182 wr_10_183 hm384159 he384265 rfl (show 0 + 0 ≤ 0 by first | omega | decide) (show 0 + 0 ≤ 0 by first | omega | decide) (Nat.le_of_ble_eq_true rfl) (fun r384273 w384274 dc384270 ds384271 hp384272 => ?_) (fun _ _ _ _ _ z => z.elim)
                      obtain ⟨o384275, rfl, rfl, hdc, hds, bo384275⟩ := hp384272
                      change G _ _ _ _ _ _ _ (.int o384275 :: _) _ _ _
                      refine G_widen (cs' := 0) (sl' := 0) (by omega) (by omega) ?_
                      refine G_if_eq 138 dr_cX17_rename_120 (by decide +kernel) (fun hc384276 => ?_) (fun hc384276 => ?_)
                      · have r384277 : o384275.toInt = 0 := gj_eq hc384276 (show Int32.toInt 0 = 0 by decide)
                        have bo384275' : gB o384275 0 0 := gB_t0 r384277
                        obtain ⟨z384278, hz384278⟩ : ∃ z : Int32, z = g383725 + Int32.ofInt 1 := ⟨_, rfl⟩
                        have ez384278 : z384278.toInt = g383725.toInt + 1 := gI_inc hz384278 (by decide) bg383725'' (by decide) (by decide)
                        have bz384278 : gB z384278 1 1000000 := ⟨by omega, by omega⟩
                        refine G_iinc (L' := [(5, .int z384278), (6, .ref q384149), (4, .ref q382880), (3, .int g382820), (0, .ref q359232), (1, .int p359233), (2, .int p359234)]) z384278 1 dr_cX17_rename_138 rfl hz384278.symm (Nat.le_of_ble_eq_true rfl) rfl ?_
                        refine G_goto 20 dr_cX17_rename_141 (by decide +kernel) ?_
                        refine G_lv (L' := [(5, .int z384278), (4, .ref q382880), (3, .int g382820), (0, .ref q359232), (1, .int p359233), (2, .int p359234)]) [0, 2, 3, 4, 5, 6] rfl ?_
                        exact ih20_383730 F384256 z384278 (gB_w bz384278 (by decide) (by decide)) hT384268 hs384266 (fun N hv hu hp => rPl_put hT383727 htq359232 rfl (x383729 N hv hu hp) n384258 hp384172 nb384175 hL384173 (fun _ _ _ _ z => z) (rNx_ren he384160 he384265 hu hv (Or.inl rfl) (Or.inr rfl) (Or.inl rfl) (by rw [← hp384172]; exact x383729 N hv hu hp _ nb384175 _ hL384173))) fk384267 (mz_up ez384278 (Int.le_trans bg383725''.2 (by decide)) hm20_383730)
                      · have r384279 : o384275.toInt ≠ 0 := gj_neq hc384276 (show Int32.toInt 0 = 0 by decide)
                        have bo384275' : gB o384275 1 1 := gB_t1 bo384275 r384279
                        refine G_aload 0 dr_cX17_rename_123 rfl ?_
                        refine Gp_get 1 hm384159 he384265 dr_cX17_rename_125 (gk_X15 D I) (Nat.le_of_ble_eq_true rfl) wr_9_182 rfl ?_
                        refine G_iload_n 5 dr_cX17_rename_128 rfl ?_
                        refine G_icmp_ne 138 dr_cX17_rename_129 (by decide +kernel) (fun hc384280 => ?_) (fun hc384280 => ?_)
                        · have r384281 : p384162.toInt ≠ p359233.toInt := gC_ne hc384280
                          obtain ⟨z384282, hz384282⟩ : ∃ z : Int32, z = g383725 + Int32.ofInt 1 := ⟨_, rfl⟩
                          have ez384282 : z384282.toInt = g383725.toInt + 1 := gI_inc hz384282 (by decide) bg383725'' (by decide) (by decide)
                          have bz384282 : gB z384282 1 1000000 := ⟨by omega, by omega⟩
                          refine G_iinc (L' := [(5, .int z384282), (6, .ref q384149), (4, .ref q382880), (3, .int g382820), (0, .ref q359232), (1, .int p359233), (2, .int p359234)]) z384282 1 dr_cX17_rename_138 rfl hz384282.symm (Nat.le_of_ble_eq_true rfl) rfl ?_
                          refine G_goto 20 dr_cX17_rename_141 (by decide +kernel) ?_
                          refine G_lv (L' := [(5, .int z384282), (4, .ref q382880), (3, .int g382820), (0, .ref q359232), (1, .int p359233), (2, .int p359234)]) [0, 2, 3, 4, 5, 6] rfl ?_
                          exact ih20_383730 F384256 z384282 (gB_w bz384282 (by decide) (by decide)) hT384268 hs384266 (fun N hv hu hp => rPl_put hT383727 htq359232 rfl (x383729 N hv hu hp) n384258 hp384172 nb384175 hL384173 (fun _ _ _ _ z => z) (rNx_ren he384160 he384265 hu hv (Or.inl rfl) (Or.inr rfl) (Or.inl rfl) (by rw [← hp384172]; exact x383729 N hv hu hp _ nb384175 _ hL384173))) fk384267 (mz_up ez384282 (Int.le_trans bg383725''.2 (by decide)) hm20_383730)
                        · have r384283 : p384162.toInt = p359233.toInt := gC_eq hc384280
                          refine G_aload 0 dr_cX17_rename_132 rfl ?_
                          refine G_iload_n 6 dr_cX17_rename_134 rfl ?_
                          refine Gp_put 1 hm384159 he384265 dr_cX17_rename_135 (gk_X15 D I) (Nat.le_of_ble_eq_true rfl) wr_9_182 rfl rfl rfl (Nat.le_of_ble_eq_true rfl) (fun F384284 e384285 n384286 => ?_)
                          have he384287 : F384284 q359232 = .inr (18, [.ref q382831, .ref q382832, .int p382833, .int p382834]) := (n384286 q359232 (rn_oo he384259 he384265 (by decide))).trans he384259
                          have he384288 : F384284 q382831 = .inr (4, [.int p382861, .ref q382863, .int p382862]) := (n384286 q382831 (rn_oo he384260 he384265 (by decide))).trans he384260
                          have he384289 : F384284 q382863 = .inl (I (.object "java/lang/Object"), n382877, .inr (.inr (.inr (.inr f382878)))) := (n384286 q382863 (rn_ao he384261 he384265)).trans he384261
                          have he384290 : F384284 q382880 = .inr (17, [.ref q382889, .ref q382890, .int p382891, .int p382892]) := (n384286 q382880 (rn_oo he384262 he384265 (by decide))).trans he384262
                          have he384291 : F384284 q382889 = .inr (4, [.int p383740, .ref q383742, .int p383741]) := (n384286 q382889 (rn_oo he384263 he384265 (by decide))).trans he384263
                          have he384292 : F384284 q383742 = .inl (I (.object "java/lang/Object"), n384146, .inr (.inr (.inr (.inr f384147)))) := (n384286 q383742 (rn_ao he384264 he384265)).trans he384264
                          have he384293 : F384284 q384149 = .inr (20, [.int p384161, .int p359234, .int p384163, .int p359234, .int p384165, .int p384166, .int p384167]) := e384285
                          have hs384294 : rStr γ [1] F359231 F384284 := rStr_pu2 hs384266 n384286 ht384152 (by decide)
                          have fk384295 : rFk [1] γ F359231 F384284 := rFk_put fk384267 n384286 ht384152 (by decide)
                          obtain ⟨z384296, hz384296⟩ : ∃ z : Int32, z = g383725 + Int32.ofInt 1 := ⟨_, rfl⟩
                          have ez384296 : z384296.toInt = g383725.toInt + 1 := gI_inc hz384296 (by decide) bg383725'' (by decide) (by decide)
                          have bz384296 : gB z384296 1 1000000 := ⟨by omega, by omega⟩
                          refine G_iinc (L' := [(5, .int z384296), (6, .ref q384149), (4, .ref q382880), (3, .int g382820), (0, .ref q359232), (1, .int p359233), (2, .int p359234)]) z384296 1 dr_cX17_rename_138 rfl hz384296.symm (Nat.le_of_ble_eq_true rfl) rfl ?_
                          refine G_goto 20 dr_cX17_rename_141 (by decide +kernel) ?_
                          have hT384297 : RS D I P359230 F384284 γ el := RS_set hT384268 n384286 ht384152 (by decide) ⟨p384161, p359234, p384163, p359234, p384165, p384166, p384167, he384293, bp384161, bp359234, bp384165, bp384166, bp384167, r384168, r384169, (Or.inr bp359234), r384171⟩
                          have of384298 : ∀ b, b ≠ q384149 → F384284 b = F383726 b := fun b hb => (n384286 b hb).trans (n384258 b hb)
                          refine G_lv (L' := [(5, .int z384296), (4, .ref q382880), (3, .int g382820), (0, .ref q359232), (1, .int p359233), (2, .int p359234)]) [0, 2, 3, 4, 5, 6] rfl ?_
                          exact ih20_383730 F384284 z384296 (gB_w bz384296 (by decide) (by decide)) hT384297 hs384294 (fun N hv hu hp => rPl_put hT383727 htq359232 rfl (x383729 N hv hu hp) of384298 hp384172 nb384175 hL384173 (fun _ _ _ _ z => z) (rNx_ren he384160 he384293 hu hv (Or.inl rfl) (Or.inr rfl) (Or.inr ⟨rfl, by first | assumption | omega⟩) (by rw [← hp384172]; exact x383729 N hv hu hp _ nb384175 _ hL384173))) fk384295 (mz_up ez384296 (Int.le_trans bg383725''.2 (by decide)) hm20_383730)
                · have r384299 : o384181.toInt ≠ 0 := gj_neq hc384183 (show Int32.toInt 0 = 0 by decide)
                  have bo384181' : gB o384181 1 1 := gB_t1 bo384181 r384299
                  refine G_aload 0 dr_cX17_rename_77 rfl ?_
                  refine Gp_get 2 hm384159 he384160 dr_cX17_rename_79 (gk_X15 D I) (Nat.le_of_ble_eq_true rfl) wr_9_186 rfl ?_
                  refine G_iload_n 5 dr_cX17_rename_82 rfl ?_
                  refine G_icmp_ne 92 dr_cX17_rename_83 (by decide +kernel) (fun hc384300 => ?_) (fun hc384300 => ?_)
                  · have r384301 : p384163.toInt ≠ p359233.toInt := gC_ne hc384300
                    refine G_aload 0 dr_cX17_rename_92 rfl ?_
                    refine Gw_callV (As := []) (gV_ok D I) (cp_1693_Row_usesB l hl0 D I P359230 F383726 q384149 p384161 p384162 p384163 p384164 p384165 p384166 p384167 hm384159 he384160 bp384161 bp384162 bp384165 bp384166 bp384167) dr_cX17_rename_94 ⟨wr_10_196, wr_1_39, wr_10_199, by decide, rfl, (Nat.le_of_ble_eq_true rfl), (Nat.le_of_ble_eq_true rfl)⟩ wr_10_197 wr_10_198 hm384159 he384160 rfl (show 0 + 0 ≤ 0 by first | omega | decide) (show 0 + 0 ≤ 0 by first | omega | decide) (Nat.le_of_ble_eq_true rfl) (fun r384305 w384306 dc384302 ds384303 hp384304 => ?_) (fun _ _ _ _ _ z => z.elim)
                    obtain ⟨o384307, rfl, rfl, hdc, hds, bo384307, x384308⟩ := hp384304
                    change G _ _ _ _ _ _ _ (.int o384307 :: _) _ _ _
                    refine G_widen (cs' := 0) (sl' := 0) (by omega) (by omega) ?_
                    refine G_if_eq 115 dr_cX17_rename_97 (by decide +kernel) (fun hc384309 => ?_) (fun hc384309 => ?_)
                    · have r384310 : o384307.toInt = 0 := gj_eq hc384309 (show Int32.toInt 0 = 0 by decide)
                      have bo384307' : gB o384307 0 0 := gB_t0 r384310
                      refine G_aload 0 dr_cX17_rename_115 rfl ?_
                      refine Gw_callV (As := []) (gV_ok D I) (cp_1654_Row_sets l hl0 D I P359230 F383726 q384149 p384161 p384162 p384163 p384164 p384165 p384166 p384167 hm384159 he384160 bp384161 bp384162 bp384165 bp384166 bp384167) dr_cX17_rename_117 ⟨wr_10_181, wr_1_39, wr_10_184, by decide, rfl, (Nat.le_of_ble_eq_true rfl), (Nat.le_of_ble_eq_true rfl)⟩ wr_10_182 wr_10_183 hm384159 he384160 rfl (show 0 + 0 ≤ 0 by first | omega | decide) (show 0 + 0 ≤ 0 by first | omega | decide) (Nat.le_of_ble_eq_true rfl) (fun r384314 w384315 dc384311 ds384312 hp384313 => ?_) (fun _ _ _ _ _ z => z.elim)
                      obtain ⟨o384316, rfl, rfl, hdc, hds, bo384316⟩ := hp384313
                      change G _ _ _ _ _ _ _ (.int o384316 :: _) _ _ _
                      refine G_widen (cs' := 0) (sl' := 0) (by omega) (by omega) ?_
                      refine G_if_eq 138 dr_cX17_rename_120 (by decide +kernel) (fun hc384317 => ?_) (fun hc384317 => ?_)
                      · have r384318 : o384316.toInt = 0 := gj_eq hc384317 (show Int32.toInt 0 = 0 by decide)
                        have bo384316' : gB o384316 0 0 := gB_t0 r384318
                        obtain ⟨z384319, hz384319⟩ : ∃ z : Int32, z = g383725 + Int32.ofInt 1 := ⟨_, rfl⟩
                        have ez384319 : z384319.toInt = g383725.toInt + 1 := gI_inc hz384319 (by decide) bg383725'' (by decide) (by decide)
                        have bz384319 : gB z384319 1 1000000 := ⟨by omega, by omega⟩
                        refine G_iinc (L' := [(5, .int z384319), (6, .ref q384149), (4, .ref q382880), (3, .int g382820), (0, .ref q359232), (1, .int p359233), (2, .int p359234)]) z384319 1 dr_cX17_rename_138 rfl hz384319.symm (Nat.le_of_ble_eq_true rfl) rfl ?_
                        refine G_goto 20 dr_cX17_rename_141 (by decide +kernel) ?_
                        refine G_lv (L' := [(5, .int z384319), (4, .ref q382880), (3, .int g382820), (0, .ref q359232), (1, .int p359233), (2, .int p359234)]) [0, 2, 3, 4, 5, 6] rfl ?_
                        exact ih20_383730 F383726 z384319 (gB_w bz384319 (by decide) (by decide)) hT383727 hs383728 x383729 x383730 (mz_up ez384319 (Int.le_trans bg383725''.2 (by decide)) hm20_383730)
                      · have r384320 : o384316.toInt ≠ 0 := gj_neq hc384317 (show Int32.toInt 0 = 0 by decide)
                        have bo384316' : gB o384316 1 1 := gB_t1 bo384316 r384320
                        refine G_aload 0 dr_cX17_rename_123 rfl ?_
                        refine Gp_get 1 hm384159 he384160 dr_cX17_rename_125 (gk_X15 D I) (Nat.le_of_ble_eq_true rfl) wr_9_182 rfl ?_
                        refine G_iload_n 5 dr_cX17_rename_128 rfl ?_
                        refine G_icmp_ne 138 dr_cX17_rename_129 (by decide +kernel) (fun hc384321 => ?_) (fun hc384321 => ?_)
                        · have r384322 : p384162.toInt ≠ p359233.toInt := gC_ne hc384321
                          obtain ⟨z384323, hz384323⟩ : ∃ z : Int32, z = g383725 + Int32.ofInt 1 := ⟨_, rfl⟩
                          have ez384323 : z384323.toInt = g383725.toInt + 1 := gI_inc hz384323 (by decide) bg383725'' (by decide) (by decide)
                          have bz384323 : gB z384323 1 1000000 := ⟨by omega, by omega⟩
                          refine G_iinc (L' := [(5, .int z384323), (6, .ref q384149), (4, .ref q382880), (3, .int g382820), (0, .ref q359232), (1, .int p359233), (2, .int p359234)]) z384323 1 dr_cX17_rename_138 rfl hz384323.symm (Nat.le_of_ble_eq_true rfl) rfl ?_
                          refine G_goto 20 dr_cX17_rename_141 (by decide +kernel) ?_
                          refine G_lv (L' := [(5, .int z384323), (4, .ref q382880), (3, .int g382820), (0, .ref q359232), (1, .int p359233), (2, .int p359234)]) [0, 2, 3, 4, 5, 6] rfl ?_
                          exact ih20_383730 F383726 z384323 (gB_w bz384323 (by decide) (by decide)) hT383727 hs383728 x383729 x383730 (mz_up ez384323 (Int.le_trans bg383725''.2 (by decide)) hm20_383730)
                        · have r384324 : p384162.toInt = p359233.toInt := gC_eq hc384321
                          refine G_aload 0 dr_cX17_rename_132 rfl ?_
                          refine G_iload_n 6 dr_cX17_rename_134 rfl ?_
                          refine Gp_put 1 hm384159 he384160 dr_cX17_rename_135 (gk_X15 D I) (Nat.le_of_ble_eq_true rfl) wr_9_182 rfl rfl rfl (Nat.le_of_ble_eq_true rfl) (fun F384325 e384326 n384327 => ?_)
                          have he384328 : F384325 q359232 = .inr (18, [.ref q382831, .ref q382832, .int p382833, .int p382834]) := (n384327 q359232 (rn_oo he383733 he384160 (by decide))).trans he383733
                          have he384329 : F384325 q382831 = .inr (4, [.int p382861, .ref q382863, .int p382862]) := (n384327 q382831 (rn_oo he383734 he384160 (by decide))).trans he383734
                          have he384330 : F384325 q382863 = .inl (I (.object "java/lang/Object"), n382877, .inr (.inr (.inr (.inr f382878)))) := (n384327 q382863 (rn_ao he383735 he384160)).trans he383735
                          have he384331 : F384325 q382880 = .inr (17, [.ref q382889, .ref q382890, .int p382891, .int p382892]) := (n384327 q382880 (rn_oo he383736 he384160 (by decide))).trans he383736
                          have he384332 : F384325 q382889 = .inr (4, [.int p383740, .ref q383742, .int p383741]) := (n384327 q382889 (rn_oo he383739 he384160 (by decide))).trans he383739
                          have he384333 : F384325 q383742 = .inl (I (.object "java/lang/Object"), n384146, .inr (.inr (.inr (.inr f384147)))) := (n384327 q383742 (rn_ao r384140 he384160)).trans r384140
                          have he384334 : F384325 q384149 = .inr (20, [.int p384161, .int p359234, .int p384163, .int p384164, .int p384165, .int p384166, .int p384167]) := e384326
                          have hs384335 : rStr γ [1] F359231 F384325 := rStr_pu2 hs383728 n384327 ht384152 (by decide)
                          have fk384336 : rFk [1] γ F359231 F384325 := rFk_put x383730 n384327 ht384152 (by decide)
                          obtain ⟨z384337, hz384337⟩ : ∃ z : Int32, z = g383725 + Int32.ofInt 1 := ⟨_, rfl⟩
                          have ez384337 : z384337.toInt = g383725.toInt + 1 := gI_inc hz384337 (by decide) bg383725'' (by decide) (by decide)
                          have bz384337 : gB z384337 1 1000000 := ⟨by omega, by omega⟩
                          refine G_iinc (L' := [(5, .int z384337), (6, .ref q384149), (4, .ref q382880), (3, .int g382820), (0, .ref q359232), (1, .int p359233), (2, .int p359234)]) z384337 1 dr_cX17_rename_138 rfl hz384337.symm (Nat.le_of_ble_eq_true rfl) rfl ?_
                          refine G_goto 20 dr_cX17_rename_141 (by decide +kernel) ?_
                          have hT384338 : RS D I P359230 F384325 γ el := RS_set hT383727 n384327 ht384152 (by decide) ⟨p384161, p359234, p384163, p384164, p384165, p384166, p384167, he384334, bp384161, bp359234, bp384165, bp384166, bp384167, r384168, r384169, r384170, r384171⟩
                          refine G_lv (L' := [(5, .int z384337), (4, .ref q382880), (3, .int g382820), (0, .ref q359232), (1, .int p359233), (2, .int p359234)]) [0, 2, 3, 4, 5, 6] rfl ?_
                          exact ih20_383730 F384325 z384337 (gB_w bz384337 (by decide) (by decide)) hT384338 hs384335 (fun N hv hu hp => rPl_put hT383727 htq359232 rfl (x383729 N hv hu hp) n384327 hp384172 nb384175 hL384173 (fun _ _ _ _ z => z) (rNx_ren he384160 he384334 hu hv (Or.inl rfl) (Or.inl rfl) (Or.inr ⟨rfl, by first | assumption | omega⟩) (by rw [← hp384172]; exact x383729 N hv hu hp _ nb384175 _ hL384173))) fk384336 (mz_up ez384337 (Int.le_trans bg383725''.2 (by decide)) hm20_383730)
                    · have r384340 : o384307.toInt ≠ 0 := gj_neq hc384309 (show Int32.toInt 0 = 0 by decide)
                      have bo384307' : gB o384307 1 1 := gB_t1 bo384307 r384340
                      refine G_aload 0 dr_cX17_rename_100 rfl ?_
                      refine Gp_get 3 hm384159 he384160 dr_cX17_rename_102 (gk_X15 D I) (Nat.le_of_ble_eq_true rfl) wr_9_190 rfl ?_
                      refine G_iload_n 5 dr_cX17_rename_105 rfl ?_
                      refine G_icmp_ne 115 dr_cX17_rename_106 (by decide +kernel) (fun hc384341 => ?_) (fun hc384341 => ?_)
                      · have r384342 : p384164.toInt ≠ p359233.toInt := gC_ne hc384341
                        refine G_aload 0 dr_cX17_rename_115 rfl ?_
                        refine Gw_callV (As := []) (gV_ok D I) (cp_1654_Row_sets l hl0 D I P359230 F383726 q384149 p384161 p384162 p384163 p384164 p384165 p384166 p384167 hm384159 he384160 bp384161 bp384162 bp384165 bp384166 bp384167) dr_cX17_rename_117 ⟨wr_10_181, wr_1_39, wr_10_184, by decide, rfl, (Nat.le_of_ble_eq_true rfl), (Nat.le_of_ble_eq_true rfl)⟩ wr_10_182 wr_10_183 hm384159 he384160 rfl (show 0 + 0 ≤ 0 by first | omega | decide) (show 0 + 0 ≤ 0 by first | omega | decide) (Nat.le_of_ble_eq_true rfl) (fun r384346 w384347 dc384343 ds384344 hp384345 => ?_) (fun _ _ _ _ _ z => z.elim)
                        obtain ⟨o384348, rfl, rfl, hdc, hds, bo384348⟩ := hp384345
                        change G _ _ _ _ _ _ _ (.int o384348 :: _) _ _ _
                        refine G_widen (cs' := 0) (sl' := 0) (by omega) (by omega) ?_
                        refine G_if_eq 138 dr_cX17_rename_120 (by decide +kernel) (fun hc384349 => ?_) (fun hc384349 => ?_)
                        · have r384350 : o384348.toInt = 0 := gj_eq hc384349 (show Int32.toInt 0 = 0 by decide)
                          have bo384348' : gB o384348 0 0 := gB_t0 r384350
                          obtain ⟨z384351, hz384351⟩ : ∃ z : Int32, z = g383725 + Int32.ofInt 1 := ⟨_, rfl⟩
                          have ez384351 : z384351.toInt = g383725.toInt + 1 := gI_inc hz384351 (by decide) bg383725'' (by decide) (by decide)
                          have bz384351 : gB z384351 1 1000000 := ⟨by omega, by omega⟩
                          refine G_iinc (L' := [(5, .int z384351), (6, .ref q384149), (4, .ref q382880), (3, .int g382820), (0, .ref q359232), (1, .int p359233), (2, .int p359234)]) z384351 1 dr_cX17_rename_138 rfl hz384351.symm (Nat.le_of_ble_eq_true rfl) rfl ?_
                          refine G_goto 20 dr_cX17_rename_141 (by decide +kernel) ?_
                          refine G_lv (L' := [(5, .int z384351), (4, .ref q382880), (3, .int g382820), (0, .ref q359232), (1, .int p359233), (2, .int p359234)]) [0, 2, 3, 4, 5, 6] rfl ?_
                          exact ih20_383730 F383726 z384351 (gB_w bz384351 (by decide) (by decide)) hT383727 hs383728 x383729 x383730 (mz_up ez384351 (Int.le_trans bg383725''.2 (by decide)) hm20_383730)
                        · have r384352 : o384348.toInt ≠ 0 := gj_neq hc384349 (show Int32.toInt 0 = 0 by decide)
                          have bo384348' : gB o384348 1 1 := gB_t1 bo384348 r384352
                          refine G_aload 0 dr_cX17_rename_123 rfl ?_
                          refine Gp_get 1 hm384159 he384160 dr_cX17_rename_125 (gk_X15 D I) (Nat.le_of_ble_eq_true rfl) wr_9_182 rfl ?_
                          refine G_iload_n 5 dr_cX17_rename_128 rfl ?_
                          refine G_icmp_ne 138 dr_cX17_rename_129 (by decide +kernel) (fun hc384353 => ?_) (fun hc384353 => ?_)
                          · have r384354 : p384162.toInt ≠ p359233.toInt := gC_ne hc384353
                            obtain ⟨z384355, hz384355⟩ : ∃ z : Int32, z = g383725 + Int32.ofInt 1 := ⟨_, rfl⟩
                            have ez384355 : z384355.toInt = g383725.toInt + 1 := gI_inc hz384355 (by decide) bg383725'' (by decide) (by decide)
                            have bz384355 : gB z384355 1 1000000 := ⟨by omega, by omega⟩
                            refine G_iinc (L' := [(5, .int z384355), (6, .ref q384149), (4, .ref q382880), (3, .int g382820), (0, .ref q359232), (1, .int p359233), (2, .int p359234)]) z384355 1 dr_cX17_rename_138 rfl hz384355.symm (Nat.le_of_ble_eq_true rfl) rfl ?_
                            refine G_goto 20 dr_cX17_rename_141 (by decide +kernel) ?_
                            refine G_lv (L' := [(5, .int z384355), (4, .ref q382880), (3, .int g382820), (0, .ref q359232), (1, .int p359233), (2, .int p359234)]) [0, 2, 3, 4, 5, 6] rfl ?_
                            exact ih20_383730 F383726 z384355 (gB_w bz384355 (by decide) (by decide)) hT383727 hs383728 x383729 x383730 (mz_up ez384355 (Int.le_trans bg383725''.2 (by decide)) hm20_383730)
                          · have r384356 : p384162.toInt = p359233.toInt := gC_eq hc384353
                            refine G_aload 0 dr_cX17_rename_132 rfl ?_
                            refine G_iload_n 6 dr_cX17_rename_134 rfl ?_
                            refine Gp_put 1 hm384159 he384160 dr_cX17_rename_135 (gk_X15 D I) (Nat.le_of_ble_eq_true rfl) wr_9_182 rfl rfl rfl (Nat.le_of_ble_eq_true rfl) (fun F384357 e384358 n384359 => ?_)
                            have he384360 : F384357 q359232 = .inr (18, [.ref q382831, .ref q382832, .int p382833, .int p382834]) := (n384359 q359232 (rn_oo he383733 he384160 (by decide))).trans he383733
                            have he384361 : F384357 q382831 = .inr (4, [.int p382861, .ref q382863, .int p382862]) := (n384359 q382831 (rn_oo he383734 he384160 (by decide))).trans he383734
                            have he384362 : F384357 q382863 = .inl (I (.object "java/lang/Object"), n382877, .inr (.inr (.inr (.inr f382878)))) := (n384359 q382863 (rn_ao he383735 he384160)).trans he383735
                            have he384363 : F384357 q382880 = .inr (17, [.ref q382889, .ref q382890, .int p382891, .int p382892]) := (n384359 q382880 (rn_oo he383736 he384160 (by decide))).trans he383736
                            have he384364 : F384357 q382889 = .inr (4, [.int p383740, .ref q383742, .int p383741]) := (n384359 q382889 (rn_oo he383739 he384160 (by decide))).trans he383739
                            have he384365 : F384357 q383742 = .inl (I (.object "java/lang/Object"), n384146, .inr (.inr (.inr (.inr f384147)))) := (n384359 q383742 (rn_ao r384140 he384160)).trans r384140
                            have he384366 : F384357 q384149 = .inr (20, [.int p384161, .int p359234, .int p384163, .int p384164, .int p384165, .int p384166, .int p384167]) := e384358
                            have hs384367 : rStr γ [1] F359231 F384357 := rStr_pu2 hs383728 n384359 ht384152 (by decide)
                            have fk384368 : rFk [1] γ F359231 F384357 := rFk_put x383730 n384359 ht384152 (by decide)
                            obtain ⟨z384369, hz384369⟩ : ∃ z : Int32, z = g383725 + Int32.ofInt 1 := ⟨_, rfl⟩
                            have ez384369 : z384369.toInt = g383725.toInt + 1 := gI_inc hz384369 (by decide) bg383725'' (by decide) (by decide)
                            have bz384369 : gB z384369 1 1000000 := ⟨by omega, by omega⟩
                            refine G_iinc (L' := [(5, .int z384369), (6, .ref q384149), (4, .ref q382880), (3, .int g382820), (0, .ref q359232), (1, .int p359233), (2, .int p359234)]) z384369 1 dr_cX17_rename_138 rfl hz384369.symm (Nat.le_of_ble_eq_true rfl) rfl ?_
                            refine G_goto 20 dr_cX17_rename_141 (by decide +kernel) ?_
                            have hT384370 : RS D I P359230 F384357 γ el := RS_set hT383727 n384359 ht384152 (by decide) ⟨p384161, p359234, p384163, p384164, p384165, p384166, p384167, he384366, bp384161, bp359234, bp384165, bp384166, bp384167, r384168, r384169, r384170, r384171⟩
                            refine G_lv (L' := [(5, .int z384369), (4, .ref q382880), (3, .int g382820), (0, .ref q359232), (1, .int p359233), (2, .int p359234)]) [0, 2, 3, 4, 5, 6] rfl ?_
                            exact ih20_383730 F384357 z384369 (gB_w bz384369 (by decide) (by decide)) hT384370 hs384367 (fun N hv hu hp => rPl_put hT383727 htq359232 rfl (x383729 N hv hu hp) n384359 hp384172 nb384175 hL384173 (fun _ _ _ _ z => z) (rNx_ren he384160 he384366 hu hv (Or.inl rfl) (Or.inl rfl) (Or.inr ⟨rfl, by first | assumption | omega⟩) (by rw [← hp384172]; exact x383729 N hv hu hp _ nb384175 _ hL384173))) fk384368 (mz_up ez384369 (Int.le_trans bg383725''.2 (by decide)) hm20_383730)
                      · have r384372 : p384164.toInt = p359233.toInt := gC_eq hc384341
                        have bp384164' : gB p384164 0 1999 := ⟨by omega, by omega⟩
                        refine G_aload 0 dr_cX17_rename_109 rfl ?_
                        refine G_iload_n 6 dr_cX17_rename_111 rfl ?_
                        refine Gp_put 3 hm384159 he384160 dr_cX17_rename_112 (gk_X15 D I) (Nat.le_of_ble_eq_true rfl) wr_9_190 rfl rfl rfl (Nat.le_of_ble_eq_true rfl) (fun F384373 e384374 n384375 => ?_)
                        have he384376 : F384373 q359232 = .inr (18, [.ref q382831, .ref q382832, .int p382833, .int p382834]) := (n384375 q359232 (rn_oo he383733 he384160 (by decide))).trans he383733
                        have he384377 : F384373 q382831 = .inr (4, [.int p382861, .ref q382863, .int p382862]) := (n384375 q382831 (rn_oo he383734 he384160 (by decide))).trans he383734
                        have he384378 : F384373 q382863 = .inl (I (.object "java/lang/Object"), n382877, .inr (.inr (.inr (.inr f382878)))) := (n384375 q382863 (rn_ao he383735 he384160)).trans he383735
                        have he384379 : F384373 q382880 = .inr (17, [.ref q382889, .ref q382890, .int p382891, .int p382892]) := (n384375 q382880 (rn_oo he383736 he384160 (by decide))).trans he383736
                        have he384380 : F384373 q382889 = .inr (4, [.int p383740, .ref q383742, .int p383741]) := (n384375 q382889 (rn_oo he383739 he384160 (by decide))).trans he383739
                        have he384381 : F384373 q383742 = .inl (I (.object "java/lang/Object"), n384146, .inr (.inr (.inr (.inr f384147)))) := (n384375 q383742 (rn_ao r384140 he384160)).trans r384140
                        have he384382 : F384373 q384149 = .inr (20, [.int p384161, .int p384162, .int p384163, .int p359234, .int p384165, .int p384166, .int p384167]) := e384374
                        have hs384383 : rStr γ [1] F359231 F384373 := rStr_pu2 hs383728 n384375 ht384152 (by decide)
                        have fk384384 : rFk [1] γ F359231 F384373 := rFk_put x383730 n384375 ht384152 (by decide)
                        refine G_aload 0 dr_cX17_rename_115 rfl ?_
                        have hT384385 : RS D I P359230 F384373 γ el := RS_set hT383727 n384375 ht384152 (by decide) ⟨p384161, p384162, p384163, p359234, p384165, p384166, p384167, he384382, bp384161, bp384162, bp384165, bp384166, bp384167, r384168, r384169, (Or.inr bp359234), r384171⟩
                        refine Gw_callV (As := []) (gV_ok D I) (cp_1654_Row_sets l hl0 D I P359230 F384373 q384149 p384161 p384162 p384163 p359234 p384165 p384166 p384167 hm384159 he384382 bp384161 bp384162 bp384165 bp384166 bp384167) dr_cX17_rename_117 ⟨wr_10_181, wr_1_39, wr_10_184, by decide, rfl, (Nat.le_of_ble_eq_true rfl), (Nat.le_of_ble_eq_true rfl)⟩ wr_10_182 wr_10_183 hm384159 he384382 rfl (show 0 + 0 ≤ 0 by first | omega | decide) (show 0 + 0 ≤ 0 by first | omega | decide) (Nat.le_of_ble_eq_true rfl) (fun r384390 w384391 dc384387 ds384388 hp384389 => ?_) (fun _ _ _ _ _ z => z.elim)
                        obtain ⟨o384392, rfl, rfl, hdc, hds, bo384392⟩ := hp384389
                        change G _ _ _ _ _ _ _ (.int o384392 :: _) _ _ _
                        refine G_widen (cs' := 0) (sl' := 0) (by omega) (by omega) ?_
                        refine G_if_eq 138 dr_cX17_rename_120 (by decide +kernel) (fun hc384393 => ?_) (fun hc384393 => ?_)
                        · have r384394 : o384392.toInt = 0 := gj_eq hc384393 (show Int32.toInt 0 = 0 by decide)
                          have bo384392' : gB o384392 0 0 := gB_t0 r384394
                          obtain ⟨z384395, hz384395⟩ : ∃ z : Int32, z = g383725 + Int32.ofInt 1 := ⟨_, rfl⟩
                          have ez384395 : z384395.toInt = g383725.toInt + 1 := gI_inc hz384395 (by decide) bg383725'' (by decide) (by decide)
                          have bz384395 : gB z384395 1 1000000 := ⟨by omega, by omega⟩
                          refine G_iinc (L' := [(5, .int z384395), (6, .ref q384149), (4, .ref q382880), (3, .int g382820), (0, .ref q359232), (1, .int p359233), (2, .int p359234)]) z384395 1 dr_cX17_rename_138 rfl hz384395.symm (Nat.le_of_ble_eq_true rfl) rfl ?_
                          refine G_goto 20 dr_cX17_rename_141 (by decide +kernel) ?_
                          refine G_lv (L' := [(5, .int z384395), (4, .ref q382880), (3, .int g382820), (0, .ref q359232), (1, .int p359233), (2, .int p359234)]) [0, 2, 3, 4, 5, 6] rfl ?_
                          exact ih20_383730 F384373 z384395 (gB_w bz384395 (by decide) (by decide)) hT384385 hs384383 (fun N hv hu hp => rPl_put hT383727 htq359232 rfl (x383729 N hv hu hp) n384375 hp384172 nb384175 hL384173 (fun _ _ _ _ z => z) (rNx_ren he384160 he384382 hu hv (Or.inl rfl) (Or.inr rfl) (Or.inl rfl) (by rw [← hp384172]; exact x383729 N hv hu hp _ nb384175 _ hL384173))) fk384384 (mz_up ez384395 (Int.le_trans bg383725''.2 (by decide)) hm20_383730)
                        · have r384396 : o384392.toInt ≠ 0 := gj_neq hc384393 (show Int32.toInt 0 = 0 by decide)
                          have bo384392' : gB o384392 1 1 := gB_t1 bo384392 r384396
                          refine G_aload 0 dr_cX17_rename_123 rfl ?_
                          refine Gp_get 1 hm384159 he384382 dr_cX17_rename_125 (gk_X15 D I) (Nat.le_of_ble_eq_true rfl) wr_9_182 rfl ?_
                          refine G_iload_n 5 dr_cX17_rename_128 rfl ?_
                          refine G_icmp_ne 138 dr_cX17_rename_129 (by decide +kernel) (fun hc384397 => ?_) (fun hc384397 => ?_)
                          · have r384398 : p384162.toInt ≠ p359233.toInt := gC_ne hc384397
                            obtain ⟨z384399, hz384399⟩ : ∃ z : Int32, z = g383725 + Int32.ofInt 1 := ⟨_, rfl⟩
                            have ez384399 : z384399.toInt = g383725.toInt + 1 := gI_inc hz384399 (by decide) bg383725'' (by decide) (by decide)
                            have bz384399 : gB z384399 1 1000000 := ⟨by omega, by omega⟩
                            refine G_iinc (L' := [(5, .int z384399), (6, .ref q384149), (4, .ref q382880), (3, .int g382820), (0, .ref q359232), (1, .int p359233), (2, .int p359234)]) z384399 1 dr_cX17_rename_138 rfl hz384399.symm (Nat.le_of_ble_eq_true rfl) rfl ?_
                            refine G_goto 20 dr_cX17_rename_141 (by decide +kernel) ?_
                            refine G_lv (L' := [(5, .int z384399), (4, .ref q382880), (3, .int g382820), (0, .ref q359232), (1, .int p359233), (2, .int p359234)]) [0, 2, 3, 4, 5, 6] rfl ?_
                            exact ih20_383730 F384373 z384399 (gB_w bz384399 (by decide) (by decide)) hT384385 hs384383 (fun N hv hu hp => rPl_put hT383727 htq359232 rfl (x383729 N hv hu hp) n384375 hp384172 nb384175 hL384173 (fun _ _ _ _ z => z) (rNx_ren he384160 he384382 hu hv (Or.inl rfl) (Or.inr rfl) (Or.inl rfl) (by rw [← hp384172]; exact x383729 N hv hu hp _ nb384175 _ hL384173))) fk384384 (mz_up ez384399 (Int.le_trans bg383725''.2 (by decide)) hm20_383730)
                          · have r384400 : p384162.toInt = p359233.toInt := gC_eq hc384397
                            refine G_aload 0 dr_cX17_rename_132 rfl ?_
                            refine G_iload_n 6 dr_cX17_rename_134 rfl ?_
                            refine Gp_put 1 hm384159 he384382 dr_cX17_rename_135 (gk_X15 D I) (Nat.le_of_ble_eq_true rfl) wr_9_182 rfl rfl rfl (Nat.le_of_ble_eq_true rfl) (fun F384401 e384402 n384403 => ?_)
                            have he384404 : F384401 q359232 = .inr (18, [.ref q382831, .ref q382832, .int p382833, .int p382834]) := (n384403 q359232 (rn_oo he384376 he384382 (by decide))).trans he384376
                            have he384405 : F384401 q382831 = .inr (4, [.int p382861, .ref q382863, .int p382862]) := (n384403 q382831 (rn_oo he384377 he384382 (by decide))).trans he384377
                            have he384406 : F384401 q382863 = .inl (I (.object "java/lang/Object"), n382877, .inr (.inr (.inr (.inr f382878)))) := (n384403 q382863 (rn_ao he384378 he384382)).trans he384378
                            have he384407 : F384401 q382880 = .inr (17, [.ref q382889, .ref q382890, .int p382891, .int p382892]) := (n384403 q382880 (rn_oo he384379 he384382 (by decide))).trans he384379
                            have he384408 : F384401 q382889 = .inr (4, [.int p383740, .ref q383742, .int p383741]) := (n384403 q382889 (rn_oo he384380 he384382 (by decide))).trans he384380
                            have he384409 : F384401 q383742 = .inl (I (.object "java/lang/Object"), n384146, .inr (.inr (.inr (.inr f384147)))) := (n384403 q383742 (rn_ao he384381 he384382)).trans he384381
                            have he384410 : F384401 q384149 = .inr (20, [.int p384161, .int p359234, .int p384163, .int p359234, .int p384165, .int p384166, .int p384167]) := e384402
                            have hs384411 : rStr γ [1] F359231 F384401 := rStr_pu2 hs384383 n384403 ht384152 (by decide)
                            have fk384412 : rFk [1] γ F359231 F384401 := rFk_put fk384384 n384403 ht384152 (by decide)
                            obtain ⟨z384413, hz384413⟩ : ∃ z : Int32, z = g383725 + Int32.ofInt 1 := ⟨_, rfl⟩
                            have ez384413 : z384413.toInt = g383725.toInt + 1 := gI_inc hz384413 (by decide) bg383725'' (by decide) (by decide)
                            have bz384413 : gB z384413 1 1000000 := ⟨by omega, by omega⟩
                            refine G_iinc (L' := [(5, .int z384413), (6, .ref q384149), (4, .ref q382880), (3, .int g382820), (0, .ref q359232), (1, .int p359233), (2, .int p359234)]) z384413 1 dr_cX17_rename_138 rfl hz384413.symm (Nat.le_of_ble_eq_true rfl) rfl ?_
                            refine G_goto 20 dr_cX17_rename_141 (by decide +kernel) ?_
                            have hT384414 : RS D I P359230 F384401 γ el := RS_set hT384385 n384403 ht384152 (by decide) ⟨p384161, p359234, p384163, p359234, p384165, p384166, p384167, he384410, bp384161, bp359234, bp384165, bp384166, bp384167, r384168, r384169, (Or.inr bp359234), r384171⟩
                            have of384415 : ∀ b, b ≠ q384149 → F384401 b = F383726 b := fun b hb => (n384403 b hb).trans (n384375 b hb)
                            refine G_lv (L' := [(5, .int z384413), (4, .ref q382880), (3, .int g382820), (0, .ref q359232), (1, .int p359233), (2, .int p359234)]) [0, 2, 3, 4, 5, 6] rfl ?_
                            exact ih20_383730 F384401 z384413 (gB_w bz384413 (by decide) (by decide)) hT384414 hs384411 (fun N hv hu hp => rPl_put hT383727 htq359232 rfl (x383729 N hv hu hp) of384415 hp384172 nb384175 hL384173 (fun _ _ _ _ z => z) (rNx_ren he384160 he384410 hu hv (Or.inl rfl) (Or.inr rfl) (Or.inr ⟨rfl, by first | assumption | omega⟩) (by rw [← hp384172]; exact x383729 N hv hu hp _ nb384175 _ hL384173))) fk384412 (mz_up ez384413 (Int.le_trans bg383725''.2 (by decide)) hm20_383730)
                  · have r384416 : p384163.toInt = p359233.toInt := gC_eq hc384300
                    have bp384163' : gB p384163 0 1999 := ⟨by omega, by omega⟩
                    refine G_aload 0 dr_cX17_rename_86 rfl ?_
                    refine G_iload_n 6 dr_cX17_rename_88 rfl ?_
                    refine Gp_put 2 hm384159 he384160 dr_cX17_rename_89 (gk_X15 D I) (Nat.le_of_ble_eq_true rfl) wr_9_186 rfl rfl rfl (Nat.le_of_ble_eq_true rfl) (fun F384417 e384418 n384419 => ?_)
                    have he384420 : F384417 q359232 = .inr (18, [.ref q382831, .ref q382832, .int p382833, .int p382834]) := (n384419 q359232 (rn_oo he383733 he384160 (by decide))).trans he383733
                    have he384421 : F384417 q382831 = .inr (4, [.int p382861, .ref q382863, .int p382862]) := (n384419 q382831 (rn_oo he383734 he384160 (by decide))).trans he383734
                    have he384422 : F384417 q382863 = .inl (I (.object "java/lang/Object"), n382877, .inr (.inr (.inr (.inr f382878)))) := (n384419 q382863 (rn_ao he383735 he384160)).trans he383735
                    have he384423 : F384417 q382880 = .inr (17, [.ref q382889, .ref q382890, .int p382891, .int p382892]) := (n384419 q382880 (rn_oo he383736 he384160 (by decide))).trans he383736
                    have he384424 : F384417 q382889 = .inr (4, [.int p383740, .ref q383742, .int p383741]) := (n384419 q382889 (rn_oo he383739 he384160 (by decide))).trans he383739
                    have he384425 : F384417 q383742 = .inl (I (.object "java/lang/Object"), n384146, .inr (.inr (.inr (.inr f384147)))) := (n384419 q383742 (rn_ao r384140 he384160)).trans r384140
                    have he384426 : F384417 q384149 = .inr (20, [.int p384161, .int p384162, .int p359234, .int p384164, .int p384165, .int p384166, .int p384167]) := e384418
                    have hs384427 : rStr γ [1] F359231 F384417 := rStr_pu2 hs383728 n384419 ht384152 (by decide)
                    have fk384428 : rFk [1] γ F359231 F384417 := rFk_put x383730 n384419 ht384152 (by decide)
                    refine G_aload 0 dr_cX17_rename_92 rfl ?_
                    have hT384429 : RS D I P359230 F384417 γ el := RS_set hT383727 n384419 ht384152 (by decide) ⟨p384161, p384162, p359234, p384164, p384165, p384166, p384167, he384426, bp384161, bp384162, bp384165, bp384166, bp384167, r384168, (Or.inr bp359234), r384170, r384171⟩
                    refine Gw_callV (As := []) (gV_ok D I) (cp_1693_Row_usesB l hl0 D I P359230 F384417 q384149 p384161 p384162 p359234 p384164 p384165 p384166 p384167 hm384159 he384426 bp384161 bp384162 bp384165 bp384166 bp384167) dr_cX17_rename_94 ⟨wr_10_196, wr_1_39, wr_10_199, by decide, rfl, (Nat.le_of_ble_eq_true rfl), (Nat.le_of_ble_eq_true rfl)⟩ wr_10_197 wr_10_198 hm384159 he384426 rfl (show 0 + 0 ≤ 0 by first | omega | decide) (show 0 + 0 ≤ 0 by first | omega | decide) (Nat.le_of_ble_eq_true rfl) (fun r384434 w384435 dc384431 ds384432 hp384433 => ?_) (fun _ _ _ _ _ z => z.elim)
                    obtain ⟨o384436, rfl, rfl, hdc, hds, bo384436, x384437⟩ := hp384433
                    change G _ _ _ _ _ _ _ (.int o384436 :: _) _ _ _
                    refine G_widen (cs' := 0) (sl' := 0) (by omega) (by omega) ?_
                    refine G_if_eq 115 dr_cX17_rename_97 (by decide +kernel) (fun hc384438 => ?_) (fun hc384438 => ?_)
                    · have r384439 : o384436.toInt = 0 := gj_eq hc384438 (show Int32.toInt 0 = 0 by decide)
                      have bo384436' : gB o384436 0 0 := gB_t0 r384439
                      refine G_aload 0 dr_cX17_rename_115 rfl ?_
                      refine Gw_callV (As := []) (gV_ok D I) (cp_1654_Row_sets l hl0 D I P359230 F384417 q384149 p384161 p384162 p359234 p384164 p384165 p384166 p384167 hm384159 he384426 bp384161 bp384162 bp384165 bp384166 bp384167) dr_cX17_rename_117 ⟨wr_10_181, wr_1_39, wr_10_184, by decide, rfl, (Nat.le_of_ble_eq_true rfl), (Nat.le_of_ble_eq_true rfl)⟩ wr_10_182 wr_10_183 hm384159 he384426 rfl (show 0 + 0 ≤ 0 by first | omega | decide) (show 0 + 0 ≤ 0 by first | omega | decide) (Nat.le_of_ble_eq_true rfl) (fun r384443 w384444 dc384440 ds384441 hp384442 => ?_) (fun _ _ _ _ _ z => z.elim)
                      obtain ⟨o384445, rfl, rfl, hdc, hds, bo384445⟩ := hp384442
                      change G _ _ _ _ _ _ _ (.int o384445 :: _) _ _ _
                      refine G_widen (cs' := 0) (sl' := 0) (by omega) (by omega) ?_
                      refine G_if_eq 138 dr_cX17_rename_120 (by decide +kernel) (fun hc384446 => ?_) (fun hc384446 => ?_)
                      · have r384447 : o384445.toInt = 0 := gj_eq hc384446 (show Int32.toInt 0 = 0 by decide)
                        have bo384445' : gB o384445 0 0 := gB_t0 r384447
                        obtain ⟨z384448, hz384448⟩ : ∃ z : Int32, z = g383725 + Int32.ofInt 1 := ⟨_, rfl⟩
                        have ez384448 : z384448.toInt = g383725.toInt + 1 := gI_inc hz384448 (by decide) bg383725'' (by decide) (by decide)
                        have bz384448 : gB z384448 1 1000000 := ⟨by omega, by omega⟩
                        refine G_iinc (L' := [(5, .int z384448), (6, .ref q384149), (4, .ref q382880), (3, .int g382820), (0, .ref q359232), (1, .int p359233), (2, .int p359234)]) z384448 1 dr_cX17_rename_138 rfl hz384448.symm (Nat.le_of_ble_eq_true rfl) rfl ?_
                        refine G_goto 20 dr_cX17_rename_141 (by decide +kernel) ?_
                        refine G_lv (L' := [(5, .int z384448), (4, .ref q382880), (3, .int g382820), (0, .ref q359232), (1, .int p359233), (2, .int p359234)]) [0, 2, 3, 4, 5, 6] rfl ?_
                        exact ih20_383730 F384417 z384448 (gB_w bz384448 (by decide) (by decide)) hT384429 hs384427 (fun N hv hu hp => rPl_put hT383727 htq359232 rfl (x383729 N hv hu hp) n384419 hp384172 nb384175 hL384173 (fun _ _ _ _ z => z) (rNx_ren he384160 he384426 hu hv (Or.inr rfl) (Or.inl rfl) (Or.inl rfl) (by rw [← hp384172]; exact x383729 N hv hu hp _ nb384175 _ hL384173))) fk384428 (mz_up ez384448 (Int.le_trans bg383725''.2 (by decide)) hm20_383730)
                      · have r384449 : o384445.toInt ≠ 0 := gj_neq hc384446 (show Int32.toInt 0 = 0 by decide)
                        have bo384445' : gB o384445 1 1 := gB_t1 bo384445 r384449
                        refine G_aload 0 dr_cX17_rename_123 rfl ?_
                        refine Gp_get 1 hm384159 he384426 dr_cX17_rename_125 (gk_X15 D I) (Nat.le_of_ble_eq_true rfl) wr_9_182 rfl ?_
                        refine G_iload_n 5 dr_cX17_rename_128 rfl ?_
                        refine G_icmp_ne 138 dr_cX17_rename_129 (by decide +kernel) (fun hc384450 => ?_) (fun hc384450 => ?_)
                        · have r384451 : p384162.toInt ≠ p359233.toInt := gC_ne hc384450
                          obtain ⟨z384452, hz384452⟩ : ∃ z : Int32, z = g383725 + Int32.ofInt 1 := ⟨_, rfl⟩
                          have ez384452 : z384452.toInt = g383725.toInt + 1 := gI_inc hz384452 (by decide) bg383725'' (by decide) (by decide)
                          have bz384452 : gB z384452 1 1000000 := ⟨by omega, by omega⟩
                          refine G_iinc (L' := [(5, .int z384452), (6, .ref q384149), (4, .ref q382880), (3, .int g382820), (0, .ref q359232), (1, .int p359233), (2, .int p359234)]) z384452 1 dr_cX17_rename_138 rfl hz384452.symm (Nat.le_of_ble_eq_true rfl) rfl ?_
                          refine G_goto 20 dr_cX17_rename_141 (by decide +kernel) ?_
                          refine G_lv (L' := [(5, .int z384452), (4, .ref q382880), (3, .int g382820), (0, .ref q359232), (1, .int p359233), (2, .int p359234)]) [0, 2, 3, 4, 5, 6] rfl ?_
                          exact ih20_383730 F384417 z384452 (gB_w bz384452 (by decide) (by decide)) hT384429 hs384427 (fun N hv hu hp => rPl_put hT383727 htq359232 rfl (x383729 N hv hu hp) n384419 hp384172 nb384175 hL384173 (fun _ _ _ _ z => z) (rNx_ren he384160 he384426 hu hv (Or.inr rfl) (Or.inl rfl) (Or.inl rfl) (by rw [← hp384172]; exact x383729 N hv hu hp _ nb384175 _ hL384173))) fk384428 (mz_up ez384452 (Int.le_trans bg383725''.2 (by decide)) hm20_383730)
                        · have r384453 : p384162.toInt = p359233.toInt := gC_eq hc384450
                          refine G_aload 0 dr_cX17_rename_132 rfl ?_
                          refine G_iload_n 6 dr_cX17_rename_134 rfl ?_
                          refine Gp_put 1 hm384159 he384426 dr_cX17_rename_135 (gk_X15 D I) (Nat.le_of_ble_eq_true rfl) wr_9_182 rfl rfl rfl (Nat.le_of_ble_eq_true rfl) (fun F384454 e384455 n384456 => ?_)
                          have he384457 : F384454 q359232 = .inr (18, [.ref q382831, .ref q382832, .int p382833, .int p382834]) := (n384456 q359232 (rn_oo he384420 he384426 (by decide))).trans he384420
                          have he384458 : F384454 q382831 = .inr (4, [.int p382861, .ref q382863, .int p382862]) := (n384456 q382831 (rn_oo he384421 he384426 (by decide))).trans he384421
                          have he384459 : F384454 q382863 = .inl (I (.object "java/lang/Object"), n382877, .inr (.inr (.inr (.inr f382878)))) := (n384456 q382863 (rn_ao he384422 he384426)).trans he384422
                          have he384460 : F384454 q382880 = .inr (17, [.ref q382889, .ref q382890, .int p382891, .int p382892]) := (n384456 q382880 (rn_oo he384423 he384426 (by decide))).trans he384423
                          have he384461 : F384454 q382889 = .inr (4, [.int p383740, .ref q383742, .int p383741]) := (n384456 q382889 (rn_oo he384424 he384426 (by decide))).trans he384424
                          have he384462 : F384454 q383742 = .inl (I (.object "java/lang/Object"), n384146, .inr (.inr (.inr (.inr f384147)))) := (n384456 q383742 (rn_ao he384425 he384426)).trans he384425
                          have he384463 : F384454 q384149 = .inr (20, [.int p384161, .int p359234, .int p359234, .int p384164, .int p384165, .int p384166, .int p384167]) := e384455
                          have hs384464 : rStr γ [1] F359231 F384454 := rStr_pu2 hs384427 n384456 ht384152 (by decide)
                          have fk384465 : rFk [1] γ F359231 F384454 := rFk_put fk384428 n384456 ht384152 (by decide)
                          obtain ⟨z384466, hz384466⟩ : ∃ z : Int32, z = g383725 + Int32.ofInt 1 := ⟨_, rfl⟩
                          have ez384466 : z384466.toInt = g383725.toInt + 1 := gI_inc hz384466 (by decide) bg383725'' (by decide) (by decide)
                          have bz384466 : gB z384466 1 1000000 := ⟨by omega, by omega⟩
                          refine G_iinc (L' := [(5, .int z384466), (6, .ref q384149), (4, .ref q382880), (3, .int g382820), (0, .ref q359232), (1, .int p359233), (2, .int p359234)]) z384466 1 dr_cX17_rename_138 rfl hz384466.symm (Nat.le_of_ble_eq_true rfl) rfl ?_
                          refine G_goto 20 dr_cX17_rename_141 (by decide +kernel) ?_
                          have hT384467 : RS D I P359230 F384454 γ el := RS_set hT384429 n384456 ht384152 (by decide) ⟨p384161, p359234, p359234, p384164, p384165, p384166, p384167, he384463, bp384161, bp359234, bp384165, bp384166, bp384167, r384168, (Or.inr bp359234), r384170, r384171⟩
                          have of384468 : ∀ b, b ≠ q384149 → F384454 b = F383726 b := fun b hb => (n384456 b hb).trans (n384419 b hb)
                          refine G_lv (L' := [(5, .int z384466), (4, .ref q382880), (3, .int g382820), (0, .ref q359232), (1, .int p359233), (2, .int p359234)]) [0, 2, 3, 4, 5, 6] rfl ?_
                          exact ih20_383730 F384454 z384466 (gB_w bz384466 (by decide) (by decide)) hT384467 hs384464 (fun N hv hu hp => rPl_put hT383727 htq359232 rfl (x383729 N hv hu hp) of384468 hp384172 nb384175 hL384173 (fun _ _ _ _ z => z) (rNx_ren he384160 he384463 hu hv (Or.inr rfl) (Or.inl rfl) (Or.inr ⟨rfl, by first | assumption | omega⟩) (by rw [← hp384172]; exact x383729 N hv hu hp _ nb384175 _ hL384173))) fk384465 (mz_up ez384466 (Int.le_trans bg383725''.2 (by decide)) hm20_383730)
                    · have r384469 : o384436.toInt ≠ 0 := gj_neq hc384438 (show Int32.toInt 0 = 0 by decide)
                      have bo384436' : gB o384436 1 1 := gB_t1 bo384436 r384469
                      refine G_aload 0 dr_cX17_rename_100 rfl ?_
                      refine Gp_get 3 hm384159 he384426 dr_cX17_rename_102 (gk_X15 D I) (Nat.le_of_ble_eq_true rfl) wr_9_190 rfl ?_
                      refine G_iload_n 5 dr_cX17_rename_105 rfl ?_
                      refine G_icmp_ne 115 dr_cX17_rename_106 (by decide +kernel) (fun hc384470 => ?_) (fun hc384470 => ?_)
                      · have r384471 : p384164.toInt ≠ p359233.toInt := gC_ne hc384470
                        refine G_aload 0 dr_cX17_rename_115 rfl ?_
                        refine Gw_callV (As := []) (gV_ok D I) (cp_1654_Row_sets l hl0 D I P359230 F384417 q384149 p384161 p384162 p359234 p384164 p384165 p384166 p384167 hm384159 he384426 bp384161 bp384162 bp384165 bp384166 bp384167) dr_cX17_rename_117 ⟨wr_10_181, wr_1_39, wr_10_184, by decide, rfl, (Nat.le_of_ble_eq_true rfl), (Nat.le_of_ble_eq_true rfl)⟩ wr_10_182 wr_10_183 hm384159 he384426 rfl (show 0 + 0 ≤ 0 by first | omega | decide) (show 0 + 0 ≤ 0 by first | omega | decide) (Nat.le_of_ble_eq_true rfl) (fun r384475 w384476 dc384472 ds384473 hp384474 => ?_) (fun _ _ _ _ _ z => z.elim)
                        obtain ⟨o384477, rfl, rfl, hdc, hds, bo384477⟩ := hp384474
                        change G _ _ _ _ _ _ _ (.int o384477 :: _) _ _ _
                        refine G_widen (cs' := 0) (sl' := 0) (by omega) (by omega) ?_
                        refine G_if_eq 138 dr_cX17_rename_120 (by decide +kernel) (fun hc384478 => ?_) (fun hc384478 => ?_)
                        · have r384479 : o384477.toInt = 0 := gj_eq hc384478 (show Int32.toInt 0 = 0 by decide)
                          have bo384477' : gB o384477 0 0 := gB_t0 r384479
                          obtain ⟨z384480, hz384480⟩ : ∃ z : Int32, z = g383725 + Int32.ofInt 1 := ⟨_, rfl⟩
                          have ez384480 : z384480.toInt = g383725.toInt + 1 := gI_inc hz384480 (by decide) bg383725'' (by decide) (by decide)
                          have bz384480 : gB z384480 1 1000000 := ⟨by omega, by omega⟩
                          refine G_iinc (L' := [(5, .int z384480), (6, .ref q384149), (4, .ref q382880), (3, .int g382820), (0, .ref q359232), (1, .int p359233), (2, .int p359234)]) z384480 1 dr_cX17_rename_138 rfl hz384480.symm (Nat.le_of_ble_eq_true rfl) rfl ?_
                          refine G_goto 20 dr_cX17_rename_141 (by decide +kernel) ?_
                          refine G_lv (L' := [(5, .int z384480), (4, .ref q382880), (3, .int g382820), (0, .ref q359232), (1, .int p359233), (2, .int p359234)]) [0, 2, 3, 4, 5, 6] rfl ?_
                          exact ih20_383730 F384417 z384480 (gB_w bz384480 (by decide) (by decide)) hT384429 hs384427 (fun N hv hu hp => rPl_put hT383727 htq359232 rfl (x383729 N hv hu hp) n384419 hp384172 nb384175 hL384173 (fun _ _ _ _ z => z) (rNx_ren he384160 he384426 hu hv (Or.inr rfl) (Or.inl rfl) (Or.inl rfl) (by rw [← hp384172]; exact x383729 N hv hu hp _ nb384175 _ hL384173))) fk384428 (mz_up ez384480 (Int.le_trans bg383725''.2 (by decide)) hm20_383730)
                        · have r384481 : o384477.toInt ≠ 0 := gj_neq hc384478 (show Int32.toInt 0 = 0 by decide)
                          have bo384477' : gB o384477 1 1 := gB_t1 bo384477 r384481
                          refine G_aload 0 dr_cX17_rename_123 rfl ?_
                          refine Gp_get 1 hm384159 he384426 dr_cX17_rename_125 (gk_X15 D I) (Nat.le_of_ble_eq_true rfl) wr_9_182 rfl ?_
                          refine G_iload_n 5 dr_cX17_rename_128 rfl ?_
                          refine G_icmp_ne 138 dr_cX17_rename_129 (by decide +kernel) (fun hc384482 => ?_) (fun hc384482 => ?_)
                          · have r384483 : p384162.toInt ≠ p359233.toInt := gC_ne hc384482
                            obtain ⟨z384484, hz384484⟩ : ∃ z : Int32, z = g383725 + Int32.ofInt 1 := ⟨_, rfl⟩
                            have ez384484 : z384484.toInt = g383725.toInt + 1 := gI_inc hz384484 (by decide) bg383725'' (by decide) (by decide)
                            have bz384484 : gB z384484 1 1000000 := ⟨by omega, by omega⟩
                            refine G_iinc (L' := [(5, .int z384484), (6, .ref q384149), (4, .ref q382880), (3, .int g382820), (0, .ref q359232), (1, .int p359233), (2, .int p359234)]) z384484 1 dr_cX17_rename_138 rfl hz384484.symm (Nat.le_of_ble_eq_true rfl) rfl ?_
                            refine G_goto 20 dr_cX17_rename_141 (by decide +kernel) ?_
                            refine G_lv (L' := [(5, .int z384484), (4, .ref q382880), (3, .int g382820), (0, .ref q359232), (1, .int p359233), (2, .int p359234)]) [0, 2, 3, 4, 5, 6] rfl ?_
                            exact ih20_383730 F384417 z384484 (gB_w bz384484 (by decide) (by decide)) hT384429 hs384427 (fun N hv hu hp => rPl_put hT383727 htq359232 rfl (x383729 N hv hu hp) n384419 hp384172 nb384175 hL384173 (fun _ _ _ _ z => z) (rNx_ren he384160 he384426 hu hv (Or.inr rfl) (Or.inl rfl) (Or.inl rfl) (by rw [← hp384172]; exact x383729 N hv hu hp _ nb384175 _ hL384173))) fk384428 (mz_up ez384484 (Int.le_trans bg383725''.2 (by decide)) hm20_383730)
                          · have r384485 : p384162.toInt = p359233.toInt := gC_eq hc384482
                            refine G_aload 0 dr_cX17_rename_132 rfl ?_
                            refine G_iload_n 6 dr_cX17_rename_134 rfl ?_
                            refine Gp_put 1 hm384159 he384426 dr_cX17_rename_135 (gk_X15 D I) (Nat.le_of_ble_eq_true rfl) wr_9_182 rfl rfl rfl (Nat.le_of_ble_eq_true rfl) (fun F384486 e384487 n384488 => ?_)
                            have he384489 : F384486 q359232 = .inr (18, [.ref q382831, .ref q382832, .int p382833, .int p382834]) := (n384488 q359232 (rn_oo he384420 he384426 (by decide))).trans he384420
                            have he384490 : F384486 q382831 = .inr (4, [.int p382861, .ref q382863, .int p382862]) := (n384488 q382831 (rn_oo he384421 he384426 (by decide))).trans he384421
                            have he384491 : F384486 q382863 = .inl (I (.object "java/lang/Object"), n382877, .inr (.inr (.inr (.inr f382878)))) := (n384488 q382863 (rn_ao he384422 he384426)).trans he384422
                            have he384492 : F384486 q382880 = .inr (17, [.ref q382889, .ref q382890, .int p382891, .int p382892]) := (n384488 q382880 (rn_oo he384423 he384426 (by decide))).trans he384423
                            have he384493 : F384486 q382889 = .inr (4, [.int p383740, .ref q383742, .int p383741]) := (n384488 q382889 (rn_oo he384424 he384426 (by decide))).trans he384424
                            have he384494 : F384486 q383742 = .inl (I (.object "java/lang/Object"), n384146, .inr (.inr (.inr (.inr f384147)))) := (n384488 q383742 (rn_ao he384425 he384426)).trans he384425
                            have he384495 : F384486 q384149 = .inr (20, [.int p384161, .int p359234, .int p359234, .int p384164, .int p384165, .int p384166, .int p384167]) := e384487
                            have hs384496 : rStr γ [1] F359231 F384486 := rStr_pu2 hs384427 n384488 ht384152 (by decide)
                            have fk384497 : rFk [1] γ F359231 F384486 := rFk_put fk384428 n384488 ht384152 (by decide)
                            obtain ⟨z384498, hz384498⟩ : ∃ z : Int32, z = g383725 + Int32.ofInt 1 := ⟨_, rfl⟩
                            have ez384498 : z384498.toInt = g383725.toInt + 1 := gI_inc hz384498 (by decide) bg383725'' (by decide) (by decide)
                            have bz384498 : gB z384498 1 1000000 := ⟨by omega, by omega⟩
                            refine G_iinc (L' := [(5, .int z384498), (6, .ref q384149), (4, .ref q382880), (3, .int g382820), (0, .ref q359232), (1, .int p359233), (2, .int p359234)]) z384498 1 dr_cX17_rename_138 rfl hz384498.symm (Nat.le_of_ble_eq_true rfl) rfl ?_
                            refine G_goto 20 dr_cX17_rename_141 (by decide +kernel) ?_
                            have hT384499 : RS D I P359230 F384486 γ el := RS_set hT384429 n384488 ht384152 (by decide) ⟨p384161, p359234, p359234, p384164, p384165, p384166, p384167, he384495, bp384161, bp359234, bp384165, bp384166, bp384167, r384168, (Or.inr bp359234), r384170, r384171⟩
                            have of384500 : ∀ b, b ≠ q384149 → F384486 b = F383726 b := fun b hb => (n384488 b hb).trans (n384419 b hb)
                            refine G_lv (L' := [(5, .int z384498), (4, .ref q382880), (3, .int g382820), (0, .ref q359232), (1, .int p359233), (2, .int p359234)]) [0, 2, 3, 4, 5, 6] rfl ?_
                            exact ih20_383730 F384486 z384498 (gB_w bz384498 (by decide) (by decide)) hT384499 hs384496 (fun N hv hu hp => rPl_put hT383727 htq359232 rfl (x383729 N hv hu hp) of384500 hp384172 nb384175 hL384173 (fun _ _ _ _ z => z) (rNx_ren he384160 he384495 hu hv (Or.inr rfl) (Or.inl rfl) (Or.inr ⟨rfl, by first | assumption | omega⟩) (by rw [← hp384172]; exact x383729 N hv hu hp _ nb384175 _ hL384173))) fk384497 (mz_up ez384498 (Int.le_trans bg383725''.2 (by decide)) hm20_383730)
                      · have r384501 : p384164.toInt = p359233.toInt := gC_eq hc384470
                        have bp384164' : gB p384164 0 1999 := ⟨by omega, by omega⟩
                        refine G_aload 0 dr_cX17_rename_109 rfl ?_
                        refine G_iload_n 6 dr_cX17_rename_111 rfl ?_
                        refine Gp_put 3 hm384159 he384426 dr_cX17_rename_112 (gk_X15 D I) (Nat.le_of_ble_eq_true rfl) wr_9_190 rfl rfl rfl (Nat.le_of_ble_eq_true rfl) (fun F384502 e384503 n384504 => ?_)
                        have he384505 : F384502 q359232 = .inr (18, [.ref q382831, .ref q382832, .int p382833, .int p382834]) := (n384504 q359232 (rn_oo he384420 he384426 (by decide))).trans he384420
                        have he384506 : F384502 q382831 = .inr (4, [.int p382861, .ref q382863, .int p382862]) := (n384504 q382831 (rn_oo he384421 he384426 (by decide))).trans he384421
                        have he384507 : F384502 q382863 = .inl (I (.object "java/lang/Object"), n382877, .inr (.inr (.inr (.inr f382878)))) := (n384504 q382863 (rn_ao he384422 he384426)).trans he384422
                        have he384508 : F384502 q382880 = .inr (17, [.ref q382889, .ref q382890, .int p382891, .int p382892]) := (n384504 q382880 (rn_oo he384423 he384426 (by decide))).trans he384423
                        have he384509 : F384502 q382889 = .inr (4, [.int p383740, .ref q383742, .int p383741]) := (n384504 q382889 (rn_oo he384424 he384426 (by decide))).trans he384424
                        have he384510 : F384502 q383742 = .inl (I (.object "java/lang/Object"), n384146, .inr (.inr (.inr (.inr f384147)))) := (n384504 q383742 (rn_ao he384425 he384426)).trans he384425
                        have he384511 : F384502 q384149 = .inr (20, [.int p384161, .int p384162, .int p359234, .int p359234, .int p384165, .int p384166, .int p384167]) := e384503
                        have hs384512 : rStr γ [1] F359231 F384502 := rStr_pu2 hs384427 n384504 ht384152 (by decide)
                        have fk384513 : rFk [1] γ F359231 F384502 := rFk_put fk384428 n384504 ht384152 (by decide)
                        refine G_aload 0 dr_cX17_rename_115 rfl ?_
                        have hT384514 : RS D I P359230 F384502 γ el := RS_set hT384429 n384504 ht384152 (by decide) ⟨p384161, p384162, p359234, p359234, p384165, p384166, p384167, he384511, bp384161, bp384162, bp384165, bp384166, bp384167, r384168, (Or.inr bp359234), (Or.inr bp359234), r384171⟩
                        have of384515 : ∀ b, b ≠ q384149 → F384502 b = F383726 b := fun b hb => (n384504 b hb).trans (n384419 b hb)
                        refine Gw_callV (As := []) (gV_ok D I) (cp_1654_Row_sets l hl0 D I P359230 F384502 q384149 p384161 p384162 p359234 p359234 p384165 p384166 p384167 hm384159 he384511 bp384161 bp384162 bp384165 bp384166 bp384167) dr_cX17_rename_117 ⟨wr_10_181, wr_1_39, wr_10_184, by decide, rfl, (Nat.le_of_ble_eq_true rfl), (Nat.le_of_ble_eq_true rfl)⟩ wr_10_182 wr_10_183 hm384159 he384511 rfl (show 0 + 0 ≤ 0 by first | omega | decide) (show 0 + 0 ≤ 0 by first | omega | decide) (Nat.le_of_ble_eq_true rfl) (fun r384519 w384520 dc384516 ds384517 hp384518 => ?_) (fun _ _ _ _ _ z => z.elim)
                        obtain ⟨o384521, rfl, rfl, hdc, hds, bo384521⟩ := hp384518
                        change G _ _ _ _ _ _ _ (.int o384521 :: _) _ _ _
                        refine G_widen (cs' := 0) (sl' := 0) (by omega) (by omega) ?_
                        refine G_if_eq 138 dr_cX17_rename_120 (by decide +kernel) (fun hc384522 => ?_) (fun hc384522 => ?_)
                        · have r384523 : o384521.toInt = 0 := gj_eq hc384522 (show Int32.toInt 0 = 0 by decide)
                          have bo384521' : gB o384521 0 0 := gB_t0 r384523
                          obtain ⟨z384524, hz384524⟩ : ∃ z : Int32, z = g383725 + Int32.ofInt 1 := ⟨_, rfl⟩
                          have ez384524 : z384524.toInt = g383725.toInt + 1 := gI_inc hz384524 (by decide) bg383725'' (by decide) (by decide)
                          have bz384524 : gB z384524 1 1000000 := ⟨by omega, by omega⟩
                          refine G_iinc (L' := [(5, .int z384524), (6, .ref q384149), (4, .ref q382880), (3, .int g382820), (0, .ref q359232), (1, .int p359233), (2, .int p359234)]) z384524 1 dr_cX17_rename_138 rfl hz384524.symm (Nat.le_of_ble_eq_true rfl) rfl ?_
                          refine G_goto 20 dr_cX17_rename_141 (by decide +kernel) ?_
                          refine G_lv (L' := [(5, .int z384524), (4, .ref q382880), (3, .int g382820), (0, .ref q359232), (1, .int p359233), (2, .int p359234)]) [0, 2, 3, 4, 5, 6] rfl ?_
                          exact ih20_383730 F384502 z384524 (gB_w bz384524 (by decide) (by decide)) hT384514 hs384512 (fun N hv hu hp => rPl_put hT383727 htq359232 rfl (x383729 N hv hu hp) of384515 hp384172 nb384175 hL384173 (fun _ _ _ _ z => z) (rNx_ren he384160 he384511 hu hv (Or.inr rfl) (Or.inr rfl) (Or.inl rfl) (by rw [← hp384172]; exact x383729 N hv hu hp _ nb384175 _ hL384173))) fk384513 (mz_up ez384524 (Int.le_trans bg383725''.2 (by decide)) hm20_383730)
                        · have r384525 : o384521.toInt ≠ 0 := gj_neq hc384522 (show Int32.toInt 0 = 0 by decide)
                          have bo384521' : gB o384521 1 1 := gB_t1 bo384521 r384525
                          refine G_aload 0 dr_cX17_rename_123 rfl ?_
                          refine Gp_get 1 hm384159 he384511 dr_cX17_rename_125 (gk_X15 D I) (Nat.le_of_ble_eq_true rfl) wr_9_182 rfl ?_
                          refine G_iload_n 5 dr_cX17_rename_128 rfl ?_
                          refine G_icmp_ne 138 dr_cX17_rename_129 (by decide +kernel) (fun hc384526 => ?_) (fun hc384526 => ?_)
                          · have r384527 : p384162.toInt ≠ p359233.toInt := gC_ne hc384526
                            obtain ⟨z384528, hz384528⟩ : ∃ z : Int32, z = g383725 + Int32.ofInt 1 := ⟨_, rfl⟩
                            have ez384528 : z384528.toInt = g383725.toInt + 1 := gI_inc hz384528 (by decide) bg383725'' (by decide) (by decide)
                            have bz384528 : gB z384528 1 1000000 := ⟨by omega, by omega⟩
                            refine G_iinc (L' := [(5, .int z384528), (6, .ref q384149), (4, .ref q382880), (3, .int g382820), (0, .ref q359232), (1, .int p359233), (2, .int p359234)]) z384528 1 dr_cX17_rename_138 rfl hz384528.symm (Nat.le_of_ble_eq_true rfl) rfl ?_
                            refine G_goto 20 dr_cX17_rename_141 (by decide +kernel) ?_
                            refine G_lv (L' := [(5, .int z384528), (4, .ref q382880), (3, .int g382820), (0, .ref q359232), (1, .int p359233), (2, .int p359234)]) [0, 2, 3, 4, 5, 6] rfl ?_
                            exact ih20_383730 F384502 z384528 (gB_w bz384528 (by decide) (by decide)) hT384514 hs384512 (fun N hv hu hp => rPl_put hT383727 htq359232 rfl (x383729 N hv hu hp) of384515 hp384172 nb384175 hL384173 (fun _ _ _ _ z => z) (rNx_ren he384160 he384511 hu hv (Or.inr rfl) (Or.inr rfl) (Or.inl rfl) (by rw [← hp384172]; exact x383729 N hv hu hp _ nb384175 _ hL384173))) fk384513 (mz_up ez384528 (Int.le_trans bg383725''.2 (by decide)) hm20_383730)
                          · have r384529 : p384162.toInt = p359233.toInt := gC_eq hc384526
                            refine G_aload 0 dr_cX17_rename_132 rfl ?_
                            refine G_iload_n 6 dr_cX17_rename_134 rfl ?_
                            refine Gp_put 1 hm384159 he384511 dr_cX17_rename_135 (gk_X15 D I) (Nat.le_of_ble_eq_true rfl) wr_9_182 rfl rfl rfl (Nat.le_of_ble_eq_true rfl) (fun F384530 e384531 n384532 => ?_)
                            have he384533 : F384530 q359232 = .inr (18, [.ref q382831, .ref q382832, .int p382833, .int p382834]) := (n384532 q359232 (rn_oo he384505 he384511 (by decide))).trans he384505
                            have he384534 : F384530 q382831 = .inr (4, [.int p382861, .ref q382863, .int p382862]) := (n384532 q382831 (rn_oo he384506 he384511 (by decide))).trans he384506
                            have he384535 : F384530 q382863 = .inl (I (.object "java/lang/Object"), n382877, .inr (.inr (.inr (.inr f382878)))) := (n384532 q382863 (rn_ao he384507 he384511)).trans he384507
                            have he384536 : F384530 q382880 = .inr (17, [.ref q382889, .ref q382890, .int p382891, .int p382892]) := (n384532 q382880 (rn_oo he384508 he384511 (by decide))).trans he384508
                            have he384537 : F384530 q382889 = .inr (4, [.int p383740, .ref q383742, .int p383741]) := (n384532 q382889 (rn_oo he384509 he384511 (by decide))).trans he384509
                            have he384538 : F384530 q383742 = .inl (I (.object "java/lang/Object"), n384146, .inr (.inr (.inr (.inr f384147)))) := (n384532 q383742 (rn_ao he384510 he384511)).trans he384510
                            have he384539 : F384530 q384149 = .inr (20, [.int p384161, .int p359234, .int p359234, .int p359234, .int p384165, .int p384166, .int p384167]) := e384531
                            have hs384540 : rStr γ [1] F359231 F384530 := rStr_pu2 hs384512 n384532 ht384152 (by decide)
                            have fk384541 : rFk [1] γ F359231 F384530 := rFk_put fk384513 n384532 ht384152 (by decide)
                            obtain ⟨z384542, hz384542⟩ : ∃ z : Int32, z = g383725 + Int32.ofInt 1 := ⟨_, rfl⟩
                            have ez384542 : z384542.toInt = g383725.toInt + 1 := gI_inc hz384542 (by decide) bg383725'' (by decide) (by decide)
                            have bz384542 : gB z384542 1 1000000 := ⟨by omega, by omega⟩
                            refine G_iinc (L' := [(5, .int z384542), (6, .ref q384149), (4, .ref q382880), (3, .int g382820), (0, .ref q359232), (1, .int p359233), (2, .int p359234)]) z384542 1 dr_cX17_rename_138 rfl hz384542.symm (Nat.le_of_ble_eq_true rfl) rfl ?_
                            refine G_goto 20 dr_cX17_rename_141 (by decide +kernel) ?_
                            have hT384543 : RS D I P359230 F384530 γ el := RS_set hT384514 n384532 ht384152 (by decide) ⟨p384161, p359234, p359234, p359234, p384165, p384166, p384167, he384539, bp384161, bp359234, bp384165, bp384166, bp384167, r384168, (Or.inr bp359234), (Or.inr bp359234), r384171⟩
                            have of384544 : ∀ b, b ≠ q384149 → F384530 b = F383726 b := fun b hb => (n384532 b hb).trans (of384515 b hb)
                            refine G_lv (L' := [(5, .int z384542), (4, .ref q382880), (3, .int g382820), (0, .ref q359232), (1, .int p359233), (2, .int p359234)]) [0, 2, 3, 4, 5, 6] rfl ?_
                            exact ih20_383730 F384530 z384542 (gB_w bz384542 (by decide) (by decide)) hT384543 hs384540 (fun N hv hu hp => rPl_put hT383727 htq359232 rfl (x383729 N hv hu hp) of384544 hp384172 nb384175 hL384173 (fun _ _ _ _ z => z) (rNx_ren he384160 he384539 hu hv (Or.inr rfl) (Or.inr rfl) (Or.inr ⟨rfl, by first | assumption | omega⟩) (by rw [← hp384172]; exact x383729 N hv hu hp _ nb384175 _ hL384173))) fk384541 (mz_up ez384542 (Int.le_trans bg383725''.2 (by decide)) hm20_383730)
        exact hlp20_383730 (((1000002 : Int) - 0).toNat + 1) F382821 0 (gB_w (gBl (show Int32.toInt 0 = 0 by decide)) (by decide) (by decide)) hT382822 hs382823 x382824 x382825 (Nat.lt_succ_self _)
  exact hlp2_382825 (((1000001 : Int) - 0).toNat + 1) F359231 0 (gB_w (gBl (show Int32.toInt 0 = 0 by decide)) (by decide) (by decide)) hT (rStr_rf (γ := γ) (W := [1]) (F := F359231)) (fun N _ _ h => h) (rFk_rf) (Nat.lt_succ_self _)
