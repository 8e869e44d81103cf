abbrev ky_368450_SpillForgeModel_rename : gKey := (cX17_rename, 7, "SpillForgeModel", none, [], "rename", fun _ _ => True)
def pt_368450_SpillForgeModel_rename (D : va_G) (I : FieldType → ClassId) (γ el : Nat → Nat → Nat) (P368444 : List Nat) (F368445 : Nat → va_E) (q368446 : Nat) (p368447 : Int32) (p368448 : Int32) : Option Value → va_W → Nat → Nat → Prop := fun r w dc ds => ∃ (F394639 : Nat → va_E), r = none ∧ w = va_pl P368444 F394639 ∧ RS D I P368444 F394639 γ el ∧ rStr γ [1] F368445 F394639 ∧ dc ≤ 0 ∧ ds ≤ 0 ∧ (∀ N : Nat → Prop, N (p368448.toInt : Int).toNat → p368447.toInt < 100 → rPl γ el F368445 q368446 (γ 6 (γ 1 q368446)) (fun _ _ => rNx N) → rPl γ el F394639 q368446 (γ 6 (γ 1 q368446)) (fun _ _ => rNx N)) ∧ rFk [1] γ F368445 F394639
set_option maxRecDepth 100000 in
set_option maxHeartbeats 4000000 in
theorem ct_368450_SpillForgeModel_rename (l : Launch) (hl0 : l.stackTraces = false) (D : va_G) (I : FieldType → ClassId) (γ el : Nat → Nat → Nat) (P368444 : List Nat) (F368445 : Nat → va_E) (q368446 : Nat) (p368447 : Int32) (p368448 : Int32) (hT : RS D I P368444 F368445 γ el) (htq368446 : rKd γ q368446 9) (bp368447 : gB p368447 0 1999) (bp368448 : gB p368448 0 1999) (x368449 : 0 < γ 6 (γ 1 q368446)) : CtA (gV D I) l yX17_rename cX17_rename 7 none 4 85 0 0 [.ref q368446, .int p368447, .int p368448] (va_pl P368444 F368445) (pt_368450_SpillForgeModel_rename D I γ el P368444 F368445 q368446 p368447 p368448) gNA := by
  refine CtA_of hl0 (by decide) (Nat.le_of_ble_eq_true rfl) ?_
  refine G_iconst 0 dr_cX17_rename_0 (by decide +kernel) ?_
  refine G_istore_n (L' := [(3, .int 0), (0, .ref q368446), (1, .int p368447), (2, .int p368448)]) dr_cX17_rename_1 (Nat.le_of_ble_eq_true rfl) rfl ?_
  have hlp2_392860 : ∀ (n2_392860 : Nat) (F392856 : Nat → va_E) (g392855 : Int32), gB g392855 0 1000000 → RS D I P368444 F392856 γ el → rStr γ [1] F368445 F392856 → (∀ N : Nat → Prop, N (p368448.toInt : Int).toNat → p368447.toInt < 100 → rPl γ el F368445 q368446 (γ 6 (γ 1 q368446)) (fun _ _ => rNx N) → rPl γ el F392856 q368446 (γ 6 (γ 1 q368446)) (fun _ _ => rNx N)) → rFk [1] γ F368445 F392856 → ((1000001 : Int) - g392855.toInt).toNat < n2_392860 → G (gV D I) l (gRm 4 85 0 0) (gMA (gV D I) (pt_368450_SpillForgeModel_rename D I γ el P368444 F368445 q368446 p368447 p368448) gNA 0 0) ky_368450_SpillForgeModel_rename 2 [(3, .int g392855), (0, .ref q368446), (1, .int p368447), (2, .int p368448)] [] (va_pl P368444 F392856) 0 0 := by
    intro n2_392860
    induction n2_392860 with
    | zero => intro F392856 g392855 bg392855 hT392857 hs392858 x392859 x392860 hm2_392860; exact absurd hm2_392860 (Nat.not_lt_zero _)
    | succ n2_392860 ih2_392860 =>
      intro F392856 g392855 bg392855 hT392857 hs392858 x392859 x392860 hm2_392860
      have hs392862 : rStr γ [1] F368445 F392856 := fun b h0 hb hw => (hs392858 b h0 hb hw).trans ((rStr_rf (γ := γ) (W := [1]) (F := F368445)) b h0 hb hw).symm
      have hs392863 : rStr γ [1] F368445 F392856 := rStr_tr (rStr_rf (γ := γ) (W := [1]) (F := F368445)) hs392862
      refine G_iload_n 0 dr_cX17_rename_2 rfl ?_
      refine G_aload_n 1 dr_cX17_rename_3 rfl ?_
      have hm392864 : q368446 ∈ P368444 := RS_m hT392857 htq368446 (by decide)
      obtain ⟨q392866, q392867, p392868, p392869, he392865, ht392885, ht392870, ht392871, ht392872, ht392873, r392874, r392875, r392876, r392877, r392878, r392879, r392880, r392881, r392882, r392883, r392884⟩ := show rk_9 γ el q368446 (F392856 q368446) from RS_o hT392857 htq368446
      have bp392868 : gB p392868 0 1000000 := ⟨by omega, by omega⟩
      have bp392869 : gB p392869 0 1000000 := ⟨by omega, by omega⟩
      refine Gw_callV (As := []) (gV_ok D I) (cp_12780_Code_size l hl0 D I P368444 F392856 q368446 q392866 q392867 p392868 p392869 hm392864 he392865) dr_cX17_rename_4 ⟨wr_10_160, wr_1_15, wr_9_131, by decide, rfl, (Nat.le_of_ble_eq_true rfl), (Nat.le_of_ble_eq_true rfl)⟩ wr_9_129 wr_9_130 hm392864 he392865 rfl (show 0 + 0 ≤ 0 by first | omega | decide) (show 0 + 0 ≤ 0 by first | omega | decide) (Nat.le_of_ble_eq_true rfl) (fun r392889 w392890 dc392886 ds392887 hp392888 => ?_) (fun _ _ _ _ _ z => z.elim)
      obtain ⟨rfl, rfl, hdc, hds⟩ := hp392888
      change G _ _ _ _ _ _ _ (.int p392869 :: _) _ _ _
      refine G_widen (cs' := 0) (sl' := 0) (by omega) (by omega) ?_
      refine G_icmp_ge 150 dr_cX17_rename_7 (by decide +kernel) (fun hc392891 => ?_) (fun hc392891 => ?_)
      · have r392892 : p392869.toInt ≤ g392855.toInt := gC_le hc392891
        exact G_vretA dr_cX17_rename_150 rfl (Nat.le_of_ble_eq_true rfl) (Nat.le_of_ble_eq_true rfl) ⟨F392856, rfl, rfl, hT392857, hs392858, (Nat.le_of_ble_eq_true rfl), (Nat.le_of_ble_eq_true rfl), x392859, x392860⟩
      · have r392893 : g392855.toInt < p392869.toInt := gC_nle hc392891
        have bg392855' : gB g392855 0 999999 := ⟨by omega, by omega⟩
        have bp392869' : gB p392869 1 1000000 := ⟨by omega, by omega⟩
        refine G_aload_n 1 dr_cX17_rename_10 rfl ?_
        refine G_iload_n 0 dr_cX17_rename_11 rfl ?_
        have hm392894 : q392866 ∈ P368444 := RS_m hT392857 ht392870 (by decide)
        obtain ⟨⟨p392896, p392897, q392898, he392895, r392899, r392900, r392901, r392903⟩, r392902⟩ := show rk_4 D I γ el F392856 q392866 from RS_o hT392857 ht392870
        have bp392896 := gB_any p392896
        have bp392897 : gB p392897 0 1000000 := ⟨by omega, by omega⟩
        obtain ⟨r392904, r392905, n392912, f392913, r392906, r392907, r392908, r392909, r392910, r392911⟩ := rLC_n r392901 (by omega)
        have hm392914 : q392898 ∈ P368444 := RS_m hT392857 r392904 (by decide)
        obtain ⟨q392915, hx392916⟩ : ∃ x, x = el q392866 g392855.toInt.toNat := ⟨_, rfl⟩
        have hx392917 : f392913 g392855.toNatClampNeg = some q392915 := (r392910 _ (show g392855.toInt.toNat < γ 2 q392866 by omega)).trans (by rw [hx392916])
        have ht392920 : rKd γ q392915 2 := by rw [hx392916]; exact (r392881 _ (by omega)).resolve_right (fun z => absurd z.1 (by omega))
        have ht392921 : rFm γ q392915 q392866 := by rw [hx392916]; exact (r392902 _ (show g392855.toInt.toNat < γ 2 q392866 by omega)).2.1
        have hm392922 : q392915 ∈ P368444 := RS_m hT392857 ht392920 (by decide)
        obtain ⟨q392924, q392925, p392926, p392927, he392923, ht392934, ht392928, ht392929, ht392930, ht392931, ht392932, bp392926, bp392927, r392933, r392935, r392936⟩ := show rk_2 γ q392915 (F392856 q392915) from RS_o hT392857 ht392920
        refine Gw_callV (As := [.int g392855]) (gV_ok D I) (cp_7901_Code_get l hl0 D I P368444 F392856 q368446 q392866 q392898 g392855 q392867 p392868 p392869 p392896 p392897 f392913 n392912 q392915 q392924 q392925 p392926 p392927 hm392864 hm392894 hm392914 hm392922 he392865 he392895 r392906 he392923 (gB_w bg392855' (by decide) (by decide)) (gB_w bp392897 (by decide) (by decide)) (by omega) (by omega) (by assumption) (by omega)) dr_cX17_rename_12 ⟨wr_10_161, wr_1_15, wr_10_141, by decide, rfl, (Nat.le_of_ble_eq_true rfl), (Nat.le_of_ble_eq_true rfl)⟩ wr_10_139 wr_10_140 hm392864 he392865 rfl (show 0 + 0 ≤ 0 by first | omega | decide) (show 0 + 0 ≤ 0 by first | omega | decide) (Nat.le_of_ble_eq_true rfl) (fun r392940 w392941 dc392937 ds392938 hp392939 => ?_) (fun _ _ _ _ _ z => z.elim)
        obtain ⟨rfl, rfl, hdc, hds, ht392942⟩ := hp392939
        change G _ _ _ _ _ _ _ (.ref q392915 :: _) _ _ _
        refine G_widen (cs' := 0) (sl' := 0) (by omega) (by omega) ?_
        have hb392943 : el (γ 14 q368446) (g392855.toInt : Int).toNat = q392915 := by rw [ht392885.1, hx392916]
        refine G_astore (L' := [(4, .ref q392915), (3, .int g392855), (0, .ref q368446), (1, .int p368447), (2, .int p368448)]) dr_cX17_rename_15 (Nat.le_of_ble_eq_true rfl) rfl ?_
        refine G_iconst 0 dr_cX17_rename_17 (by decide +kernel) ?_
        refine G_istore (L' := [(5, .int 0), (4, .ref q392915), (3, .int g392855), (0, .ref q368446), (1, .int p368447), (2, .int p368448)]) dr_cX17_rename_18 (Nat.le_of_ble_eq_true rfl) rfl ?_
        have hlp20_393795 : ∀ (n20_393795 : Nat) (F393791 : Nat → va_E) (g393790 : Int32), gB g393790 0 1000001 → RS D I P368444 F393791 γ el → rStr γ [1] F368445 F393791 → (∀ N : Nat → Prop, N (p368448.toInt : Int).toNat → p368447.toInt < 100 → rPl γ el F368445 q368446 (γ 6 (γ 1 q368446)) (fun _ _ => rNx N) → rPl γ el F393791 q368446 (γ 6 (γ 1 q368446)) (fun _ _ => rNx N)) → rFk [1] γ F368445 F393791 → ((1000002 : Int) - g393790.toInt).toNat < n20_393795 → G (gV D I) l (gRm 4 85 0 0) (gMA (gV D I) (pt_368450_SpillForgeModel_rename D I γ el P368444 F368445 q368446 p368447 p368448) gNA 0 0) ky_368450_SpillForgeModel_rename 20 [(5, .int g393790), (4, .ref q392915), (3, .int g392855), (0, .ref q368446), (1, .int p368447), (2, .int p368448)] [] (va_pl P368444 F393791) 0 0 := by
          intro n20_393795
          induction n20_393795 with
          | zero => intro F393791 g393790 bg393790 hT393792 hs393793 x393794 x393795 hm20_393795; exact absurd hm20_393795 (Nat.not_lt_zero _)
          | succ n20_393795 ih20_393795 =>
            intro F393791 g393790 bg393790 hT393792 hs393793 x393794 x393795 hm20_393795
            have hs393797 : rStr γ [1] F392856 F393791 := fun b h0 hb hw => (hs393793 b h0 hb hw).trans (hs392858 b h0 hb hw).symm
            have he393798 : F393791 q368446 = .inr (18, [.ref q392866, .ref q392867, .int p392868, .int p392869]) := (hs393797 q368446 (rT0 htq368446 (by decide)) (rT1 htq368446 (by decide)) (rT2 htq368446 (by decide))).trans he392865
            have he393799 : F393791 q392866 = .inr (4, [.int p392896, .ref q392898, .int p392897]) := (hs393797 q392866 (rT0 ht392870 (by decide)) (rT1 ht392870 (by decide)) (rT2 ht392870 (by decide))).trans he392895
            have he393800 : F393791 q392898 = .inl (I (.object "java/lang/Object"), n392912, .inr (.inr (.inr (.inr f392913)))) := (hs393797 q392898 (rT0 r392904 (by decide)) (rT1 r392904 (by decide)) (rT2 r392904 (by decide))).trans r392906
            have he393801 : F393791 q392915 = .inr (17, [.ref q392924, .ref q392925, .int p392926, .int p392927]) := (hs393797 q392915 (rT0 ht392920 (by decide)) (rT1 ht392920 (by decide)) (rT2 ht392920 (by decide))).trans he392923
            have hs393802 : rStr γ [1] F368445 F393791 := rStr_tr hs392858 hs393797
            refine G_iload 0 dr_cX17_rename_20 rfl ?_
            refine G_aload 1 dr_cX17_rename_22 rfl ?_
            refine Gp_get 0 hm392922 he393801 dr_cX17_rename_24 (gk_X12 D I) (Nat.le_of_ble_eq_true rfl) wr_9_220 rfl ?_
            have hm393803 : q392924 ∈ P368444 := RS_m hT393792 ht392928 (by decide)
            obtain ⟨⟨p393805, p393806, q393807, he393804, r393808, r393809, r393810, r393812⟩, r393811⟩ := show rk_3 D I γ el F393791 q392924 from RS_o hT393792 ht392928
            have bp393805 := gB_any p393805
            have bp393806 : gB p393806 0 1000000 := ⟨by omega, by omega⟩
            refine Gw_callV (As := []) (gV_ok D I) (cp_7_ArrayList_size l hl0 D I P368444 F393791 q392924 p393805 q393807 p393806 hm393803 he393804 (gB_w bp393806 (by decide) (by decide))) dr_cX17_rename_27 ⟨wr_10_200, wr_1_18, wr_9_160, by decide, rfl, (Nat.le_of_ble_eq_true rfl), (Nat.le_of_ble_eq_true rfl)⟩ wr_9_158 wr_9_159 hm393803 he393804 rfl (show 0 + 0 ≤ 0 by first | omega | decide) (show 0 + 0 ≤ 0 by first | omega | decide) (Nat.le_of_ble_eq_true rfl) (fun r393816 w393817 dc393813 ds393814 hp393815 => ?_) (fun _ _ _ _ _ z => z.elim)
            obtain ⟨rfl, rfl, hdc, hds⟩ := hp393815
            change G _ _ _ _ _ _ _ (.int p393806 :: _) _ _ _
            refine G_widen (cs' := 0) (sl' := 0) (by omega) (by omega) ?_
            refine G_icmp_gt 144 dr_cX17_rename_30 (by decide +kernel) (fun hc393818 => ?_) (fun hc393818 => ?_)
            · have r393819 : p393806.toInt < g393790.toInt := gC_lt hc393818
              have bg393790' : gB g393790 1 1000001 := ⟨by omega, by omega⟩
              obtain ⟨z393820, hz393820⟩ : ∃ z : Int32, z = g392855 + Int32.ofInt 1 := ⟨_, rfl⟩
              have ez393820 : z393820.toInt = g392855.toInt + 1 := gI_inc hz393820 (by decide) bg392855' (by decide) (by decide)
              have bz393820 : gB z393820 1 1000000 := ⟨by omega, by omega⟩
              refine G_iinc (L' := [(3, .int z393820), (5, .int g393790), (4, .ref q392915), (0, .ref q368446), (1, .int p368447), (2, .int p368448)]) z393820 2 dr_cX17_rename_144 rfl hz393820.symm (Nat.le_of_ble_eq_true rfl) rfl ?_
              refine G_goto 2 dr_cX17_rename_147 (by decide +kernel) ?_
              refine G_lv (L' := [(3, .int z393820), (0, .ref q368446), (1, .int p368447), (2, .int p368448)]) [0, 3, 4, 5] rfl ?_
              exact ih2_392860 F393791 z393820 (gB_w bz393820 (by decide) (by decide)) hT393792 hs393793 x393794 x393795 (mz_up ez393820 (Int.le_trans bg392855'.2 (by decide)) hm2_392860)
            · have r393821 : g393790.toInt ≤ p393806.toInt := gC_nlt hc393818
              have bg393790' : gB g393790 0 1000000 := ⟨by omega, by omega⟩
              refine G_iload 0 dr_cX17_rename_33 rfl ?_
              refine G_aload 1 dr_cX17_rename_35 rfl ?_
              refine Gp_get 0 hm392922 he393801 dr_cX17_rename_37 (gk_X12 D I) (Nat.le_of_ble_eq_true rfl) wr_9_220 rfl ?_
              refine Gw_callV (As := []) (gV_ok D I) (cp_7_ArrayList_size l hl0 D I P368444 F393791 q392924 p393805 q393807 p393806 hm393803 he393804 (gB_w bp393806 (by decide) (by decide))) dr_cX17_rename_40 ⟨wr_10_200, wr_1_18, wr_9_160, by decide, rfl, (Nat.le_of_ble_eq_true rfl), (Nat.le_of_ble_eq_true rfl)⟩ wr_9_158 wr_9_159 hm393803 he393804 rfl (show 0 + 0 ≤ 0 by first | omega | decide) (show 0 + 0 ≤ 0 by first | omega | decide) (Nat.le_of_ble_eq_true rfl) (fun r393825 w393826 dc393822 ds393823 hp393824 => ?_) (fun _ _ _ _ _ z => z.elim)
              obtain ⟨rfl, rfl, hdc, hds⟩ := hp393824
              change G _ _ _ _ _ _ _ (.int p393806 :: _) _ _ _
              refine G_widen (cs' := 0) (sl' := 0) (by omega) (by omega) ?_
              refine G_icmp_ge 62 dr_cX17_rename_43 (by decide +kernel) (fun hc393827 => ?_) (fun hc393827 => ?_)
              · have r393828 : p393806.toInt ≤ g393790.toInt := gC_le hc393827
                refine G_aload 1 dr_cX17_rename_62 rfl ?_
                refine Gp_get 1 hm392922 he393801 dr_cX17_rename_64 (gk_X12 D I) (Nat.le_of_ble_eq_true rfl) wr_9_223 rfl ?_
                have fl393831 : p393806.toInt = γ 2 q392924 := r393808
                have hp393829 : rAt γ el q368446 (g392855.toInt : Int).toNat (g393790.toInt : Int).toNat = q392925 := (rAt_e hb392943 ht392934.1 (by omega)).trans ht392934.2.1
                have hL393830 : (g393790.toInt : Int).toNat ≤ γ 2 (rwL γ el q368446 (g392855.toInt : Int).toNat) := by unfold rwL; rw [hb392943, ht392934.1]; omega
                have nb393832 : (g392855.toInt : Int).toNat < γ 6 (γ 1 q368446) := by omega
                have hm393833 : q392925 ∈ P368444 := RS_m hT393792 ht392930 (by decide)
                obtain ⟨p393835, p393836, p393837, p393838, p393839, p393840, p393841, he393834, bp393835, bp393836, bp393839, bp393840, bp393841, r393842, r393843, r393844, r393845, r393846⟩ := show rk_1 γ q392925 (F393791 q392925) from RS_o hT393792 ht392930
                have bp393837 := gB_any p393837
                have bp393838 := gB_any p393838
                refine G_astore (L' := [(6, .ref q392925), (5, .int g393790), (4, .ref q392915), (3, .int g392855), (0, .ref q368446), (1, .int p368447), (2, .int p368448)]) dr_cX17_rename_67 (Nat.le_of_ble_eq_true rfl) rfl ?_
                refine G_aload 0 dr_cX17_rename_69 rfl ?_
                refine Gw_callV (As := []) (gV_ok D I) (cp_1675_Row_usesA l hl0 D I P368444 F393791 q392925 p393835 p393836 p393837 p393838 p393839 p393840 p393841 hm393833 he393834 bp393835 bp393836 bp393839 bp393840 bp393841) dr_cX17_rename_71 ⟨wr_10_192, wr_1_39, wr_10_195, by decide, rfl, (Nat.le_of_ble_eq_true rfl), (Nat.le_of_ble_eq_true rfl)⟩ wr_10_193 wr_10_194 hm393833 he393834 rfl (show 0 + 0 ≤ 0 by first | omega | decide) (show 0 + 0 ≤ 0 by first | omega | decide) (Nat.le_of_ble_eq_true rfl) (fun r393850 w393851 dc393847 ds393848 hp393849 => ?_) (fun _ _ _ _ _ z => z.elim)
                obtain ⟨o393852, rfl, rfl, hdc, hds, bo393852, x393853, ht393854⟩ := hp393849
                change G _ _ _ _ _ _ _ (.int o393852 :: _) _ _ _
                refine G_widen (cs' := 0) (sl' := 0) (by omega) (by omega) ?_
                refine G_if_eq 92 dr_cX17_rename_74 (by decide +kernel) (fun hc393855 => ?_) (fun hc393855 => ?_)
                · have r393856 : o393852.toInt = 0 := gj_eq hc393855 (show Int32.toInt 0 = 0 by decide)
                  have bo393852' : gB o393852 0 0 := gB_t0 r393856
                  refine G_aload 0 dr_cX17_rename_92 rfl ?_
                  refine Gw_callV (As := []) (gV_ok D I) (cp_1699_Row_usesB l hl0 D I P368444 F393791 q392925 p393835 p393836 p393837 p393838 p393839 p393840 p393841 hm393833 he393834 bp393835 bp393836 bp393839 bp393840 bp393841) dr_cX17_rename_94 ⟨wr_10_196, wr_1_39, wr_10_199, by decide, rfl, (Nat.le_of_ble_eq_true rfl), (Nat.le_of_ble_eq_true rfl)⟩ wr_10_197 wr_10_198 hm393833 he393834 rfl (show 0 + 0 ≤ 0 by first | omega | decide) (show 0 + 0 ≤ 0 by first | omega | decide) (Nat.le_of_ble_eq_true rfl) (fun r393860 w393861 dc393857 ds393858 hp393859 => ?_) (fun _ _ _ _ _ z => z.elim)
                  obtain ⟨o393862, rfl, rfl, hdc, hds, bo393862, x393863, ht393864⟩ := hp393859
                  change G _ _ _ _ _ _ _ (.int o393862 :: _) _ _ _
                  refine G_widen (cs' := 0) (sl' := 0) (by omega) (by omega) ?_
                  refine G_if_eq 115 dr_cX17_rename_97 (by decide +kernel) (fun hc393865 => ?_) (fun hc393865 => ?_)
                  · have r393866 : o393862.toInt = 0 := gj_eq hc393865 (show Int32.toInt 0 = 0 by decide)
                    have bo393862' : gB o393862 0 0 := gB_t0 r393866
                    refine G_aload 0 dr_cX17_rename_115 rfl ?_
                    refine Gw_callV (As := []) (gV_ok D I) (cp_1660_Row_sets l hl0 D I P368444 F393791 q392925 p393835 p393836 p393837 p393838 p393839 p393840 p393841 hm393833 he393834 bp393835 bp393836 bp393839 bp393840 bp393841) dr_cX17_rename_117 ⟨wr_10_181, wr_1_39, wr_10_184, by decide, rfl, (Nat.le_of_ble_eq_true rfl), (Nat.le_of_ble_eq_true rfl)⟩ wr_10_182 wr_10_183 hm393833 he393834 rfl (show 0 + 0 ≤ 0 by first | omega | decide) (show 0 + 0 ≤ 0 by first | omega | decide) (Nat.le_of_ble_eq_true rfl) (fun r393870 w393871 dc393867 ds393868 hp393869 => ?_) (fun _ _ _ _ _ z => z.elim)
                    obtain ⟨o393872, rfl, rfl, hdc, hds, bo393872, ht393873⟩ := hp393869
                    change G _ _ _ _ _ _ _ (.int o393872 :: _) _ _ _
                    refine G_widen (cs' := 0) (sl' := 0) (by omega) (by omega) ?_
                    refine G_if_eq 138 dr_cX17_rename_120 (by decide +kernel) (fun hc393874 => ?_) (fun hc393874 => ?_)
                    · have r393875 : o393872.toInt = 0 := gj_eq hc393874 (show Int32.toInt 0 = 0 by decide)
                      have bo393872' : gB o393872 0 0 := gB_t0 r393875
                      obtain ⟨z393876, hz393876⟩ : ∃ z : Int32, z = g393790 + Int32.ofInt 1 := ⟨_, rfl⟩
                      have ez393876 : z393876.toInt = g393790.toInt + 1 := gI_inc hz393876 (by decide) bg393790' (by decide) (by decide)
                      have bz393876 : gB z393876 1 1000001 := ⟨by omega, by omega⟩
                      refine G_iinc (L' := [(5, .int z393876), (6, .ref q392925), (4, .ref q392915), (3, .int g392855), (0, .ref q368446), (1, .int p368447), (2, .int p368448)]) z393876 1 dr_cX17_rename_138 rfl hz393876.symm (Nat.le_of_ble_eq_true rfl) rfl ?_
                      refine G_goto 20 dr_cX17_rename_141 (by decide +kernel) ?_
                      refine G_lv (L' := [(5, .int z393876), (4, .ref q392915), (3, .int g392855), (0, .ref q368446), (1, .int p368447), (2, .int p368448)]) [0, 2, 3, 4, 5, 6] rfl ?_
                      exact ih20_393795 F393791 z393876 (gB_w bz393876 (by decide) (by decide)) hT393792 hs393793 x393794 x393795 (mz_up ez393876 (Int.le_trans bg393790'.2 (by decide)) hm20_393795)
                    · have r393877 : o393872.toInt ≠ 0 := gj_neq hc393874 (show Int32.toInt 0 = 0 by decide)
                      have bo393872' : gB o393872 1 1 := gB_t1 bo393872 r393877
                      refine G_aload 0 dr_cX17_rename_123 rfl ?_
                      refine Gp_get 1 hm393833 he393834 dr_cX17_rename_125 (gk_X15 D I) (Nat.le_of_ble_eq_true rfl) wr_9_182 rfl ?_
                      refine G_iload_n 5 dr_cX17_rename_128 rfl ?_
                      refine G_icmp_ne 138 dr_cX17_rename_129 (by decide +kernel) (fun hc393878 => ?_) (fun hc393878 => ?_)
                      · have r393879 : p393836.toInt ≠ p368447.toInt := gC_ne hc393878
                        obtain ⟨z393880, hz393880⟩ : ∃ z : Int32, z = g393790 + Int32.ofInt 1 := ⟨_, rfl⟩
                        have ez393880 : z393880.toInt = g393790.toInt + 1 := gI_inc hz393880 (by decide) bg393790' (by decide) (by decide)
                        have bz393880 : gB z393880 1 1000001 := ⟨by omega, by omega⟩
                        refine G_iinc (L' := [(5, .int z393880), (6, .ref q392925), (4, .ref q392915), (3, .int g392855), (0, .ref q368446), (1, .int p368447), (2, .int p368448)]) z393880 1 dr_cX17_rename_138 rfl hz393880.symm (Nat.le_of_ble_eq_true rfl) rfl ?_
                        refine G_goto 20 dr_cX17_rename_141 (by decide +kernel) ?_
                        refine G_lv (L' := [(5, .int z393880), (4, .ref q392915), (3, .int g392855), (0, .ref q368446), (1, .int p368447), (2, .int p368448)]) [0, 2, 3, 4, 5, 6] rfl ?_
                        exact ih20_393795 F393791 z393880 (gB_w bz393880 (by decide) (by decide)) hT393792 hs393793 x393794 x393795 (mz_up ez393880 (Int.le_trans bg393790'.2 (by decide)) hm20_393795)
                      · have r393881 : p393836.toInt = p368447.toInt := gC_eq hc393878
                        refine G_aload 0 dr_cX17_rename_132 rfl ?_
                        refine G_iload_n 6 dr_cX17_rename_134 rfl ?_
                        refine Gp_put 1 hm393833 he393834 dr_cX17_rename_135 (gk_X15 D I) (Nat.le_of_ble_eq_true rfl) wr_9_182 rfl rfl rfl (Nat.le_of_ble_eq_true rfl) (fun F393882 e393883 n393884 => ?_)
                        have he393885 : F393882 q368446 = .inr (18, [.ref q392866, .ref q392867, .int p392868, .int p392869]) := (n393884 q368446 (rn_oo he393798 he393834 (by decide))).trans he393798
                        have he393886 : F393882 q392866 = .inr (4, [.int p392896, .ref q392898, .int p392897]) := (n393884 q392866 (rn_oo he393799 he393834 (by decide))).trans he393799
                        have he393887 : F393882 q392898 = .inl (I (.object "java/lang/Object"), n392912, .inr (.inr (.inr (.inr f392913)))) := (n393884 q392898 (rn_ao he393800 he393834)).trans he393800
                        have he393888 : F393882 q392915 = .inr (17, [.ref q392924, .ref q392925, .int p392926, .int p392927]) := (n393884 q392915 (rn_oo he393801 he393834 (by decide))).trans he393801
                        have he393889 : F393882 q392924 = .inr (4, [.int p393805, .ref q393807, .int p393806]) := (n393884 q392924 (rn_oo he393804 he393834 (by decide))).trans he393804
                        have he393890 : F393882 q392925 = .inr (20, [.int p393835, .int p368448, .int p393837, .int p393838, .int p393839, .int p393840, .int p393841]) := e393883
                        have hs393891 : rStr γ [1] F368445 F393882 := rStr_pu2 hs393793 n393884 ht392930 (by decide)
                        have fk393892 : rFk [1] γ F368445 F393882 := rFk_put x393795 n393884 ht392930 (by decide)
                        obtain ⟨z393893, hz393893⟩ : ∃ z : Int32, z = g393790 + Int32.ofInt 1 := ⟨_, rfl⟩
                        have ez393893 : z393893.toInt = g393790.toInt + 1 := gI_inc hz393893 (by decide) bg393790' (by decide) (by decide)
                        have bz393893 : gB z393893 1 1000001 := ⟨by omega, by omega⟩
                        refine G_iinc (L' := [(5, .int z393893), (6, .ref q392925), (4, .ref q392915), (3, .int g392855), (0, .ref q368446), (1, .int p368447), (2, .int p368448)]) z393893 1 dr_cX17_rename_138 rfl hz393893.symm (Nat.le_of_ble_eq_true rfl) rfl ?_
                        refine G_goto 20 dr_cX17_rename_141 (by decide +kernel) ?_
                        have hT393894 : RS D I P368444 F393882 γ el := RS_set hT393792 n393884 ht392930 (by decide) ⟨p393835, p368448, p393837, p393838, p393839, p393840, p393841, he393890, bp393835, bp368448, bp393839, bp393840, bp393841, r393842, r393843, r393844, r393845, r393846⟩
                        refine G_lv (L' := [(5, .int z393893), (4, .ref q392915), (3, .int g392855), (0, .ref q368446), (1, .int p368447), (2, .int p368448)]) [0, 2, 3, 4, 5, 6] rfl ?_
                        exact ih20_393795 F393882 z393893 (gB_w bz393893 (by decide) (by decide)) hT393894 hs393891 (fun N hv hu hp => rPl_put hT393792 htq368446 rfl (x393794 N hv hu hp) n393884 hp393829 nb393832 hL393830 (fun _ _ _ _ z => z) (rNx_ren he393834 he393890 hu hv (Or.inl rfl) (Or.inl rfl) (Or.inr ⟨rfl, by first | assumption | omega⟩) (by rw [← hp393829]; exact x393794 N hv hu hp _ nb393832 _ hL393830))) fk393892 (mz_up ez393893 (Int.le_trans bg393790'.2 (by decide)) hm20_393795)
                  · have r393896 : o393862.toInt ≠ 0 := gj_neq hc393865 (show Int32.toInt 0 = 0 by decide)
                    have bo393862' : gB o393862 1 1 := gB_t1 bo393862 r393896
                    refine G_aload 0 dr_cX17_rename_100 rfl ?_
                    refine Gp_get 3 hm393833 he393834 dr_cX17_rename_102 (gk_X15 D I) (Nat.le_of_ble_eq_true rfl) wr_9_190 rfl ?_
                    refine G_iload_n 5 dr_cX17_rename_105 rfl ?_
                    refine G_icmp_ne 115 dr_cX17_rename_106 (by decide +kernel) (fun hc393897 => ?_) (fun hc393897 => ?_)
                    · have r393898 : p393838.toInt ≠ p368447.toInt := gC_ne hc393897
                      refine G_aload 0 dr_cX17_rename_115 rfl ?_
                      refine Gw_callV (As := []) (gV_ok D I) (cp_1660_Row_sets l hl0 D I P368444 F393791 q392925 p393835 p393836 p393837 p393838 p393839 p393840 p393841 hm393833 he393834 bp393835 bp393836 bp393839 bp393840 bp393841) dr_cX17_rename_117 ⟨wr_10_181, wr_1_39, wr_10_184, by decide, rfl, (Nat.le_of_ble_eq_true rfl), (Nat.le_of_ble_eq_true rfl)⟩ wr_10_182 wr_10_183 hm393833 he393834 rfl (show 0 + 0 ≤ 0 by first | omega | decide) (show 0 + 0 ≤ 0 by first | omega | decide) (Nat.le_of_ble_eq_true rfl) (fun r393902 w393903 dc393899 ds393900 hp393901 => ?_) (fun _ _ _ _ _ z => z.elim)
                      obtain ⟨o393904, rfl, rfl, hdc, hds, bo393904, ht393905⟩ := hp393901
                      change G _ _ _ _ _ _ _ (.int o393904 :: _) _ _ _
                      refine G_widen (cs' := 0) (sl' := 0) (by omega) (by omega) ?_
                      refine G_if_eq 138 dr_cX17_rename_120 (by decide +kernel) (fun hc393906 => ?_) (fun hc393906 => ?_)
                      · have r393907 : o393904.toInt = 0 := gj_eq hc393906 (show Int32.toInt 0 = 0 by decide)
                        have bo393904' : gB o393904 0 0 := gB_t0 r393907
                        obtain ⟨z393908, hz393908⟩ : ∃ z : Int32, z = g393790 + Int32.ofInt 1 := ⟨_, rfl⟩
                        have ez393908 : z393908.toInt = g393790.toInt + 1 := gI_inc hz393908 (by decide) bg393790' (by decide) (by decide)
                        have bz393908 : gB z393908 1 1000001 := ⟨by omega, by omega⟩
                        refine G_iinc (L' := [(5, .int z393908), (6, .ref q392925), (4, .ref q392915), (3, .int g392855), (0, .ref q368446), (1, .int p368447), (2, .int p368448)]) z393908 1 dr_cX17_rename_138 rfl hz393908.symm (Nat.le_of_ble_eq_true rfl) rfl ?_
                        refine G_goto 20 dr_cX17_rename_141 (by decide +kernel) ?_
                        refine G_lv (L' := [(5, .int z393908), (4, .ref q392915), (3, .int g392855), (0, .ref q368446), (1, .int p368447), (2, .int p368448)]) [0, 2, 3, 4, 5, 6] rfl ?_
                        exact ih20_393795 F393791 z393908 (gB_w bz393908 (by decide) (by decide)) hT393792 hs393793 x393794 x393795 (mz_up ez393908 (Int.le_trans bg393790'.2 (by decide)) hm20_393795)
                      · have r393909 : o393904.toInt ≠ 0 := gj_neq hc393906 (show Int32.toInt 0 = 0 by decide)
                        have bo393904' : gB o393904 1 1 := gB_t1 bo393904 r393909
                        refine G_aload 0 dr_cX17_rename_123 rfl ?_
                        refine Gp_get 1 hm393833 he393834 dr_cX17_rename_125 (gk_X15 D I) (Nat.le_of_ble_eq_true rfl) wr_9_182 rfl ?_
                        refine G_iload_n 5 dr_cX17_rename_128 rfl ?_
                        refine G_icmp_ne 138 dr_cX17_rename_129 (by decide +kernel) (fun hc393910 => ?_) (fun hc393910 => ?_)
                        · have r393911 : p393836.toInt ≠ p368447.toInt := gC_ne hc393910
                          obtain ⟨z393912, hz393912⟩ : ∃ z : Int32, z = g393790 + Int32.ofInt 1 := ⟨_, rfl⟩
                          have ez393912 : z393912.toInt = g393790.toInt + 1 := gI_inc hz393912 (by decide) bg393790' (by decide) (by decide)
                          have bz393912 : gB z393912 1 1000001 := ⟨by omega, by omega⟩
                          refine G_iinc (L' := [(5, .int z393912), (6, .ref q392925), (4, .ref q392915), (3, .int g392855), (0, .ref q368446), (1, .int p368447), (2, .int p368448)]) z393912 1 dr_cX17_rename_138 rfl hz393912.symm (Nat.le_of_ble_eq_true rfl) rfl ?_
                          refine G_goto 20 dr_cX17_rename_141 (by decide +kernel) ?_
                          refine G_lv (L' := [(5, .int z393912), (4, .ref q392915), (3, .int g392855), (0, .ref q368446), (1, .int p368447), (2, .int p368448)]) [0, 2, 3, 4, 5, 6] rfl ?_
                          exact ih20_393795 F393791 z393912 (gB_w bz393912 (by decide) (by decide)) hT393792 hs393793 x393794 x393795 (mz_up ez393912 (Int.le_trans bg393790'.2 (by decide)) hm20_393795)
                        · have r393913 : p393836.toInt = p368447.toInt := gC_eq hc393910
                          refine G_aload 0 dr_cX17_rename_132 rfl ?_
                          refine G_iload_n 6 dr_cX17_rename_134 rfl ?_
                          refine Gp_put 1 hm393833 he393834 dr_cX17_rename_135 (gk_X15 D I) (Nat.le_of_ble_eq_true rfl) wr_9_182 rfl rfl rfl (Nat.le_of_ble_eq_true rfl) (fun F393914 e393915 n393916 => ?_)
                          have he393917 : F393914 q368446 = .inr (18, [.ref q392866, .ref q392867, .int p392868, .int p392869]) := (n393916 q368446 (rn_oo he393798 he393834 (by decide))).trans he393798
                          have he393918 : F393914 q392866 = .inr (4, [.int p392896, .ref q392898, .int p392897]) := (n393916 q392866 (rn_oo he393799 he393834 (by decide))).trans he393799
                          have he393919 : F393914 q392898 = .inl (I (.object "java/lang/Object"), n392912, .inr (.inr (.inr (.inr f392913)))) := (n393916 q392898 (rn_ao he393800 he393834)).trans he393800
                          have he393920 : F393914 q392915 = .inr (17, [.ref q392924, .ref q392925, .int p392926, .int p392927]) := (n393916 q392915 (rn_oo he393801 he393834 (by decide))).trans he393801
                          have he393921 : F393914 q392924 = .inr (4, [.int p393805, .ref q393807, .int p393806]) := (n393916 q392924 (rn_oo he393804 he393834 (by decide))).trans he393804
                          have he393922 : F393914 q392925 = .inr (20, [.int p393835, .int p368448, .int p393837, .int p393838, .int p393839, .int p393840, .int p393841]) := e393915
                          have hs393923 : rStr γ [1] F368445 F393914 := rStr_pu2 hs393793 n393916 ht392930 (by decide)
                          have fk393924 : rFk [1] γ F368445 F393914 := rFk_put x393795 n393916 ht392930 (by decide)
                          obtain ⟨z393925, hz393925⟩ : ∃ z : Int32, z = g393790 + Int32.ofInt 1 := ⟨_, rfl⟩
                          have ez393925 : z393925.toInt = g393790.toInt + 1 := gI_inc hz393925 (by decide) bg393790' (by decide) (by decide)
                          have bz393925 : gB z393925 1 1000001 := ⟨by omega, by omega⟩
                          refine G_iinc (L' := [(5, .int z393925), (6, .ref q392925), (4, .ref q392915), (3, .int g392855), (0, .ref q368446), (1, .int p368447), (2, .int p368448)]) z393925 1 dr_cX17_rename_138 rfl hz393925.symm (Nat.le_of_ble_eq_true rfl) rfl ?_
                          refine G_goto 20 dr_cX17_rename_141 (by decide +kernel) ?_
                          have hT393926 : RS D I P368444 F393914 γ el := RS_set hT393792 n393916 ht392930 (by decide) ⟨p393835, p368448, p393837, p393838, p393839, p393840, p393841, he393922, bp393835, bp368448, bp393839, bp393840, bp393841, r393842, r393843, r393844, r393845, r393846⟩
                          refine G_lv (L' := [(5, .int z393925), (4, .ref q392915), (3, .int g392855), (0, .ref q368446), (1, .int p368447), (2, .int p368448)]) [0, 2, 3, 4, 5, 6] rfl ?_
                          exact ih20_393795 F393914 z393925 (gB_w bz393925 (by decide) (by decide)) hT393926 hs393923 (fun N hv hu hp => rPl_put hT393792 htq368446 rfl (x393794 N hv hu hp) n393916 hp393829 nb393832 hL393830 (fun _ _ _ _ z => z) (rNx_ren he393834 he393922 hu hv (Or.inl rfl) (Or.inl rfl) (Or.inr ⟨rfl, by first | assumption | omega⟩) (by rw [← hp393829]; exact x393794 N hv hu hp _ nb393832 _ hL393830))) fk393924 (mz_up ez393925 (Int.le_trans bg393790'.2 (by decide)) hm20_393795)
                    · have r393928 : p393838.toInt = p368447.toInt := gC_eq hc393897
                      have bp393838' : gB p393838 0 1999 := ⟨by omega, by omega⟩
                      refine G_aload 0 dr_cX17_rename_109 rfl ?_
                      refine G_iload_n 6 dr_cX17_rename_111 rfl ?_
                      refine Gp_put 3 hm393833 he393834 dr_cX17_rename_112 (gk_X15 D I) (Nat.le_of_ble_eq_true rfl) wr_9_190 rfl rfl rfl (Nat.le_of_ble_eq_true rfl) (fun F393929 e393930 n393931 => ?_)
                      have he393932 : F393929 q368446 = .inr (18, [.ref q392866, .ref q392867, .int p392868, .int p392869]) := (n393931 q368446 (rn_oo he393798 he393834 (by decide))).trans he393798
                      have he393933 : F393929 q392866 = .inr (4, [.int p392896, .ref q392898, .int p392897]) := (n393931 q392866 (rn_oo he393799 he393834 (by decide))).trans he393799
                      have he393934 : F393929 q392898 = .inl (I (.object "java/lang/Object"), n392912, .inr (.inr (.inr (.inr f392913)))) := (n393931 q392898 (rn_ao he393800 he393834)).trans he393800
                      have he393935 : F393929 q392915 = .inr (17, [.ref q392924, .ref q392925, .int p392926, .int p392927]) := (n393931 q392915 (rn_oo he393801 he393834 (by decide))).trans he393801
                      have he393936 : F393929 q392924 = .inr (4, [.int p393805, .ref q393807, .int p393806]) := (n393931 q392924 (rn_oo he393804 he393834 (by decide))).trans he393804
                      have he393937 : F393929 q392925 = .inr (20, [.int p393835, .int p393836, .int p393837, .int p368448, .int p393839, .int p393840, .int p393841]) := e393930
                      have hs393938 : rStr γ [1] F368445 F393929 := rStr_pu2 hs393793 n393931 ht392930 (by decide)
                      have fk393939 : rFk [1] γ F368445 F393929 := rFk_put x393795 n393931 ht392930 (by decide)
                      refine G_aload 0 dr_cX17_rename_115 rfl ?_
                      have hT393940 : RS D I P368444 F393929 γ el := RS_set hT393792 n393931 ht392930 (by decide) ⟨p393835, p393836, p393837, p368448, p393839, p393840, p393841, he393937, bp393835, bp393836, bp393839, bp393840, bp393841, r393842, r393843, (Or.inr bp368448), r393845, r393846⟩
                      refine Gw_callV (As := []) (gV_ok D I) (cp_1660_Row_sets l hl0 D I P368444 F393929 q392925 p393835 p393836 p393837 p368448 p393839 p393840 p393841 hm393833 he393937 bp393835 bp393836 bp393839 bp393840 bp393841) dr_cX17_rename_117 ⟨wr_10_181, wr_1_39, wr_10_184, by decide, rfl, (Nat.le_of_ble_eq_true rfl), (Nat.le_of_ble_eq_true rfl)⟩ wr_10_182 wr_10_183 hm393833 he393937 rfl (show 0 + 0 ≤ 0 by first | omega | decide) (show 0 + 0 ≤ 0 by first | omega | decide) (Nat.le_of_ble_eq_true rfl) (fun r393945 w393946 dc393942 ds393943 hp393944 => ?_) (fun _ _ _ _ _ z => z.elim)
                      obtain ⟨o393947, rfl, rfl, hdc, hds, bo393947, ht393948⟩ := hp393944
                      change G _ _ _ _ _ _ _ (.int o393947 :: _) _ _ _
                      refine G_widen (cs' := 0) (sl' := 0) (by omega) (by omega) ?_
                      refine G_if_eq 138 dr_cX17_rename_120 (by decide +kernel) (fun hc393949 => ?_) (fun hc393949 => ?_)
                      · have r393950 : o393947.toInt = 0 := gj_eq hc393949 (show Int32.toInt 0 = 0 by decide)
                        have bo393947' : gB o393947 0 0 := gB_t0 r393950
                        obtain ⟨z393951, hz393951⟩ : ∃ z : Int32, z = g393790 + Int32.ofInt 1 := ⟨_, rfl⟩
                        have ez393951 : z393951.toInt = g393790.toInt + 1 := gI_inc hz393951 (by decide) bg393790' (by decide) (by decide)
                        have bz393951 : gB z393951 1 1000001 := ⟨by omega, by omega⟩
                        refine G_iinc (L' := [(5, .int z393951), (6, .ref q392925), (4, .ref q392915), (3, .int g392855), (0, .ref q368446), (1, .int p368447), (2, .int p368448)]) z393951 1 dr_cX17_rename_138 rfl hz393951.symm (Nat.le_of_ble_eq_true rfl) rfl ?_
                        refine G_goto 20 dr_cX17_rename_141 (by decide +kernel) ?_
                        refine G_lv (L' := [(5, .int z393951), (4, .ref q392915), (3, .int g392855), (0, .ref q368446), (1, .int p368447), (2, .int p368448)]) [0, 2, 3, 4, 5, 6] rfl ?_
                        exact ih20_393795 F393929 z393951 (gB_w bz393951 (by decide) (by decide)) hT393940 hs393938 (fun N hv hu hp => rPl_put hT393792 htq368446 rfl (x393794 N hv hu hp) n393931 hp393829 nb393832 hL393830 (fun _ _ _ _ z => z) (rNx_ren he393834 he393937 hu hv (Or.inl rfl) (Or.inr rfl) (Or.inl rfl) (by rw [← hp393829]; exact x393794 N hv hu hp _ nb393832 _ hL393830))) fk393939 (mz_up ez393951 (Int.le_trans bg393790'.2 (by decide)) hm20_393795)
                      · have r393952 : o393947.toInt ≠ 0 := gj_neq hc393949 (show Int32.toInt 0 = 0 by decide)
                        have bo393947' : gB o393947 1 1 := gB_t1 bo393947 r393952
                        refine G_aload 0 dr_cX17_rename_123 rfl ?_
                        refine Gp_get 1 hm393833 he393937 dr_cX17_rename_125 (gk_X15 D I) (Nat.le_of_ble_eq_true rfl) wr_9_182 rfl ?_
                        refine G_iload_n 5 dr_cX17_rename_128 rfl ?_
                        refine G_icmp_ne 138 dr_cX17_rename_129 (by decide +kernel) (fun hc393953 => ?_) (fun hc393953 => ?_)
                        · have r393954 : p393836.toInt ≠ p368447.toInt := gC_ne hc393953
                          obtain ⟨z393955, hz393955⟩ : ∃ z : Int32, z = g393790 + Int32.ofInt 1 := ⟨_, rfl⟩
                          have ez393955 : z393955.toInt = g393790.toInt + 1 := gI_inc hz393955 (by decide) bg393790' (by decide) (by decide)
                          have bz393955 : gB z393955 1 1000001 := ⟨by omega, by omega⟩
                          refine G_iinc (L' := [(5, .int z393955), (6, .ref q392925), (4, .ref q392915), (3, .int g392855), (0, .ref q368446), (1, .int p368447), (2, .int p368448)]) z393955 1 dr_cX17_rename_138 rfl hz393955.symm (Nat.le_of_ble_eq_true rfl) rfl ?_
                          refine G_goto 20 dr_cX17_rename_141 (by decide +kernel) ?_
                          refine G_lv (L' := [(5, .int z393955), (4, .ref q392915), (3, .int g392855), (0, .ref q368446), (1, .int p368447), (2, .int p368448)]) [0, 2, 3, 4, 5, 6] rfl ?_
                          exact ih20_393795 F393929 z393955 (gB_w bz393955 (by decide) (by decide)) hT393940 hs393938 (fun N hv hu hp => rPl_put hT393792 htq368446 rfl (x393794 N hv hu hp) n393931 hp393829 nb393832 hL393830 (fun _ _ _ _ z => z) (rNx_ren he393834 he393937 hu hv (Or.inl rfl) (Or.inr rfl) (Or.inl rfl) (by rw [← hp393829]; exact x393794 N hv hu hp _ nb393832 _ hL393830))) fk393939 (mz_up ez393955 (Int.le_trans bg393790'.2 (by decide)) hm20_393795)
                        · have r393956 : p393836.toInt = p368447.toInt := gC_eq hc393953
                          refine G_aload 0 dr_cX17_rename_132 rfl ?_
                          refine G_iload_n 6 dr_cX17_rename_134 rfl ?_
                          refine Gp_put 1 hm393833 he393937 dr_cX17_rename_135 (gk_X15 D I) (Nat.le_of_ble_eq_true rfl) wr_9_182 rfl rfl rfl (Nat.le_of_ble_eq_true rfl) (fun F393957 e393958 n393959 => ?_)
                          have he393960 : F393957 q368446 = .inr (18, [.ref q392866, .ref q392867, .int p392868, .int p392869]) := (n393959 q368446 (rn_oo he393932 he393937 (by decide))).trans he393932
                          have he393961 : F393957 q392866 = .inr (4, [.int p392896, .ref q392898, .int p392897]) := (n393959 q392866 (rn_oo he393933 he393937 (by decide))).trans he393933
                          have he393962 : F393957 q392898 = .inl (I (.object "java/lang/Object"), n392912, .inr (.inr (.inr (.inr f392913)))) := (n393959 q392898 (rn_ao he393934 he393937)).trans he393934
                          have he393963 : F393957 q392915 = .inr (17, [.ref q392924, .ref q392925, .int p392926, .int p392927]) := (n393959 q392915 (rn_oo he393935 he393937 (by decide))).trans he393935
                          have he393964 : F393957 q392924 = .inr (4, [.int p393805, .ref q393807, .int p393806]) := (n393959 q392924 (rn_oo he393936 he393937 (by decide))).trans he393936
                          have he393965 : F393957 q392925 = .inr (20, [.int p393835, .int p368448, .int p393837, .int p368448, .int p393839, .int p393840, .int p393841]) := e393958
                          have hs393966 : rStr γ [1] F368445 F393957 := rStr_pu2 hs393938 n393959 ht392930 (by decide)
                          have fk393967 : rFk [1] γ F368445 F393957 := rFk_put fk393939 n393959 ht392930 (by decide)
                          obtain ⟨z393968, hz393968⟩ : ∃ z : Int32, z = g393790 + Int32.ofInt 1 := ⟨_, rfl⟩
                          have ez393968 : z393968.toInt = g393790.toInt + 1 := gI_inc hz393968 (by decide) bg393790' (by decide) (by decide)
                          have bz393968 : gB z393968 1 1000001 := ⟨by omega, by omega⟩
                          refine G_iinc (L' := [(5, .int z393968), (6, .ref q392925), (4, .ref q392915), (3, .int g392855), (0, .ref q368446), (1, .int p368447), (2, .int p368448)]) z393968 1 dr_cX17_rename_138 rfl hz393968.symm (Nat.le_of_ble_eq_true rfl) rfl ?_
                          refine G_goto 20 dr_cX17_rename_141 (by decide +kernel) ?_
                          have hT393969 : RS D I P368444 F393957 γ el := RS_set hT393940 n393959 ht392930 (by decide) ⟨p393835, p368448, p393837, p368448, p393839, p393840, p393841, he393965, bp393835, bp368448, bp393839, bp393840, bp393841, r393842, r393843, (Or.inr bp368448), r393845, r393846⟩
                          have of393970 : ∀ b, b ≠ q392925 → F393957 b = F393791 b := fun b hb => (n393959 b hb).trans (n393931 b hb)
                          refine G_lv (L' := [(5, .int z393968), (4, .ref q392915), (3, .int g392855), (0, .ref q368446), (1, .int p368447), (2, .int p368448)]) [0, 2, 3, 4, 5, 6] rfl ?_
                          exact ih20_393795 F393957 z393968 (gB_w bz393968 (by decide) (by decide)) hT393969 hs393966 (fun N hv hu hp => rPl_put hT393792 htq368446 rfl (x393794 N hv hu hp) of393970 hp393829 nb393832 hL393830 (fun _ _ _ _ z => z) (rNx_ren he393834 he393965 hu hv (Or.inl rfl) (Or.inr rfl) (Or.inr ⟨rfl, by first | assumption | omega⟩) (by rw [← hp393829]; exact x393794 N hv hu hp _ nb393832 _ hL393830))) fk393967 (mz_up ez393968 (Int.le_trans bg393790'.2 (by decide)) hm20_393795)
                · have r393971 : o393852.toInt ≠ 0 := gj_neq hc393855 (show Int32.toInt 0 = 0 by decide)
                  have bo393852' : gB o393852 1 1 := gB_t1 bo393852 r393971
                  refine G_aload 0 dr_cX17_rename_77 rfl ?_
                  refine Gp_get 2 hm393833 he393834 dr_cX17_rename_79 (gk_X15 D I) (Nat.le_of_ble_eq_true rfl) wr_9_186 rfl ?_
                  refine G_iload_n 5 dr_cX17_rename_82 rfl ?_
                  refine G_icmp_ne 92 dr_cX17_rename_83 (by decide +kernel) (fun hc393972 => ?_) (fun hc393972 => ?_)
                  · have r393973 : p393837.toInt ≠ p368447.toInt := gC_ne hc393972
                    refine G_aload 0 dr_cX17_rename_92 rfl ?_
                    refine Gw_callV (As := []) (gV_ok D I) (cp_1699_Row_usesB l hl0 D I P368444 F393791 q392925 p393835 p393836 p393837 p393838 p393839 p393840 p393841 hm393833 he393834 bp393835 bp393836 bp393839 bp393840 bp393841) dr_cX17_rename_94 ⟨wr_10_196, wr_1_39, wr_10_199, by decide, rfl, (Nat.le_of_ble_eq_true rfl), (Nat.le_of_ble_eq_true rfl)⟩ wr_10_197 wr_10_198 hm393833 he393834 rfl (show 0 + 0 ≤ 0 by first | omega | decide) (show 0 + 0 ≤ 0 by first | omega | decide) (Nat.le_of_ble_eq_true rfl) (fun r393977 w393978 dc393974 ds393975 hp393976 => ?_) (fun _ _ _ _ _ z => z.elim)
                    obtain ⟨o393979, rfl, rfl, hdc, hds, bo393979, x393980, ht393981⟩ := hp393976
                    change G _ _ _ _ _ _ _ (.int o393979 :: _) _ _ _
                    refine G_widen (cs' := 0) (sl' := 0) (by omega) (by omega) ?_
                    refine G_if_eq 115 dr_cX17_rename_97 (by decide +kernel) (fun hc393982 => ?_) (fun hc393982 => ?_)
                    · have r393983 : o393979.toInt = 0 := gj_eq hc393982 (show Int32.toInt 0 = 0 by decide)
                      have bo393979' : gB o393979 0 0 := gB_t0 r393983
                      refine G_aload 0 dr_cX17_rename_115 rfl ?_
                      refine Gw_callV (As := []) (gV_ok D I) (cp_1660_Row_sets l hl0 D I P368444 F393791 q392925 p393835 p393836 p393837 p393838 p393839 p393840 p393841 hm393833 he393834 bp393835 bp393836 bp393839 bp393840 bp393841) dr_cX17_rename_117 ⟨wr_10_181, wr_1_39, wr_10_184, by decide, rfl, (Nat.le_of_ble_eq_true rfl), (Nat.le_of_ble_eq_true rfl)⟩ wr_10_182 wr_10_183 hm393833 he393834 rfl (show 0 + 0 ≤ 0 by first | omega | decide) (show 0 + 0 ≤ 0 by first | omega | decide) (Nat.le_of_ble_eq_true rfl) (fun r393987 w393988 dc393984 ds393985 hp393986 => ?_) (fun _ _ _ _ _ z => z.elim)
                      obtain ⟨o393989, rfl, rfl, hdc, hds, bo393989, ht393990⟩ := hp393986
                      change G _ _ _ _ _ _ _ (.int o393989 :: _) _ _ _
                      refine G_widen (cs' := 0) (sl' := 0) (by omega) (by omega) ?_
                      refine G_if_eq 138 dr_cX17_rename_120 (by decide +kernel) (fun hc393991 => ?_) (fun hc393991 => ?_)
                      · have r393992 : o393989.toInt = 0 := gj_eq hc393991 (show Int32.toInt 0 = 0 by decide)
                        have bo393989' : gB o393989 0 0 := gB_t0 r393992
                        obtain ⟨z393993, hz393993⟩ : ∃ z : Int32, z = g393790 + Int32.ofInt 1 := ⟨_, rfl⟩
                        have ez393993 : z393993.toInt = g393790.toInt + 1 := gI_inc hz393993 (by decide) bg393790' (by decide) (by decide)
                        have bz393993 : gB z393993 1 1000001 := ⟨by omega, by omega⟩
                        refine G_iinc (L' := [(5, .int z393993), (6, .ref q392925), (4, .ref q392915), (3, .int g392855), (0, .ref q368446), (1, .int p368447), (2, .int p368448)]) z393993 1 dr_cX17_rename_138 rfl hz393993.symm (Nat.le_of_ble_eq_true rfl) rfl ?_
                        refine G_goto 20 dr_cX17_rename_141 (by decide +kernel) ?_
                        refine G_lv (L' := [(5, .int z393993), (4, .ref q392915), (3, .int g392855), (0, .ref q368446), (1, .int p368447), (2, .int p368448)]) [0, 2, 3, 4, 5, 6] rfl ?_
                        exact ih20_393795 F393791 z393993 (gB_w bz393993 (by decide) (by decide)) hT393792 hs393793 x393794 x393795 (mz_up ez393993 (Int.le_trans bg393790'.2 (by decide)) hm20_393795)
                      · have r393994 : o393989.toInt ≠ 0 := gj_neq hc393991 (show Int32.toInt 0 = 0 by decide)
                        have bo393989' : gB o393989 1 1 := gB_t1 bo393989 r393994
                        refine G_aload 0 dr_cX17_rename_123 rfl ?_
                        refine Gp_get 1 hm393833 he393834 dr_cX17_rename_125 (gk_X15 D I) (Nat.le_of_ble_eq_true rfl) wr_9_182 rfl ?_
                        refine G_iload_n 5 dr_cX17_rename_128 rfl ?_
                        refine G_icmp_ne 138 dr_cX17_rename_129 (by decide +kernel) (fun hc393995 => ?_) (fun hc393995 => ?_)
                        · have r393996 : p393836.toInt ≠ p368447.toInt := gC_ne hc393995
                          obtain ⟨z393997, hz393997⟩ : ∃ z : Int32, z = g393790 + Int32.ofInt 1 := ⟨_, rfl⟩
                          have ez393997 : z393997.toInt = g393790.toInt + 1 := gI_inc hz393997 (by decide) bg393790' (by decide) (by decide)
                          have bz393997 : gB z393997 1 1000001 := ⟨by omega, by omega⟩
                          refine G_iinc (L' := [(5, .int z393997), (6, .ref q392925), (4, .ref q392915), (3, .int g392855), (0, .ref q368446), (1, .int p368447), (2, .int p368448)]) z393997 1 dr_cX17_rename_138 rfl hz393997.symm (Nat.le_of_ble_eq_true rfl) rfl ?_
                          refine G_goto 20 dr_cX17_rename_141 (by decide +kernel) ?_
                          refine G_lv (L' := [(5, .int z393997), (4, .ref q392915), (3, .int g392855), (0, .ref q368446), (1, .int p368447), (2, .int p368448)]) [0, 2, 3, 4, 5, 6] rfl ?_
                          exact ih20_393795 F393791 z393997 (gB_w bz393997 (by decide) (by decide)) hT393792 hs393793 x393794 x393795 (mz_up ez393997 (Int.le_trans bg393790'.2 (by decide)) hm20_393795)
                        · have r393998 : p393836.toInt = p368447.toInt := gC_eq hc393995
                          refine G_aload 0 dr_cX17_rename_132 rfl ?_
                          refine G_iload_n 6 dr_cX17_rename_134 rfl ?_
                          refine Gp_put 1 hm393833 he393834 dr_cX17_rename_135 (gk_X15 D I) (Nat.le_of_ble_eq_true rfl) wr_9_182 rfl rfl rfl (Nat.le_of_ble_eq_true rfl) (fun F393999 e394000 n394001 => ?_)
                          have he394002 : F393999 q368446 = .inr (18, [.ref q392866, .ref q392867, .int p392868, .int p392869]) := (n394001 q368446 (rn_oo he393798 he393834 (by decide))).trans he393798
                          have he394003 : F393999 q392866 = .inr (4, [.int p392896, .ref q392898, .int p392897]) := (n394001 q392866 (rn_oo he393799 he393834 (by decide))).trans he393799
                          have he394004 : F393999 q392898 = .inl (I (.object "java/lang/Object"), n392912, .inr (.inr (.inr (.inr f392913)))) := (n394001 q392898 (rn_ao he393800 he393834)).trans he393800
                          have he394005 : F393999 q392915 = .inr (17, [.ref q392924, .ref q392925, .int p392926, .int p392927]) := (n394001 q392915 (rn_oo he393801 he393834 (by decide))).trans he393801
                          have he394006 : F393999 q392924 = .inr (4, [.int p393805, .ref q393807, .int p393806]) := (n394001 q392924 (rn_oo he393804 he393834 (by decide))).trans he393804
                          have he394007 : F393999 q392925 = .inr (20, [.int p393835, .int p368448, .int p393837, .int p393838, .int p393839, .int p393840, .int p393841]) := e394000
                          have hs394008 : rStr γ [1] F368445 F393999 := rStr_pu2 hs393793 n394001 ht392930 (by decide)
                          have fk394009 : rFk [1] γ F368445 F393999 := rFk_put x393795 n394001 ht392930 (by decide)
                          obtain ⟨z394010, hz394010⟩ : ∃ z : Int32, z = g393790 + Int32.ofInt 1 := ⟨_, rfl⟩
                          have ez394010 : z394010.toInt = g393790.toInt + 1 := gI_inc hz394010 (by decide) bg393790' (by decide) (by decide)
                          have bz394010 : gB z394010 1 1000001 := ⟨by omega, by omega⟩
                          refine G_iinc (L' := [(5, .int z394010), (6, .ref q392925), (4, .ref q392915), (3, .int g392855), (0, .ref q368446), (1, .int p368447), (2, .int p368448)]) z394010 1 dr_cX17_rename_138 rfl hz394010.symm (Nat.le_of_ble_eq_true rfl) rfl ?_
                          refine G_goto 20 dr_cX17_rename_141 (by decide +kernel) ?_
                          have hT394011 : RS D I P368444 F393999 γ el := RS_set hT393792 n394001 ht392930 (by decide) ⟨p393835, p368448, p393837, p393838, p393839, p393840, p393841, he394007, bp393835, bp368448, bp393839, bp393840, bp393841, r393842, r393843, r393844, r393845, r393846⟩
                          refine G_lv (L' := [(5, .int z394010), (4, .ref q392915), (3, .int g392855), (0, .ref q368446), (1, .int p368447), (2, .int p368448)]) [0, 2, 3, 4, 5, 6] rfl ?_
                          exact ih20_393795 F393999 z394010 (gB_w bz394010 (by decide) (by decide)) hT394011 hs394008 (fun N hv hu hp => rPl_put hT393792 htq368446 rfl (x393794 N hv hu hp) n394001 hp393829 nb393832 hL393830 (fun _ _ _ _ z => z) (rNx_ren he393834 he394007 hu hv (Or.inl rfl) (Or.inl rfl) (Or.inr ⟨rfl, by first | assumption | omega⟩) (by rw [← hp393829]; exact x393794 N hv hu hp _ nb393832 _ hL393830))) fk394009 (mz_up ez394010 (Int.le_trans bg393790'.2 (by decide)) hm20_393795)
                    · have r394013 : o393979.toInt ≠ 0 := gj_neq hc393982 (show Int32.toInt 0 = 0 by decide)
                      have bo393979' : gB o393979 1 1 := gB_t1 bo393979 r394013
                      refine G_aload 0 dr_cX17_rename_100 rfl ?_
                      refine Gp_get 3 hm393833 he393834 dr_cX17_rename_102 (gk_X15 D I) (Nat.le_of_ble_eq_true rfl) wr_9_190 rfl ?_
                      refine G_iload_n 5 dr_cX17_rename_105 rfl ?_
                      refine G_icmp_ne 115 dr_cX17_rename_106 (by decide +kernel) (fun hc394014 => ?_) (fun hc394014 => ?_)
                      · have r394015 : p393838.toInt ≠ p368447.toInt := gC_ne hc394014
                        refine G_aload 0 dr_cX17_rename_115 rfl ?_
                        refine Gw_callV (As := []) (gV_ok D I) (cp_1660_Row_sets l hl0 D I P368444 F393791 q392925 p393835 p393836 p393837 p393838 p393839 p393840 p393841 hm393833 he393834 bp393835 bp393836 bp393839 bp393840 bp393841) dr_cX17_rename_117 ⟨wr_10_181, wr_1_39, wr_10_184, by decide, rfl, (Nat.le_of_ble_eq_true rfl), (Nat.le_of_ble_eq_true rfl)⟩ wr_10_182 wr_10_183 hm393833 he393834 rfl (show 0 + 0 ≤ 0 by first | omega | decide) (show 0 + 0 ≤ 0 by first | omega | decide) (Nat.le_of_ble_eq_true rfl) (fun r394019 w394020 dc394016 ds394017 hp394018 => ?_) (fun _ _ _ _ _ z => z.elim)
                        obtain ⟨o394021, rfl, rfl, hdc, hds, bo394021, ht394022⟩ := hp394018
                        change G _ _ _ _ _ _ _ (.int o394021 :: _) _ _ _
                        refine G_widen (cs' := 0) (sl' := 0) (by omega) (by omega) ?_
                        refine G_if_eq 138 dr_cX17_rename_120 (by decide +kernel) (fun hc394023 => ?_) (fun hc394023 => ?_)
                        · have r394024 : o394021.toInt = 0 := gj_eq hc394023 (show Int32.toInt 0 = 0 by decide)
                          have bo394021' : gB o394021 0 0 := gB_t0 r394024
                          obtain ⟨z394025, hz394025⟩ : ∃ z : Int32, z = g393790 + Int32.ofInt 1 := ⟨_, rfl⟩
                          have ez394025 : z394025.toInt = g393790.toInt + 1 := gI_inc hz394025 (by decide) bg393790' (by decide) (by decide)
                          have bz394025 : gB z394025 1 1000001 := ⟨by omega, by omega⟩
                          refine G_iinc (L' := [(5, .int z394025), (6, .ref q392925), (4, .ref q392915), (3, .int g392855), (0, .ref q368446), (1, .int p368447), (2, .int p368448)]) z394025 1 dr_cX17_rename_138 rfl hz394025.symm (Nat.le_of_ble_eq_true rfl) rfl ?_
                          refine G_goto 20 dr_cX17_rename_141 (by decide +kernel) ?_
                          refine G_lv (L' := [(5, .int z394025), (4, .ref q392915), (3, .int g392855), (0, .ref q368446), (1, .int p368447), (2, .int p368448)]) [0, 2, 3, 4, 5, 6] rfl ?_
                          exact ih20_393795 F393791 z394025 (gB_w bz394025 (by decide) (by decide)) hT393792 hs393793 x393794 x393795 (mz_up ez394025 (Int.le_trans bg393790'.2 (by decide)) hm20_393795)
                        · have r394026 : o394021.toInt ≠ 0 := gj_neq hc394023 (show Int32.toInt 0 = 0 by decide)
                          have bo394021' : gB o394021 1 1 := gB_t1 bo394021 r394026
                          refine G_aload 0 dr_cX17_rename_123 rfl ?_
                          refine Gp_get 1 hm393833 he393834 dr_cX17_rename_125 (gk_X15 D I) (Nat.le_of_ble_eq_true rfl) wr_9_182 rfl ?_
                          refine G_iload_n 5 dr_cX17_rename_128 rfl ?_
                          refine G_icmp_ne 138 dr_cX17_rename_129 (by decide +kernel) (fun hc394027 => ?_) (fun hc394027 => ?_)
                          · have r394028 : p393836.toInt ≠ p368447.toInt := gC_ne hc394027
                            obtain ⟨z394029, hz394029⟩ : ∃ z : Int32, z = g393790 + Int32.ofInt 1 := ⟨_, rfl⟩
                            have ez394029 : z394029.toInt = g393790.toInt + 1 := gI_inc hz394029 (by decide) bg393790' (by decide) (by decide)
                            have bz394029 : gB z394029 1 1000001 := ⟨by omega, by omega⟩
                            refine G_iinc (L' := [(5, .int z394029), (6, .ref q392925), (4, .ref q392915), (3, .int g392855), (0, .ref q368446), (1, .int p368447), (2, .int p368448)]) z394029 1 dr_cX17_rename_138 rfl hz394029.symm (Nat.le_of_ble_eq_true rfl) rfl ?_
                            refine G_goto 20 dr_cX17_rename_141 (by decide +kernel) ?_
                            refine G_lv (L' := [(5, .int z394029), (4, .ref q392915), (3, .int g392855), (0, .ref q368446), (1, .int p368447), (2, .int p368448)]) [0, 2, 3, 4, 5, 6] rfl ?_
                            exact ih20_393795 F393791 z394029 (gB_w bz394029 (by decide) (by decide)) hT393792 hs393793 x393794 x393795 (mz_up ez394029 (Int.le_trans bg393790'.2 (by decide)) hm20_393795)
                          · have r394030 : p393836.toInt = p368447.toInt := gC_eq hc394027
                            refine G_aload 0 dr_cX17_rename_132 rfl ?_
                            refine G_iload_n 6 dr_cX17_rename_134 rfl ?_
                            refine Gp_put 1 hm393833 he393834 dr_cX17_rename_135 (gk_X15 D I) (Nat.le_of_ble_eq_true rfl) wr_9_182 rfl rfl rfl (Nat.le_of_ble_eq_true rfl) (fun F394031 e394032 n394033 => ?_)
                            have he394034 : F394031 q368446 = .inr (18, [.ref q392866, .ref q392867, .int p392868, .int p392869]) := (n394033 q368446 (rn_oo he393798 he393834 (by decide))).trans he393798
                            have he394035 : F394031 q392866 = .inr (4, [.int p392896, .ref q392898, .int p392897]) := (n394033 q392866 (rn_oo he393799 he393834 (by decide))).trans he393799
                            have he394036 : F394031 q392898 = .inl (I (.object "java/lang/Object"), n392912, .inr (.inr (.inr (.inr f392913)))) := (n394033 q392898 (rn_ao he393800 he393834)).trans he393800
                            have he394037 : F394031 q392915 = .inr (17, [.ref q392924, .ref q392925, .int p392926, .int p392927]) := (n394033 q392915 (rn_oo he393801 he393834 (by decide))).trans he393801
                            have he394038 : F394031 q392924 = .inr (4, [.int p393805, .ref q393807, .int p393806]) := (n394033 q392924 (rn_oo he393804 he393834 (by decide))).trans he393804
                            have he394039 : F394031 q392925 = .inr (20, [.int p393835, .int p368448, .int p393837, .int p393838, .int p393839, .int p393840, .int p393841]) := e394032
                            have hs394040 : rStr γ [1] F368445 F394031 := rStr_pu2 hs393793 n394033 ht392930 (by decide)
                            have fk394041 : rFk [1] γ F368445 F394031 := rFk_put x393795 n394033 ht392930 (by decide)
                            obtain ⟨z394042, hz394042⟩ : ∃ z : Int32, z = g393790 + Int32.ofInt 1 := ⟨_, rfl⟩
                            have ez394042 : z394042.toInt = g393790.toInt + 1 := gI_inc hz394042 (by decide) bg393790' (by decide) (by decide)
                            have bz394042 : gB z394042 1 1000001 := ⟨by omega, by omega⟩
                            refine G_iinc (L' := [(5, .int z394042), (6, .ref q392925), (4, .ref q392915), (3, .int g392855), (0, .ref q368446), (1, .int p368447), (2, .int p368448)]) z394042 1 dr_cX17_rename_138 rfl hz394042.symm (Nat.le_of_ble_eq_true rfl) rfl ?_
                            refine G_goto 20 dr_cX17_rename_141 (by decide +kernel) ?_
                            have hT394043 : RS D I P368444 F394031 γ el := RS_set hT393792 n394033 ht392930 (by decide) ⟨p393835, p368448, p393837, p393838, p393839, p393840, p393841, he394039, bp393835, bp368448, bp393839, bp393840, bp393841, r393842, r393843, r393844, r393845, r393846⟩
                            refine G_lv (L' := [(5, .int z394042), (4, .ref q392915), (3, .int g392855), (0, .ref q368446), (1, .int p368447), (2, .int p368448)]) [0, 2, 3, 4, 5, 6] rfl ?_
                            exact ih20_393795 F394031 z394042 (gB_w bz394042 (by decide) (by decide)) hT394043 hs394040 (fun N hv hu hp => rPl_put hT393792 htq368446 rfl (x393794 N hv hu hp) n394033 hp393829 nb393832 hL393830 (fun _ _ _ _ z => z) (rNx_ren he393834 he394039 hu hv (Or.inl rfl) (Or.inl rfl) (Or.inr ⟨rfl, by first | assumption | omega⟩) (by rw [← hp393829]; exact x393794 N hv hu hp _ nb393832 _ hL393830))) fk394041 (mz_up ez394042 (Int.le_trans bg393790'.2 (by decide)) hm20_393795)
                      · have r394045 : p393838.toInt = p368447.toInt := gC_eq hc394014
                        have bp393838' : gB p393838 0 1999 := ⟨by omega, by omega⟩
                        refine G_aload 0 dr_cX17_rename_109 rfl ?_
                        refine G_iload_n 6 dr_cX17_rename_111 rfl ?_
                        refine Gp_put 3 hm393833 he393834 dr_cX17_rename_112 (gk_X15 D I) (Nat.le_of_ble_eq_true rfl) wr_9_190 rfl rfl rfl (Nat.le_of_ble_eq_true rfl) (fun F394046 e394047 n394048 => ?_)
                        have he394049 : F394046 q368446 = .inr (18, [.ref q392866, .ref q392867, .int p392868, .int p392869]) := (n394048 q368446 (rn_oo he393798 he393834 (by decide))).trans he393798
                        have he394050 : F394046 q392866 = .inr (4, [.int p392896, .ref q392898, .int p392897]) := (n394048 q392866 (rn_oo he393799 he393834 (by decide))).trans he393799
                        have he394051 : F394046 q392898 = .inl (I (.object "java/lang/Object"), n392912, .inr (.inr (.inr (.inr f392913)))) := (n394048 q392898 (rn_ao he393800 he393834)).trans he393800
                        have he394052 : F394046 q392915 = .inr (17, [.ref q392924, .ref q392925, .int p392926, .int p392927]) := (n394048 q392915 (rn_oo he393801 he393834 (by decide))).trans he393801
                        have he394053 : F394046 q392924 = .inr (4, [.int p393805, .ref q393807, .int p393806]) := (n394048 q392924 (rn_oo he393804 he393834 (by decide))).trans he393804
                        have he394054 : F394046 q392925 = .inr (20, [.int p393835, .int p393836, .int p393837, .int p368448, .int p393839, .int p393840, .int p393841]) := e394047
                        have hs394055 : rStr γ [1] F368445 F394046 := rStr_pu2 hs393793 n394048 ht392930 (by decide)
                        have fk394056 : rFk [1] γ F368445 F394046 := rFk_put x393795 n394048 ht392930 (by decide)
                        refine G_aload 0 dr_cX17_rename_115 rfl ?_
                        have hT394057 : RS D I P368444 F394046 γ el := RS_set hT393792 n394048 ht392930 (by decide) ⟨p393835, p393836, p393837, p368448, p393839, p393840, p393841, he394054, bp393835, bp393836, bp393839, bp393840, bp393841, r393842, r393843, (Or.inr bp368448), r393845, r393846⟩
                        refine Gw_callV (As := []) (gV_ok D I) (cp_1660_Row_sets l hl0 D I P368444 F394046 q392925 p393835 p393836 p393837 p368448 p393839 p393840 p393841 hm393833 he394054 bp393835 bp393836 bp393839 bp393840 bp393841) dr_cX17_rename_117 ⟨wr_10_181, wr_1_39, wr_10_184, by decide, rfl, (Nat.le_of_ble_eq_true rfl), (Nat.le_of_ble_eq_true rfl)⟩ wr_10_182 wr_10_183 hm393833 he394054 rfl (show 0 + 0 ≤ 0 by first | omega | decide) (show 0 + 0 ≤ 0 by first | omega | decide) (Nat.le_of_ble_eq_true rfl) (fun r394062 w394063 dc394059 ds394060 hp394061 => ?_) (fun _ _ _ _ _ z => z.elim)
                        obtain ⟨o394064, rfl, rfl, hdc, hds, bo394064, ht394065⟩ := hp394061
                        change G _ _ _ _ _ _ _ (.int o394064 :: _) _ _ _
                        refine G_widen (cs' := 0) (sl' := 0) (by omega) (by omega) ?_
                        refine G_if_eq 138 dr_cX17_rename_120 (by decide +kernel) (fun hc394066 => ?_) (fun hc394066 => ?_)
                        · have r394067 : o394064.toInt = 0 := gj_eq hc394066 (show Int32.toInt 0 = 0 by decide)
                          have bo394064' : gB o394064 0 0 := gB_t0 r394067
                          obtain ⟨z394068, hz394068⟩ : ∃ z : Int32, z = g393790 + Int32.ofInt 1 := ⟨_, rfl⟩
                          have ez394068 : z394068.toInt = g393790.toInt + 1 := gI_inc hz394068 (by decide) bg393790' (by decide) (by decide)
                          have bz394068 : gB z394068 1 1000001 := ⟨by omega, by omega⟩
                          refine G_iinc (L' := [(5, .int z394068), (6, .ref q392925), (4, .ref q392915), (3, .int g392855), (0, .ref q368446), (1, .int p368447), (2, .int p368448)]) z394068 1 dr_cX17_rename_138 rfl hz394068.symm (Nat.le_of_ble_eq_true rfl) rfl ?_
                          refine G_goto 20 dr_cX17_rename_141 (by decide +kernel) ?_
                          refine G_lv (L' := [(5, .int z394068), (4, .ref q392915), (3, .int g392855), (0, .ref q368446), (1, .int p368447), (2, .int p368448)]) [0, 2, 3, 4, 5, 6] rfl ?_
                          exact ih20_393795 F394046 z394068 (gB_w bz394068 (by decide) (by decide)) hT394057 hs394055 (fun N hv hu hp => rPl_put hT393792 htq368446 rfl (x393794 N hv hu hp) n394048 hp393829 nb393832 hL393830 (fun _ _ _ _ z => z) (rNx_ren he393834 he394054 hu hv (Or.inl rfl) (Or.inr rfl) (Or.inl rfl) (by rw [← hp393829]; exact x393794 N hv hu hp _ nb393832 _ hL393830))) fk394056 (mz_up ez394068 (Int.le_trans bg393790'.2 (by decide)) hm20_393795)
                        · have r394069 : o394064.toInt ≠ 0 := gj_neq hc394066 (show Int32.toInt 0 = 0 by decide)
                          have bo394064' : gB o394064 1 1 := gB_t1 bo394064 r394069
                          refine G_aload 0 dr_cX17_rename_123 rfl ?_
                          refine Gp_get 1 hm393833 he394054 dr_cX17_rename_125 (gk_X15 D I) (Nat.le_of_ble_eq_true rfl) wr_9_182 rfl ?_
                          refine G_iload_n 5 dr_cX17_rename_128 rfl ?_
                          refine G_icmp_ne 138 dr_cX17_rename_129 (by decide +kernel) (fun hc394070 => ?_) (fun hc394070 => ?_)
                          · have r394071 : p393836.toInt ≠ p368447.toInt := gC_ne hc394070
                            obtain ⟨z394072, hz394072⟩ : ∃ z : Int32, z = g393790 + Int32.ofInt 1 := ⟨_, rfl⟩
                            have ez394072 : z394072.toInt = g393790.toInt + 1 := gI_inc hz394072 (by decide) bg393790' (by decide) (by decide)
                            have bz394072 : gB z394072 1 1000001 := ⟨by omega, by omega⟩
                            refine G_iinc (L' := [(5, .int z394072), (6, .ref q392925), (4, .ref q392915), (3, .int g392855), (0, .ref q368446), (1, .int p368447), (2, .int p368448)]) z394072 1 dr_cX17_rename_138 rfl hz394072.symm (Nat.le_of_ble_eq_true rfl) rfl ?_
                            refine G_goto 20 dr_cX17_rename_141 (by decide +kernel) ?_
                            refine G_lv (L' := [(5, .int z394072), (4, .ref q392915), (3, .int g392855), (0, .ref q368446), (1, .int p368447), (2, .int p368448)]) [0, 2, 3, 4, 5, 6] rfl ?_
                            exact ih20_393795 F394046 z394072 (gB_w bz394072 (by decide) (by decide)) hT394057 hs394055 (fun N hv hu hp => rPl_put hT393792 htq368446 rfl (x393794 N hv hu hp) n394048 hp393829 nb393832 hL393830 (fun _ _ _ _ z => z) (rNx_ren he393834 he394054 hu hv (Or.inl rfl) (Or.inr rfl) (Or.inl rfl) (by rw [← hp393829]; exact x393794 N hv hu hp _ nb393832 _ hL393830))) fk394056 (mz_up ez394072 (Int.le_trans bg393790'.2 (by decide)) hm20_393795)
                          · have r394073 : p393836.toInt = p368447.toInt := gC_eq hc394070
                            refine G_aload 0 dr_cX17_rename_132 rfl ?_
                            refine G_iload_n 6 dr_cX17_rename_134 rfl ?_
                            refine Gp_put 1 hm393833 he394054 dr_cX17_rename_135 (gk_X15 D I) (Nat.le_of_ble_eq_true rfl) wr_9_182 rfl rfl rfl (Nat.le_of_ble_eq_true rfl) (fun F394074 e394075 n394076 => ?_)
                            have he394077 : F394074 q368446 = .inr (18, [.ref q392866, .ref q392867, .int p392868, .int p392869]) := (n394076 q368446 (rn_oo he394049 he394054 (by decide))).trans he394049
                            have he394078 : F394074 q392866 = .inr (4, [.int p392896, .ref q392898, .int p392897]) := (n394076 q392866 (rn_oo he394050 he394054 (by decide))).trans he394050
                            have he394079 : F394074 q392898 = .inl (I (.object "java/lang/Object"), n392912, .inr (.inr (.inr (.inr f392913)))) := (n394076 q392898 (rn_ao he394051 he394054)).trans he394051
                            have he394080 : F394074 q392915 = .inr (17, [.ref q392924, .ref q392925, .int p392926, .int p392927]) := (n394076 q392915 (rn_oo he394052 he394054 (by decide))).trans he394052
                            have he394081 : F394074 q392924 = .inr (4, [.int p393805, .ref q393807, .int p393806]) := (n394076 q392924 (rn_oo he394053 he394054 (by decide))).trans he394053
                            have he394082 : F394074 q392925 = .inr (20, [.int p393835, .int p368448, .int p393837, .int p368448, .int p393839, .int p393840, .int p393841]) := e394075
                            have hs394083 : rStr γ [1] F368445 F394074 := rStr_pu2 hs394055 n394076 ht392930 (by decide)
                            have fk394084 : rFk [1] γ F368445 F394074 := rFk_put fk394056 n394076 ht392930 (by decide)
                            obtain ⟨z394085, hz394085⟩ : ∃ z : Int32, z = g393790 + Int32.ofInt 1 := ⟨_, rfl⟩
                            have ez394085 : z394085.toInt = g393790.toInt + 1 := gI_inc hz394085 (by decide) bg393790' (by decide) (by decide)
                            have bz394085 : gB z394085 1 1000001 := ⟨by omega, by omega⟩
                            refine G_iinc (L' := [(5, .int z394085), (6, .ref q392925), (4, .ref q392915), (3, .int g392855), (0, .ref q368446), (1, .int p368447), (2, .int p368448)]) z394085 1 dr_cX17_rename_138 rfl hz394085.symm (Nat.le_of_ble_eq_true rfl) rfl ?_
                            refine G_goto 20 dr_cX17_rename_141 (by decide +kernel) ?_
                            have hT394086 : RS D I P368444 F394074 γ el := RS_set hT394057 n394076 ht392930 (by decide) ⟨p393835, p368448, p393837, p368448, p393839, p393840, p393841, he394082, bp393835, bp368448, bp393839, bp393840, bp393841, r393842, r393843, (Or.inr bp368448), r393845, r393846⟩
                            have of394087 : ∀ b, b ≠ q392925 → F394074 b = F393791 b := fun b hb => (n394076 b hb).trans (n394048 b hb)
                            refine G_lv (L' := [(5, .int z394085), (4, .ref q392915), (3, .int g392855), (0, .ref q368446), (1, .int p368447), (2, .int p368448)]) [0, 2, 3, 4, 5, 6] rfl ?_
                            exact ih20_393795 F394074 z394085 (gB_w bz394085 (by decide) (by decide)) hT394086 hs394083 (fun N hv hu hp => rPl_put hT393792 htq368446 rfl (x393794 N hv hu hp) of394087 hp393829 nb393832 hL393830 (fun _ _ _ _ z => z) (rNx_ren he393834 he394082 hu hv (Or.inl rfl) (Or.inr rfl) (Or.inr ⟨rfl, by first | assumption | omega⟩) (by rw [← hp393829]; exact x393794 N hv hu hp _ nb393832 _ hL393830))) fk394084 (mz_up ez394085 (Int.le_trans bg393790'.2 (by decide)) hm20_393795)
                  · have r394088 : p393837.toInt = p368447.toInt := gC_eq hc393972
                    have bp393837' : gB p393837 0 1999 := ⟨by omega, by omega⟩
                    refine G_aload 0 dr_cX17_rename_86 rfl ?_
                    refine G_iload_n 6 dr_cX17_rename_88 rfl ?_
                    refine Gp_put 2 hm393833 he393834 dr_cX17_rename_89 (gk_X15 D I) (Nat.le_of_ble_eq_true rfl) wr_9_186 rfl rfl rfl (Nat.le_of_ble_eq_true rfl) (fun F394089 e394090 n394091 => ?_)
                    have he394092 : F394089 q368446 = .inr (18, [.ref q392866, .ref q392867, .int p392868, .int p392869]) := (n394091 q368446 (rn_oo he393798 he393834 (by decide))).trans he393798
                    have he394093 : F394089 q392866 = .inr (4, [.int p392896, .ref q392898, .int p392897]) := (n394091 q392866 (rn_oo he393799 he393834 (by decide))).trans he393799
                    have he394094 : F394089 q392898 = .inl (I (.object "java/lang/Object"), n392912, .inr (.inr (.inr (.inr f392913)))) := (n394091 q392898 (rn_ao he393800 he393834)).trans he393800
                    have he394095 : F394089 q392915 = .inr (17, [.ref q392924, .ref q392925, .int p392926, .int p392927]) := (n394091 q392915 (rn_oo he393801 he393834 (by decide))).trans he393801
                    have he394096 : F394089 q392924 = .inr (4, [.int p393805, .ref q393807, .int p393806]) := (n394091 q392924 (rn_oo he393804 he393834 (by decide))).trans he393804
                    have he394097 : F394089 q392925 = .inr (20, [.int p393835, .int p393836, .int p368448, .int p393838, .int p393839, .int p393840, .int p393841]) := e394090
                    have hs394098 : rStr γ [1] F368445 F394089 := rStr_pu2 hs393793 n394091 ht392930 (by decide)
                    have fk394099 : rFk [1] γ F368445 F394089 := rFk_put x393795 n394091 ht392930 (by decide)
                    refine G_aload 0 dr_cX17_rename_92 rfl ?_
                    have hT394100 : RS D I P368444 F394089 γ el := RS_set hT393792 n394091 ht392930 (by decide) ⟨p393835, p393836, p368448, p393838, p393839, p393840, p393841, he394097, bp393835, bp393836, bp393839, bp393840, bp393841, r393842, (Or.inr bp368448), r393844, r393845, r393846⟩
                    refine Gw_callV (As := []) (gV_ok D I) (cp_1699_Row_usesB l hl0 D I P368444 F394089 q392925 p393835 p393836 p368448 p393838 p393839 p393840 p393841 hm393833 he394097 bp393835 bp393836 bp393839 bp393840 bp393841) dr_cX17_rename_94 ⟨wr_10_196, wr_1_39, wr_10_199, by decide, rfl, (Nat.le_of_ble_eq_true rfl), (Nat.le_of_ble_eq_true rfl)⟩ wr_10_197 wr_10_198 hm393833 he394097 rfl (show 0 + 0 ≤ 0 by first | omega | decide) (show 0 + 0 ≤ 0 by first | omega | decide) (Nat.le_of_ble_eq_true rfl) (fun r394105 w394106 dc394102 ds394103 hp394104 => ?_) (fun _ _ _ _ _ z => z.elim)
                    obtain ⟨o394107, rfl, rfl, hdc, hds, bo394107, x394108, ht394109⟩ := hp394104
                    change G _ _ _ _ _ _ _ (.int o394107 :: _) _ _ _
                    refine G_widen (cs' := 0) (sl' := 0) (by omega) (by omega) ?_
                    refine G_if_eq 115 dr_cX17_rename_97 (by decide +kernel) (fun hc394110 => ?_) (fun hc394110 => ?_)
                    · have r394111 : o394107.toInt = 0 := gj_eq hc394110 (show Int32.toInt 0 = 0 by decide)
                      have bo394107' : gB o394107 0 0 := gB_t0 r394111
                      refine G_aload 0 dr_cX17_rename_115 rfl ?_
                      refine Gw_callV (As := []) (gV_ok D I) (cp_1660_Row_sets l hl0 D I P368444 F394089 q392925 p393835 p393836 p368448 p393838 p393839 p393840 p393841 hm393833 he394097 bp393835 bp393836 bp393839 bp393840 bp393841) dr_cX17_rename_117 ⟨wr_10_181, wr_1_39, wr_10_184, by decide, rfl, (Nat.le_of_ble_eq_true rfl), (Nat.le_of_ble_eq_true rfl)⟩ wr_10_182 wr_10_183 hm393833 he394097 rfl (show 0 + 0 ≤ 0 by first | omega | decide) (show 0 + 0 ≤ 0 by first | omega | decide) (Nat.le_of_ble_eq_true rfl) (fun r394115 w394116 dc394112 ds394113 hp394114 => ?_) (fun _ _ _ _ _ z => z.elim)
                      obtain ⟨o394117, rfl, rfl, hdc, hds, bo394117, ht394118⟩ := hp394114
                      change G _ _ _ _ _ _ _ (.int o394117 :: _) _ _ _
                      refine G_widen (cs' := 0) (sl' := 0) (by omega) (by omega) ?_
                      refine G_if_eq 138 dr_cX17_rename_120 (by decide +kernel) (fun hc394119 => ?_) (fun hc394119 => ?_)
                      · have r394120 : o394117.toInt = 0 := gj_eq hc394119 (show Int32.toInt 0 = 0 by decide)
                        have bo394117' : gB o394117 0 0 := gB_t0 r394120
                        obtain ⟨z394121, hz394121⟩ : ∃ z : Int32, z = g393790 + Int32.ofInt 1 := ⟨_, rfl⟩
                        have ez394121 : z394121.toInt = g393790.toInt + 1 := gI_inc hz394121 (by decide) bg393790' (by decide) (by decide)
                        have bz394121 : gB z394121 1 1000001 := ⟨by omega, by omega⟩
                        refine G_iinc (L' := [(5, .int z394121), (6, .ref q392925), (4, .ref q392915), (3, .int g392855), (0, .ref q368446), (1, .int p368447), (2, .int p368448)]) z394121 1 dr_cX17_rename_138 rfl hz394121.symm (Nat.le_of_ble_eq_true rfl) rfl ?_
                        refine G_goto 20 dr_cX17_rename_141 (by decide +kernel) ?_
                        refine G_lv (L' := [(5, .int z394121), (4, .ref q392915), (3, .int g392855), (0, .ref q368446), (1, .int p368447), (2, .int p368448)]) [0, 2, 3, 4, 5, 6] rfl ?_
                        exact ih20_393795 F394089 z394121 (gB_w bz394121 (by decide) (by decide)) hT394100 hs394098 (fun N hv hu hp => rPl_put hT393792 htq368446 rfl (x393794 N hv hu hp) n394091 hp393829 nb393832 hL393830 (fun _ _ _ _ z => z) (rNx_ren he393834 he394097 hu hv (Or.inr rfl) (Or.inl rfl) (Or.inl rfl) (by rw [← hp393829]; exact x393794 N hv hu hp _ nb393832 _ hL393830))) fk394099 (mz_up ez394121 (Int.le_trans bg393790'.2 (by decide)) hm20_393795)
                      · have r394122 : o394117.toInt ≠ 0 := gj_neq hc394119 (show Int32.toInt 0 = 0 by decide)
                        have bo394117' : gB o394117 1 1 := gB_t1 bo394117 r394122
                        refine G_aload 0 dr_cX17_rename_123 rfl ?_
                        refine Gp_get 1 hm393833 he394097 dr_cX17_rename_125 (gk_X15 D I) (Nat.le_of_ble_eq_true rfl) wr_9_182 rfl ?_
                        refine G_iload_n 5 dr_cX17_rename_128 rfl ?_
                        refine G_icmp_ne 138 dr_cX17_rename_129 (by decide +kernel) (fun hc394123 => ?_) (fun hc394123 => ?_)
                        · have r394124 : p393836.toInt ≠ p368447.toInt := gC_ne hc394123
                          obtain ⟨z394125, hz394125⟩ : ∃ z : Int32, z = g393790 + Int32.ofInt 1 := ⟨_, rfl⟩
                          have ez394125 : z394125.toInt = g393790.toInt + 1 := gI_inc hz394125 (by decide) bg393790' (by decide) (by decide)
                          have bz394125 : gB z394125 1 1000001 := ⟨by omega, by omega⟩
                          refine G_iinc (L' := [(5, .int z394125), (6, .ref q392925), (4, .ref q392915), (3, .int g392855), (0, .ref q368446), (1, .int p368447), (2, .int p368448)]) z394125 1 dr_cX17_rename_138 rfl hz394125.symm (Nat.le_of_ble_eq_true rfl) rfl ?_
                          refine G_goto 20 dr_cX17_rename_141 (by decide +kernel) ?_
                          refine G_lv (L' := [(5, .int z394125), (4, .ref q392915), (3, .int g392855), (0, .ref q368446), (1, .int p368447), (2, .int p368448)]) [0, 2, 3, 4, 5, 6] rfl ?_
                          exact ih20_393795 F394089 z394125 (gB_w bz394125 (by decide) (by decide)) hT394100 hs394098 (fun N hv hu hp => rPl_put hT393792 htq368446 rfl (x393794 N hv hu hp) n394091 hp393829 nb393832 hL393830 (fun _ _ _ _ z => z) (rNx_ren he393834 he394097 hu hv (Or.inr rfl) (Or.inl rfl) (Or.inl rfl) (by rw [← hp393829]; exact x393794 N hv hu hp _ nb393832 _ hL393830))) fk394099 (mz_up ez394125 (Int.le_trans bg393790'.2 (by decide)) hm20_393795)
                        · have r394126 : p393836.toInt = p368447.toInt := gC_eq hc394123
                          refine G_aload 0 dr_cX17_rename_132 rfl ?_
                          refine G_iload_n 6 dr_cX17_rename_134 rfl ?_
                          refine Gp_put 1 hm393833 he394097 dr_cX17_rename_135 (gk_X15 D I) (Nat.le_of_ble_eq_true rfl) wr_9_182 rfl rfl rfl (Nat.le_of_ble_eq_true rfl) (fun F394127 e394128 n394129 => ?_)
                          have he394130 : F394127 q368446 = .inr (18, [.ref q392866, .ref q392867, .int p392868, .int p392869]) := (n394129 q368446 (rn_oo he394092 he394097 (by decide))).trans he394092
                          have he394131 : F394127 q392866 = .inr (4, [.int p392896, .ref q392898, .int p392897]) := (n394129 q392866 (rn_oo he394093 he394097 (by decide))).trans he394093
                          have he394132 : F394127 q392898 = .inl (I (.object "java/lang/Object"), n392912, .inr (.inr (.inr (.inr f392913)))) := (n394129 q392898 (rn_ao he394094 he394097)).trans he394094
                          have he394133 : F394127 q392915 = .inr (17, [.ref q392924, .ref q392925, .int p392926, .int p392927]) := (n394129 q392915 (rn_oo he394095 he394097 (by decide))).trans he394095
                          have he394134 : F394127 q392924 = .inr (4, [.int p393805, .ref q393807, .int p393806]) := (n394129 q392924 (rn_oo he394096 he394097 (by decide))).trans he394096
                          have he394135 : F394127 q392925 = .inr (20, [.int p393835, .int p368448, .int p368448, .int p393838, .int p393839, .int p393840, .int p393841]) := e394128
                          have hs394136 : rStr γ [1] F368445 F394127 := rStr_pu2 hs394098 n394129 ht392930 (by decide)
                          have fk394137 : rFk [1] γ F368445 F394127 := rFk_put fk394099 n394129 ht392930 (by decide)
                          obtain ⟨z394138, hz394138⟩ : ∃ z : Int32, z = g393790 + Int32.ofInt 1 := ⟨_, rfl⟩
                          have ez394138 : z394138.toInt = g393790.toInt + 1 := gI_inc hz394138 (by decide) bg393790' (by decide) (by decide)
                          have bz394138 : gB z394138 1 1000001 := ⟨by omega, by omega⟩
                          refine G_iinc (L' := [(5, .int z394138), (6, .ref q392925), (4, .ref q392915), (3, .int g392855), (0, .ref q368446), (1, .int p368447), (2, .int p368448)]) z394138 1 dr_cX17_rename_138 rfl hz394138.symm (Nat.le_of_ble_eq_true rfl) rfl ?_
                          refine G_goto 20 dr_cX17_rename_141 (by decide +kernel) ?_
                          have hT394139 : RS D I P368444 F394127 γ el := RS_set hT394100 n394129 ht392930 (by decide) ⟨p393835, p368448, p368448, p393838, p393839, p393840, p393841, he394135, bp393835, bp368448, bp393839, bp393840, bp393841, r393842, (Or.inr bp368448), r393844, r393845, r393846⟩
                          have of394140 : ∀ b, b ≠ q392925 → F394127 b = F393791 b := fun b hb => (n394129 b hb).trans (n394091 b hb)
                          refine G_lv (L' := [(5, .int z394138), (4, .ref q392915), (3, .int g392855), (0, .ref q368446), (1, .int p368447), (2, .int p368448)]) [0, 2, 3, 4, 5, 6] rfl ?_
                          exact ih20_393795 F394127 z394138 (gB_w bz394138 (by decide) (by decide)) hT394139 hs394136 (fun N hv hu hp => rPl_put hT393792 htq368446 rfl (x393794 N hv hu hp) of394140 hp393829 nb393832 hL393830 (fun _ _ _ _ z => z) (rNx_ren he393834 he394135 hu hv (Or.inr rfl) (Or.inl rfl) (Or.inr ⟨rfl, by first | assumption | omega⟩) (by rw [← hp393829]; exact x393794 N hv hu hp _ nb393832 _ hL393830))) fk394137 (mz_up ez394138 (Int.le_trans bg393790'.2 (by decide)) hm20_393795)
                    · have r394141 : o394107.toInt ≠ 0 := gj_neq hc394110 (show Int32.toInt 0 = 0 by decide)
                      have bo394107' : gB o394107 1 1 := gB_t1 bo394107 r394141
                      refine G_aload 0 dr_cX17_rename_100 rfl ?_
                      refine Gp_get 3 hm393833 he394097 dr_cX17_rename_102 (gk_X15 D I) (Nat.le_of_ble_eq_true rfl) wr_9_190 rfl ?_
                      refine G_iload_n 5 dr_cX17_rename_105 rfl ?_
                      refine G_icmp_ne 115 dr_cX17_rename_106 (by decide +kernel) (fun hc394142 => ?_) (fun hc394142 => ?_)
                      · have r394143 : p393838.toInt ≠ p368447.toInt := gC_ne hc394142
                        refine G_aload 0 dr_cX17_rename_115 rfl ?_
                        refine Gw_callV (As := []) (gV_ok D I) (cp_1660_Row_sets l hl0 D I P368444 F394089 q392925 p393835 p393836 p368448 p393838 p393839 p393840 p393841 hm393833 he394097 bp393835 bp393836 bp393839 bp393840 bp393841) dr_cX17_rename_117 ⟨wr_10_181, wr_1_39, wr_10_184, by decide, rfl, (Nat.le_of_ble_eq_true rfl), (Nat.le_of_ble_eq_true rfl)⟩ wr_10_182 wr_10_183 hm393833 he394097 rfl (show 0 + 0 ≤ 0 by first | omega | decide) (show 0 + 0 ≤ 0 by first | omega | decide) (Nat.le_of_ble_eq_true rfl) (fun r394147 w394148 dc394144 ds394145 hp394146 => ?_) (fun _ _ _ _ _ z => z.elim)
                        obtain ⟨o394149, rfl, rfl, hdc, hds, bo394149, ht394150⟩ := hp394146
                        change G _ _ _ _ _ _ _ (.int o394149 :: _) _ _ _
                        refine G_widen (cs' := 0) (sl' := 0) (by omega) (by omega) ?_
                        refine G_if_eq 138 dr_cX17_rename_120 (by decide +kernel) (fun hc394151 => ?_) (fun hc394151 => ?_)
                        · have r394152 : o394149.toInt = 0 := gj_eq hc394151 (show Int32.toInt 0 = 0 by decide)
                          have bo394149' : gB o394149 0 0 := gB_t0 r394152
                          obtain ⟨z394153, hz394153⟩ : ∃ z : Int32, z = g393790 + Int32.ofInt 1 := ⟨_, rfl⟩
                          have ez394153 : z394153.toInt = g393790.toInt + 1 := gI_inc hz394153 (by decide) bg393790' (by decide) (by decide)
                          have bz394153 : gB z394153 1 1000001 := ⟨by omega, by omega⟩
                          refine G_iinc (L' := [(5, .int z394153), (6, .ref q392925), (4, .ref q392915), (3, .int g392855), (0, .ref q368446), (1, .int p368447), (2, .int p368448)]) z394153 1 dr_cX17_rename_138 rfl hz394153.symm (Nat.le_of_ble_eq_true rfl) rfl ?_
                          refine G_goto 20 dr_cX17_rename_141 (by decide +kernel) ?_
                          refine G_lv (L' := [(5, .int z394153), (4, .ref q392915), (3, .int g392855), (0, .ref q368446), (1, .int p368447), (2, .int p368448)]) [0, 2, 3, 4, 5, 6] rfl ?_
                          exact ih20_393795 F394089 z394153 (gB_w bz394153 (by decide) (by decide)) hT394100 hs394098 (fun N hv hu hp => rPl_put hT393792 htq368446 rfl (x393794 N hv hu hp) n394091 hp393829 nb393832 hL393830 (fun _ _ _ _ z => z) (rNx_ren he393834 he394097 hu hv (Or.inr rfl) (Or.inl rfl) (Or.inl rfl) (by rw [← hp393829]; exact x393794 N hv hu hp _ nb393832 _ hL393830))) fk394099 (mz_up ez394153 (Int.le_trans bg393790'.2 (by decide)) hm20_393795)
                        · have r394154 : o394149.toInt ≠ 0 := gj_neq hc394151 (show Int32.toInt 0 = 0 by decide)
                          have bo394149' : gB o394149 1 1 := gB_t1 bo394149 r394154
                          refine G_aload 0 dr_cX17_rename_123 rfl ?_
                          refine Gp_get 1 hm393833 he394097 dr_cX17_rename_125 (gk_X15 D I) (Nat.le_of_ble_eq_true rfl) wr_9_182 rfl ?_
                          refine G_iload_n 5 dr_cX17_rename_128 rfl ?_
                          refine G_icmp_ne 138 dr_cX17_rename_129 (by decide +kernel) (fun hc394155 => ?_) (fun hc394155 => ?_)
                          · have r394156 : p393836.toInt ≠ p368447.toInt := gC_ne hc394155
                            obtain ⟨z394157, hz394157⟩ : ∃ z : Int32, z = g393790 + Int32.ofInt 1 := ⟨_, rfl⟩
                            have ez394157 : z394157.toInt = g393790.toInt + 1 := gI_inc hz394157 (by decide) bg393790' (by decide) (by decide)
                            have bz394157 : gB z394157 1 1000001 := ⟨by omega, by omega⟩
                            refine G_iinc (L' := [(5, .int z394157), (6, .ref q392925), (4, .ref q392915), (3, .int g392855), (0, .ref q368446), (1, .int p368447), (2, .int p368448)]) z394157 1 dr_cX17_rename_138 rfl hz394157.symm (Nat.le_of_ble_eq_true rfl) rfl ?_
                            refine G_goto 20 dr_cX17_rename_141 (by decide +kernel) ?_
                            refine G_lv (L' := [(5, .int z394157), (4, .ref q392915), (3, .int g392855), (0, .ref q368446), (1, .int p368447), (2, .int p368448)]) [0, 2, 3, 4, 5, 6] rfl ?_
                            exact ih20_393795 F394089 z394157 (gB_w bz394157 (by decide) (by decide)) hT394100 hs394098 (fun N hv hu hp => rPl_put hT393792 htq368446 rfl (x393794 N hv hu hp) n394091 hp393829 nb393832 hL393830 (fun _ _ _ _ z => z) (rNx_ren he393834 he394097 hu hv (Or.inr rfl) (Or.inl rfl) (Or.inl rfl) (by rw [← hp393829]; exact x393794 N hv hu hp _ nb393832 _ hL393830))) fk394099 (mz_up ez394157 (Int.le_trans bg393790'.2 (by decide)) hm20_393795)
                          · have r394158 : p393836.toInt = p368447.toInt := gC_eq hc394155
                            refine G_aload 0 dr_cX17_rename_132 rfl ?_
                            refine G_iload_n 6 dr_cX17_rename_134 rfl ?_
                            refine Gp_put 1 hm393833 he394097 dr_cX17_rename_135 (gk_X15 D I) (Nat.le_of_ble_eq_true rfl) wr_9_182 rfl rfl rfl (Nat.le_of_ble_eq_true rfl) (fun F394159 e394160 n394161 => ?_)
                            have he394162 : F394159 q368446 = .inr (18, [.ref q392866, .ref q392867, .int p392868, .int p392869]) := (n394161 q368446 (rn_oo he394092 he394097 (by decide))).trans he394092
                            have he394163 : F394159 q392866 = .inr (4, [.int p392896, .ref q392898, .int p392897]) := (n394161 q392866 (rn_oo he394093 he394097 (by decide))).trans he394093
                            have he394164 : F394159 q392898 = .inl (I (.object "java/lang/Object"), n392912, .inr (.inr (.inr (.inr f392913)))) := (n394161 q392898 (rn_ao he394094 he394097)).trans he394094
                            have he394165 : F394159 q392915 = .inr (17, [.ref q392924, .ref q392925, .int p392926, .int p392927]) := (n394161 q392915 (rn_oo he394095 he394097 (by decide))).trans he394095
                            have he394166 : F394159 q392924 = .inr (4, [.int p393805, .ref q393807, .int p393806]) := (n394161 q392924 (rn_oo he394096 he394097 (by decide))).trans he394096
                            have he394167 : F394159 q392925 = .inr (20, [.int p393835, .int p368448, .int p368448, .int p393838, .int p393839, .int p393840, .int p393841]) := e394160
                            have hs394168 : rStr γ [1] F368445 F394159 := rStr_pu2 hs394098 n394161 ht392930 (by decide)
                            have fk394169 : rFk [1] γ F368445 F394159 := rFk_put fk394099 n394161 ht392930 (by decide)
                            obtain ⟨z394170, hz394170⟩ : ∃ z : Int32, z = g393790 + Int32.ofInt 1 := ⟨_, rfl⟩
                            have ez394170 : z394170.toInt = g393790.toInt + 1 := gI_inc hz394170 (by decide) bg393790' (by decide) (by decide)
                            have bz394170 : gB z394170 1 1000001 := ⟨by omega, by omega⟩
                            refine G_iinc (L' := [(5, .int z394170), (6, .ref q392925), (4, .ref q392915), (3, .int g392855), (0, .ref q368446), (1, .int p368447), (2, .int p368448)]) z394170 1 dr_cX17_rename_138 rfl hz394170.symm (Nat.le_of_ble_eq_true rfl) rfl ?_
                            refine G_goto 20 dr_cX17_rename_141 (by decide +kernel) ?_
                            have hT394171 : RS D I P368444 F394159 γ el := RS_set hT394100 n394161 ht392930 (by decide) ⟨p393835, p368448, p368448, p393838, p393839, p393840, p393841, he394167, bp393835, bp368448, bp393839, bp393840, bp393841, r393842, (Or.inr bp368448), r393844, r393845, r393846⟩
                            have of394172 : ∀ b, b ≠ q392925 → F394159 b = F393791 b := fun b hb => (n394161 b hb).trans (n394091 b hb)
                            refine G_lv (L' := [(5, .int z394170), (4, .ref q392915), (3, .int g392855), (0, .ref q368446), (1, .int p368447), (2, .int p368448)]) [0, 2, 3, 4, 5, 6] rfl ?_
                            exact ih20_393795 F394159 z394170 (gB_w bz394170 (by decide) (by decide)) hT394171 hs394168 (fun N hv hu hp => rPl_put hT393792 htq368446 rfl (x393794 N hv hu hp) of394172 hp393829 nb393832 hL393830 (fun _ _ _ _ z => z) (rNx_ren he393834 he394167 hu hv (Or.inr rfl) (Or.inl rfl) (Or.inr ⟨rfl, by first | assumption | omega⟩) (by rw [← hp393829]; exact x393794 N hv hu hp _ nb393832 _ hL393830))) fk394169 (mz_up ez394170 (Int.le_trans bg393790'.2 (by decide)) hm20_393795)
                      · have r394173 : p393838.toInt = p368447.toInt := gC_eq hc394142
                        have bp393838' : gB p393838 0 1999 := ⟨by omega, by omega⟩
                        refine G_aload 0 dr_cX17_rename_109 rfl ?_
                        refine G_iload_n 6 dr_cX17_rename_111 rfl ?_
                        refine Gp_put 3 hm393833 he394097 dr_cX17_rename_112 (gk_X15 D I) (Nat.le_of_ble_eq_true rfl) wr_9_190 rfl rfl rfl (Nat.le_of_ble_eq_true rfl) (fun F394174 e394175 n394176 => ?_)
                        have he394177 : F394174 q368446 = .inr (18, [.ref q392866, .ref q392867, .int p392868, .int p392869]) := (n394176 q368446 (rn_oo he394092 he394097 (by decide))).trans he394092
                        have he394178 : F394174 q392866 = .inr (4, [.int p392896, .ref q392898, .int p392897]) := (n394176 q392866 (rn_oo he394093 he394097 (by decide))).trans he394093
                        have he394179 : F394174 q392898 = .inl (I (.object "java/lang/Object"), n392912, .inr (.inr (.inr (.inr f392913)))) := (n394176 q392898 (rn_ao he394094 he394097)).trans he394094
                        have he394180 : F394174 q392915 = .inr (17, [.ref q392924, .ref q392925, .int p392926, .int p392927]) := (n394176 q392915 (rn_oo he394095 he394097 (by decide))).trans he394095
                        have he394181 : F394174 q392924 = .inr (4, [.int p393805, .ref q393807, .int p393806]) := (n394176 q392924 (rn_oo he394096 he394097 (by decide))).trans he394096
                        have he394182 : F394174 q392925 = .inr (20, [.int p393835, .int p393836, .int p368448, .int p368448, .int p393839, .int p393840, .int p393841]) := e394175
                        have hs394183 : rStr γ [1] F368445 F394174 := rStr_pu2 hs394098 n394176 ht392930 (by decide)
                        have fk394184 : rFk [1] γ F368445 F394174 := rFk_put fk394099 n394176 ht392930 (by decide)
                        refine G_aload 0 dr_cX17_rename_115 rfl ?_
                        have hT394185 : RS D I P368444 F394174 γ el := RS_set hT394100 n394176 ht392930 (by decide) ⟨p393835, p393836, p368448, p368448, p393839, p393840, p393841, he394182, bp393835, bp393836, bp393839, bp393840, bp393841, r393842, (Or.inr bp368448), (Or.inr bp368448), r393845, r393846⟩
                        have of394186 : ∀ b, b ≠ q392925 → F394174 b = F393791 b := fun b hb => (n394176 b hb).trans (n394091 b hb)
                        refine Gw_callV (As := []) (gV_ok D I) (cp_1660_Row_sets l hl0 D I P368444 F394174 q392925 p393835 p393836 p368448 p368448 p393839 p393840 p393841 hm393833 he394182 bp393835 bp393836 bp393839 bp393840 bp393841) dr_cX17_rename_117 ⟨wr_10_181, wr_1_39, wr_10_184, by decide, rfl, (Nat.le_of_ble_eq_true rfl), (Nat.le_of_ble_eq_true rfl)⟩ wr_10_182 wr_10_183 hm393833 he394182 rfl (show 0 + 0 ≤ 0 by first | omega | decide) (show 0 + 0 ≤ 0 by first | omega | decide) (Nat.le_of_ble_eq_true rfl) (fun r394190 w394191 dc394187 ds394188 hp394189 => ?_) (fun _ _ _ _ _ z => z.elim)
                        obtain ⟨o394192, rfl, rfl, hdc, hds, bo394192, ht394193⟩ := hp394189
                        change G _ _ _ _ _ _ _ (.int o394192 :: _) _ _ _
                        refine G_widen (cs' := 0) (sl' := 0) (by omega) (by omega) ?_
                        refine G_if_eq 138 dr_cX17_rename_120 (by decide +kernel) (fun hc394194 => ?_) (fun hc394194 => ?_)
                        · have r394195 : o394192.toInt = 0 := gj_eq hc394194 (show Int32.toInt 0 = 0 by decide)
                          have bo394192' : gB o394192 0 0 := gB_t0 r394195
                          obtain ⟨z394196, hz394196⟩ : ∃ z : Int32, z = g393790 + Int32.ofInt 1 := ⟨_, rfl⟩
                          have ez394196 : z394196.toInt = g393790.toInt + 1 := gI_inc hz394196 (by decide) bg393790' (by decide) (by decide)
                          have bz394196 : gB z394196 1 1000001 := ⟨by omega, by omega⟩
                          refine G_iinc (L' := [(5, .int z394196), (6, .ref q392925), (4, .ref q392915), (3, .int g392855), (0, .ref q368446), (1, .int p368447), (2, .int p368448)]) z394196 1 dr_cX17_rename_138 rfl hz394196.symm (Nat.le_of_ble_eq_true rfl) rfl ?_
                          refine G_goto 20 dr_cX17_rename_141 (by decide +kernel) ?_
                          refine G_lv (L' := [(5, .int z394196), (4, .ref q392915), (3, .int g392855), (0, .ref q368446), (1, .int p368447), (2, .int p368448)]) [0, 2, 3, 4, 5, 6] rfl ?_
                          exact ih20_393795 F394174 z394196 (gB_w bz394196 (by decide) (by decide)) hT394185 hs394183 (fun N hv hu hp => rPl_put hT393792 htq368446 rfl (x393794 N hv hu hp) of394186 hp393829 nb393832 hL393830 (fun _ _ _ _ z => z) (rNx_ren he393834 he394182 hu hv (Or.inr rfl) (Or.inr rfl) (Or.inl rfl) (by rw [← hp393829]; exact x393794 N hv hu hp _ nb393832 _ hL393830))) fk394184 (mz_up ez394196 (Int.le_trans bg393790'.2 (by decide)) hm20_393795)
                        · have r394197 : o394192.toInt ≠ 0 := gj_neq hc394194 (show Int32.toInt 0 = 0 by decide)
                          have bo394192' : gB o394192 1 1 := gB_t1 bo394192 r394197
                          refine G_aload 0 dr_cX17_rename_123 rfl ?_
                          refine Gp_get 1 hm393833 he394182 dr_cX17_rename_125 (gk_X15 D I) (Nat.le_of_ble_eq_true rfl) wr_9_182 rfl ?_
                          refine G_iload_n 5 dr_cX17_rename_128 rfl ?_
                          refine G_icmp_ne 138 dr_cX17_rename_129 (by decide +kernel) (fun hc394198 => ?_) (fun hc394198 => ?_)
                          · have r394199 : p393836.toInt ≠ p368447.toInt := gC_ne hc394198
                            obtain ⟨z394200, hz394200⟩ : ∃ z : Int32, z = g393790 + Int32.ofInt 1 := ⟨_, rfl⟩
                            have ez394200 : z394200.toInt = g393790.toInt + 1 := gI_inc hz394200 (by decide) bg393790' (by decide) (by decide)
                            have bz394200 : gB z394200 1 1000001 := ⟨by omega, by omega⟩
                            refine G_iinc (L' := [(5, .int z394200), (6, .ref q392925), (4, .ref q392915), (3, .int g392855), (0, .ref q368446), (1, .int p368447), (2, .int p368448)]) z394200 1 dr_cX17_rename_138 rfl hz394200.symm (Nat.le_of_ble_eq_true rfl) rfl ?_
                            refine G_goto 20 dr_cX17_rename_141 (by decide +kernel) ?_
                            refine G_lv (L' := [(5, .int z394200), (4, .ref q392915), (3, .int g392855), (0, .ref q368446), (1, .int p368447), (2, .int p368448)]) [0, 2, 3, 4, 5, 6] rfl ?_
                            exact ih20_393795 F394174 z394200 (gB_w bz394200 (by decide) (by decide)) hT394185 hs394183 (fun N hv hu hp => rPl_put hT393792 htq368446 rfl (x393794 N hv hu hp) of394186 hp393829 nb393832 hL393830 (fun _ _ _ _ z => z) (rNx_ren he393834 he394182 hu hv (Or.inr rfl) (Or.inr rfl) (Or.inl rfl) (by rw [← hp393829]; exact x393794 N hv hu hp _ nb393832 _ hL393830))) fk394184 (mz_up ez394200 (Int.le_trans bg393790'.2 (by decide)) hm20_393795)
                          · have r394201 : p393836.toInt = p368447.toInt := gC_eq hc394198
                            refine G_aload 0 dr_cX17_rename_132 rfl ?_
                            refine G_iload_n 6 dr_cX17_rename_134 rfl ?_
                            refine Gp_put 1 hm393833 he394182 dr_cX17_rename_135 (gk_X15 D I) (Nat.le_of_ble_eq_true rfl) wr_9_182 rfl rfl rfl (Nat.le_of_ble_eq_true rfl) (fun F394202 e394203 n394204 => ?_)
                            have he394205 : F394202 q368446 = .inr (18, [.ref q392866, .ref q392867, .int p392868, .int p392869]) := (n394204 q368446 (rn_oo he394177 he394182 (by decide))).trans he394177
                            have he394206 : F394202 q392866 = .inr (4, [.int p392896, .ref q392898, .int p392897]) := (n394204 q392866 (rn_oo he394178 he394182 (by decide))).trans he394178
                            have he394207 : F394202 q392898 = .inl (I (.object "java/lang/Object"), n392912, .inr (.inr (.inr (.inr f392913)))) := (n394204 q392898 (rn_ao he394179 he394182)).trans he394179
                            have he394208 : F394202 q392915 = .inr (17, [.ref q392924, .ref q392925, .int p392926, .int p392927]) := (n394204 q392915 (rn_oo he394180 he394182 (by decide))).trans he394180
                            have he394209 : F394202 q392924 = .inr (4, [.int p393805, .ref q393807, .int p393806]) := (n394204 q392924 (rn_oo he394181 he394182 (by decide))).trans he394181
                            have he394210 : F394202 q392925 = .inr (20, [.int p393835, .int p368448, .int p368448, .int p368448, .int p393839, .int p393840, .int p393841]) := e394203
                            have hs394211 : rStr γ [1] F368445 F394202 := rStr_pu2 hs394183 n394204 ht392930 (by decide)
                            have fk394212 : rFk [1] γ F368445 F394202 := rFk_put fk394184 n394204 ht392930 (by decide)
                            obtain ⟨z394213, hz394213⟩ : ∃ z : Int32, z = g393790 + Int32.ofInt 1 := ⟨_, rfl⟩
                            have ez394213 : z394213.toInt = g393790.toInt + 1 := gI_inc hz394213 (by decide) bg393790' (by decide) (by decide)
                            have bz394213 : gB z394213 1 1000001 := ⟨by omega, by omega⟩
                            refine G_iinc (L' := [(5, .int z394213), (6, .ref q392925), (4, .ref q392915), (3, .int g392855), (0, .ref q368446), (1, .int p368447), (2, .int p368448)]) z394213 1 dr_cX17_rename_138 rfl hz394213.symm (Nat.le_of_ble_eq_true rfl) rfl ?_
                            refine G_goto 20 dr_cX17_rename_141 (by decide +kernel) ?_
                            have hT394214 : RS D I P368444 F394202 γ el := RS_set hT394185 n394204 ht392930 (by decide) ⟨p393835, p368448, p368448, p368448, p393839, p393840, p393841, he394210, bp393835, bp368448, bp393839, bp393840, bp393841, r393842, (Or.inr bp368448), (Or.inr bp368448), r393845, r393846⟩
                            have of394215 : ∀ b, b ≠ q392925 → F394202 b = F393791 b := fun b hb => (n394204 b hb).trans (of394186 b hb)
                            refine G_lv (L' := [(5, .int z394213), (4, .ref q392915), (3, .int g392855), (0, .ref q368446), (1, .int p368447), (2, .int p368448)]) [0, 2, 3, 4, 5, 6] rfl ?_
                            exact ih20_393795 F394202 z394213 (gB_w bz394213 (by decide) (by decide)) hT394214 hs394211 (fun N hv hu hp => rPl_put hT393792 htq368446 rfl (x393794 N hv hu hp) of394215 hp393829 nb393832 hL393830 (fun _ _ _ _ z => z) (rNx_ren he393834 he394210 hu hv (Or.inr rfl) (Or.inr rfl) (Or.inr ⟨rfl, by first | assumption | omega⟩) (by rw [← hp393829]; exact x393794 N hv hu hp _ nb393832 _ hL393830))) fk394212 (mz_up ez394213 (Int.le_trans bg393790'.2 (by decide)) hm20_393795)
              · have r394216 : g393790.toInt < p393806.toInt := gC_nle hc393827
                have bg393790'' : gB g393790 0 999999 := ⟨by omega, by omega⟩
                have bp393806' : gB p393806 1 1000000 := ⟨by omega, by omega⟩
                refine G_aload 1 dr_cX17_rename_46 rfl ?_
                refine Gp_get 0 hm392922 he393801 dr_cX17_rename_48 (gk_X12 D I) (Nat.le_of_ble_eq_true rfl) wr_9_220 rfl ?_
                refine G_iload 0 dr_cX17_rename_51 rfl ?_
                obtain ⟨r394217, r394218, n394225, f394226, r394219, r394220, r394221, r394222, r394223, r394224⟩ := rLC_n r393810 (by omega)
                have hm394227 : q393807 ∈ P368444 := RS_m hT393792 r394217 (by decide)
                obtain ⟨q394228, hx394229⟩ : ∃ x, x = el q392924 g393790.toInt.toNat := ⟨_, rfl⟩
                have hx394230 : f394226 g393790.toNatClampNeg = some q394228 := (r394223 _ (show g393790.toInt.toNat < γ 2 q392924 by omega)).trans (by rw [hx394229])
                have ht394231 : rKd γ q394228 1 := by rw [hx394229]; exact (r393811 _ (show g393790.toInt.toNat < γ 2 q392924 by omega)).1
                have ht394232 : rFm γ q394228 q392924 := by rw [hx394229]; exact (r393811 _ (show g393790.toInt.toNat < γ 2 q392924 by omega)).2.1
                refine Gw_callV (As := [.int g393790]) (gV_ok D I) (cp_22_ArrayList_get l hl0 D I P368444 F393791 q392924 q393807 g393790 p393805 p393806 f394226 n394225 q394228 hm393803 hm394227 he393804 r394219 (gB_w bg393790'' (by decide) (by decide)) (gB_w bp393806' (by decide) (by decide)) (by omega) (by omega) (by assumption) (by omega)) dr_cX17_rename_53 ⟨wr_10_201, wr_1_18, wr_10_65, by decide, rfl, (Nat.le_of_ble_eq_true rfl), (Nat.le_of_ble_eq_true rfl)⟩ wr_10_63 wr_10_64 hm393803 he393804 rfl (show 0 + 0 ≤ 0 by first | omega | decide) (show 0 + 0 ≤ 0 by first | omega | decide) (Nat.le_of_ble_eq_true rfl) (fun r394236 w394237 dc394233 ds394234 hp394235 => ?_) (fun _ _ _ _ _ z => z.elim)
                obtain ⟨rfl, rfl, hdc, hds, ht394238⟩ := hp394235
                change G _ _ _ _ _ _ _ (.ref q394228 :: _) _ _ _
                refine G_widen (cs' := 0) (sl' := 0) (by omega) (by omega) ?_
                have hm394239 : q394228 ∈ P368444 := RS_m hT393792 ht394231 (by decide)
                obtain ⟨p394241, p394242, p394243, p394244, p394245, p394246, p394247, he394240, bp394241, bp394242, bp394245, bp394246, bp394247, r394248, r394249, r394250, r394251, r394252⟩ := show rk_1 γ q394228 (F393791 q394228) from RS_o hT393792 ht394231
                have bp394243 := gB_any p394243
                have bp394244 := gB_any p394244
                refine Gp_cast hm394239 he394240 rfl dr_cX17_rename_56 wr_10_202 (gr_cast 1 rfl) ?_
                refine G_goto 67 dr_cX17_rename_59 (by decide +kernel) ?_
                have fl394255 : p393806.toInt = γ 2 q392924 := r393808
                have hp394253 : rAt γ el q368446 (g392855.toInt : Int).toNat (g393790.toInt : Int).toNat = q394228 := (rAt_r hb392943 ht392934.1 (by omega)).trans (by rw [hx394229])
                have hL394254 : (g393790.toInt : Int).toNat ≤ γ 2 (rwL γ el q368446 (g392855.toInt : Int).toNat) := by unfold rwL; rw [hb392943, ht392934.1]; omega
                have nb394256 : (g392855.toInt : Int).toNat < γ 6 (γ 1 q368446) := by omega
                refine G_astore (L' := [(6, .ref q394228), (5, .int g393790), (4, .ref q392915), (3, .int g392855), (0, .ref q368446), (1, .int p368447), (2, .int p368448)]) dr_cX17_rename_67 (Nat.le_of_ble_eq_true rfl) rfl ?_
                refine G_aload 0 dr_cX17_rename_69 rfl ?_
                refine Gw_callV (As := []) (gV_ok D I) (cp_1675_Row_usesA l hl0 D I P368444 F393791 q394228 p394241 p394242 p394243 p394244 p394245 p394246 p394247 hm394239 he394240 bp394241 bp394242 bp394245 bp394246 bp394247) dr_cX17_rename_71 ⟨wr_10_192, wr_1_39, wr_10_195, by decide, rfl, (Nat.le_of_ble_eq_true rfl), (Nat.le_of_ble_eq_true rfl)⟩ wr_10_193 wr_10_194 hm394239 he394240 rfl (show 0 + 0 ≤ 0 by first | omega | decide) (show 0 + 0 ≤ 0 by first | omega | decide) (Nat.le_of_ble_eq_true rfl) (fun r394260 w394261 dc394257 ds394258 hp394259 => ?_) (fun _ _ _ _ _ z => z.elim)
                obtain ⟨o394262, rfl, rfl, hdc, hds, bo394262, x394263, ht394264⟩ := hp394259
                change G _ _ _ _ _ _ _ (.int o394262 :: _) _ _ _
                refine G_widen (cs' := 0) (sl' := 0) (by omega) (by omega) ?_
                refine G_if_eq 92 dr_cX17_rename_74 (by decide +kernel) (fun hc394265 => ?_) (fun hc394265 => ?_)
                · have r394266 : o394262.toInt = 0 := gj_eq hc394265 (show Int32.toInt 0 = 0 by decide)
                  have bo394262' : gB o394262 0 0 := gB_t0 r394266
                  refine G_aload 0 dr_cX17_rename_92 rfl ?_
                  refine Gw_callV (As := []) (gV_ok D I) (cp_1699_Row_usesB l hl0 D I P368444 F393791 q394228 p394241 p394242 p394243 p394244 p394245 p394246 p394247 hm394239 he394240 bp394241 bp394242 bp394245 bp394246 bp394247) dr_cX17_rename_94 ⟨wr_10_196, wr_1_39, wr_10_199, by decide, rfl, (Nat.le_of_ble_eq_true rfl), (Nat.le_of_ble_eq_true rfl)⟩ wr_10_197 wr_10_198 hm394239 he394240 rfl (show 0 + 0 ≤ 0 by first | omega | decide) (show 0 + 0 ≤ 0 by first | omega | decide) (Nat.le_of_ble_eq_true rfl) (fun r394270 w394271 dc394267 ds394268 hp394269 => ?_) (fun _ _ _ _ _ z => z.elim)
                  obtain ⟨o394272, rfl, rfl, hdc, hds, bo394272, x394273, ht394274⟩ := hp394269
                  change G _ _ _ _ _ _ _ (.int o394272 :: _) _ _ _
                  refine G_widen (cs' := 0) (sl' := 0) (by omega) (by omega) ?_
                  refine G_if_eq 115 dr_cX17_rename_97 (by decide +kernel) (fun hc394275 => ?_) (fun hc394275 => ?_)
                  · have r394276 : o394272.toInt = 0 := gj_eq hc394275 (show Int32.toInt 0 = 0 by decide)
                    have bo394272' : gB o394272 0 0 := gB_t0 r394276
                    refine G_aload 0 dr_cX17_rename_115 rfl ?_
                    refine Gw_callV (As := []) (gV_ok D I) (cp_1660_Row_sets l hl0 D I P368444 F393791 q394228 p394241 p394242 p394243 p394244 p394245 p394246 p394247 hm394239 he394240 bp394241 bp394242 bp394245 bp394246 bp394247) dr_cX17_rename_117 ⟨wr_10_181, wr_1_39, wr_10_184, by decide, rfl, (Nat.le_of_ble_eq_true rfl), (Nat.le_of_ble_eq_true rfl)⟩ wr_10_182 wr_10_183 hm394239 he394240 rfl (show 0 + 0 ≤ 0 by first | omega | decide) (show 0 + 0 ≤ 0 by first | omega | decide) (Nat.le_of_ble_eq_true rfl) (fun r394280 w394281 dc394277 ds394278 hp394279 => ?_) (fun _ _ _ _ _ z => z.elim)
                    obtain ⟨o394282, rfl, rfl, hdc, hds, bo394282, ht394283⟩ := hp394279
                    change G _ _ _ _ _ _ _ (.int o394282 :: _) _ _ _
                    refine G_widen (cs' := 0) (sl' := 0) (by omega) (by omega) ?_
                    refine G_if_eq 138 dr_cX17_rename_120 (by decide +kernel) (fun hc394284 => ?_) (fun hc394284 => ?_)
                    · have r394285 : o394282.toInt = 0 := gj_eq hc394284 (show Int32.toInt 0 = 0 by decide)
                      have bo394282' : gB o394282 0 0 := gB_t0 r394285
                      obtain ⟨z394286, hz394286⟩ : ∃ z : Int32, z = g393790 + Int32.ofInt 1 := ⟨_, rfl⟩
                      have ez394286 : z394286.toInt = g393790.toInt + 1 := gI_inc hz394286 (by decide) bg393790'' (by decide) (by decide)
                      have bz394286 : gB z394286 1 1000000 := ⟨by omega, by omega⟩
                      refine G_iinc (L' := [(5, .int z394286), (6, .ref q394228), (4, .ref q392915), (3, .int g392855), (0, .ref q368446), (1, .int p368447), (2, .int p368448)]) z394286 1 dr_cX17_rename_138 rfl hz394286.symm (Nat.le_of_ble_eq_true rfl) rfl ?_
                      refine G_goto 20 dr_cX17_rename_141 (by decide +kernel) ?_
                      refine G_lv (L' := [(5, .int z394286), (4, .ref q392915), (3, .int g392855), (0, .ref q368446), (1, .int p368447), (2, .int p368448)]) [0, 2, 3, 4, 5, 6] rfl ?_
                      exact ih20_393795 F393791 z394286 (gB_w bz394286 (by decide) (by decide)) hT393792 hs393793 x393794 x393795 (mz_up ez394286 (Int.le_trans bg393790''.2 (by decide)) hm20_393795)
                    · have r394287 : o394282.toInt ≠ 0 := gj_neq hc394284 (show Int32.toInt 0 = 0 by decide)
                      have bo394282' : gB o394282 1 1 := gB_t1 bo394282 r394287
                      refine G_aload 0 dr_cX17_rename_123 rfl ?_
                      refine Gp_get 1 hm394239 he394240 dr_cX17_rename_125 (gk_X15 D I) (Nat.le_of_ble_eq_true rfl) wr_9_182 rfl ?_
                      refine G_iload_n 5 dr_cX17_rename_128 rfl ?_
                      refine G_icmp_ne 138 dr_cX17_rename_129 (by decide +kernel) (fun hc394288 => ?_) (fun hc394288 => ?_)
                      · have r394289 : p394242.toInt ≠ p368447.toInt := gC_ne hc394288
                        obtain ⟨z394290, hz394290⟩ : ∃ z : Int32, z = g393790 + Int32.ofInt 1 := ⟨_, rfl⟩
                        have ez394290 : z394290.toInt = g393790.toInt + 1 := gI_inc hz394290 (by decide) bg393790'' (by decide) (by decide)
                        have bz394290 : gB z394290 1 1000000 := ⟨by omega, by omega⟩
                        refine G_iinc (L' := [(5, .int z394290), (6, .ref q394228), (4, .ref q392915), (3, .int g392855), (0, .ref q368446), (1, .int p368447), (2, .int p368448)]) z394290 1 dr_cX17_rename_138 rfl hz394290.symm (Nat.le_of_ble_eq_true rfl) rfl ?_
                        refine G_goto 20 dr_cX17_rename_141 (by decide +kernel) ?_
                        refine G_lv (L' := [(5, .int z394290), (4, .ref q392915), (3, .int g392855), (0, .ref q368446), (1, .int p368447), (2, .int p368448)]) [0, 2, 3, 4, 5, 6] rfl ?_
                        exact ih20_393795 F393791 z394290 (gB_w bz394290 (by decide) (by decide)) hT393792 hs393793 x393794 x393795 (mz_up ez394290 (Int.le_trans bg393790''.2 (by decide)) hm20_393795)
                      · have r394291 : p394242.toInt = p368447.toInt := gC_eq hc394288
                        refine G_aload 0 dr_cX17_rename_132 rfl ?_
                        refine G_iload_n 6 dr_cX17_rename_134 rfl ?_
                        refine Gp_put 1 hm394239 he394240 dr_cX17_rename_135 (gk_X15 D I) (Nat.le_of_ble_eq_true rfl) wr_9_182 rfl rfl rfl (Nat.le_of_ble_eq_true rfl) (fun F394292 e394293 n394294 => ?_)
                        have he394295 : F394292 q368446 = .inr (18, [.ref q392866, .ref q392867, .int p392868, .int p392869]) := (n394294 q368446 (rn_oo he393798 he394240 (by decide))).trans he393798
                        have he394296 : F394292 q392866 = .inr (4, [.int p392896, .ref q392898, .int p392897]) := (n394294 q392866 (rn_oo he393799 he394240 (by decide))).trans he393799
                        have he394297 : F394292 q392898 = .inl (I (.object "java/lang/Object"), n392912, .inr (.inr (.inr (.inr f392913)))) := (n394294 q392898 (rn_ao he393800 he394240)).trans he393800
                        have he394298 : F394292 q392915 = .inr (17, [.ref q392924, .ref q392925, .int p392926, .int p392927]) := (n394294 q392915 (rn_oo he393801 he394240 (by decide))).trans he393801
                        have he394299 : F394292 q392924 = .inr (4, [.int p393805, .ref q393807, .int p393806]) := (n394294 q392924 (rn_oo he393804 he394240 (by decide))).trans he393804
                        have he394300 : F394292 q393807 = .inl (I (.object "java/lang/Object"), n394225, .inr (.inr (.inr (.inr f394226)))) := (n394294 q393807 (rn_ao r394219 he394240)).trans r394219
                        have he394301 : F394292 q394228 = .inr (20, [.int p394241, .int p368448, .int p394243, .int p394244, .int p394245, .int p394246, .int p394247]) := e394293
                        have hs394302 : rStr γ [1] F368445 F394292 := rStr_pu2 hs393793 n394294 ht394231 (by decide)
                        have fk394303 : rFk [1] γ F368445 F394292 := rFk_put x393795 n394294 ht394231 (by decide)
                        obtain ⟨z394304, hz394304⟩ : ∃ z : Int32, z = g393790 + Int32.ofInt 1 := ⟨_, rfl⟩
                        have ez394304 : z394304.toInt = g393790.toInt + 1 := gI_inc hz394304 (by decide) bg393790'' (by decide) (by decide)
                        have bz394304 : gB z394304 1 1000000 := ⟨by omega, by omega⟩
                        refine G_iinc (L' := [(5, .int z394304), (6, .ref q394228), (4, .ref q392915), (3, .int g392855), (0, .ref q368446), (1, .int p368447), (2, .int p368448)]) z394304 1 dr_cX17_rename_138 rfl hz394304.symm (Nat.le_of_ble_eq_true rfl) rfl ?_
                        refine G_goto 20 dr_cX17_rename_141 (by decide +kernel) ?_
                        have hT394305 : RS D I P368444 F394292 γ el := RS_set hT393792 n394294 ht394231 (by decide) ⟨p394241, p368448, p394243, p394244, p394245, p394246, p394247, he394301, bp394241, bp368448, bp394245, bp394246, bp394247, r394248, r394249, r394250, r394251, r394252⟩
                        refine G_lv (L' := [(5, .int z394304), (4, .ref q392915), (3, .int g392855), (0, .ref q368446), (1, .int p368447), (2, .int p368448)]) [0, 2, 3, 4, 5, 6] rfl ?_
                        exact ih20_393795 F394292 z394304 (gB_w bz394304 (by decide) (by decide)) hT394305 hs394302 (fun N hv hu hp => rPl_put hT393792 htq368446 rfl (x393794 N hv hu hp) n394294 hp394253 nb394256 hL394254 (fun _ _ _ _ z => z) (rNx_ren he394240 he394301 hu hv (Or.inl rfl) (Or.inl rfl) (Or.inr ⟨rfl, by first | assumption | omega⟩) (by rw [← hp394253]; exact x393794 N hv hu hp _ nb394256 _ hL394254))) fk394303 (mz_up ez394304 (Int.le_trans bg393790''.2 (by decide)) hm20_393795)
                  · have r394307 : o394272.toInt ≠ 0 := gj_neq hc394275 (show Int32.toInt 0 = 0 by decide)
                    have bo394272' : gB o394272 1 1 := gB_t1 bo394272 r394307
                    refine G_aload 0 dr_cX17_rename_100 rfl ?_
                    refine Gp_get 3 hm394239 he394240 dr_cX17_rename_102 (gk_X15 D I) (Nat.le_of_ble_eq_true rfl) wr_9_190 rfl ?_
                    refine G_iload_n 5 dr_cX17_rename_105 rfl ?_
                    refine G_icmp_ne 115 dr_cX17_rename_106 (by decide +kernel) (fun hc394308 => ?_) (fun hc394308 => ?_)
                    · have r394309 : p394244.toInt ≠ p368447.toInt := gC_ne hc394308
                      refine G_aload 0 dr_cX17_rename_115 rfl ?_
                      refine Gw_callV (As := []) (gV_ok D I) (cp_1660_Row_sets l hl0 D I P368444 F393791 q394228 p394241 p394242 p394243 p394244 p394245 p394246 p394247 hm394239 he394240 bp394241 bp394242 bp394245 bp394246 bp394247) dr_cX17_rename_117 ⟨wr_10_181, wr_1_39, wr_10_184, by decide, rfl, (Nat.le_of_ble_eq_true rfl), (Nat.le_of_ble_eq_true rfl)⟩ wr_10_182 wr_10_183 hm394239 he394240 rfl (show 0 + 0 ≤ 0 by first | omega | decide) (show 0 + 0 ≤ 0 by first | omega | decide) (Nat.le_of_ble_eq_true rfl) (fun r394313 w394314 dc394310 ds394311 hp394312 => ?_) (fun _ _ _ _ _ z => z.elim)
                      obtain ⟨o394315, rfl, rfl, hdc, hds, bo394315, ht394316⟩ := hp394312
                      change G _ _ _ _ _ _ _ (.int o394315 :: _) _ _ _
                      refine G_widen (cs' := 0) (sl' := 0) (by omega) (by omega) ?_
                      refine G_if_eq 138 dr_cX17_rename_120 (by decide +kernel) (fun hc394317 => ?_) (fun hc394317 => ?_)
                      · have r394318 : o394315.toInt = 0 := gj_eq hc394317 (show Int32.toInt 0 = 0 by decide)
                        have bo394315' : gB o394315 0 0 := gB_t0 r394318
                        obtain ⟨z394319, hz394319⟩ : ∃ z : Int32, z = g393790 + Int32.ofInt 1 := ⟨_, rfl⟩
                        have ez394319 : z394319.toInt = g393790.toInt + 1 := gI_inc hz394319 (by decide) bg393790'' (by decide) (by decide)
                        have bz394319 : gB z394319 1 1000000 := ⟨by omega, by omega⟩
                        refine G_iinc (L' := [(5, .int z394319), (6, .ref q394228), (4, .ref q392915), (3, .int g392855), (0, .ref q368446), (1, .int p368447), (2, .int p368448)]) z394319 1 dr_cX17_rename_138 rfl hz394319.symm (Nat.le_of_ble_eq_true rfl) rfl ?_
                        refine G_goto 20 dr_cX17_rename_141 (by decide +kernel) ?_
                        refine G_lv (L' := [(5, .int z394319), (4, .ref q392915), (3, .int g392855), (0, .ref q368446), (1, .int p368447), (2, .int p368448)]) [0, 2, 3, 4, 5, 6] rfl ?_
                        exact ih20_393795 F393791 z394319 (gB_w bz394319 (by decide) (by decide)) hT393792 hs393793 x393794 x393795 (mz_up ez394319 (Int.le_trans bg393790''.2 (by decide)) hm20_393795)
                      · have r394320 : o394315.toInt ≠ 0 := gj_neq hc394317 (show Int32.toInt 0 = 0 by decide)
                        have bo394315' : gB o394315 1 1 := gB_t1 bo394315 r394320
                        refine G_aload 0 dr_cX17_rename_123 rfl ?_
                        refine Gp_get 1 hm394239 he394240 dr_cX17_rename_125 (gk_X15 D I) (Nat.le_of_ble_eq_true rfl) wr_9_182 rfl ?_
                        refine G_iload_n 5 dr_cX17_rename_128 rfl ?_
                        refine G_icmp_ne 138 dr_cX17_rename_129 (by decide +kernel) (fun hc394321 => ?_) (fun hc394321 => ?_)
                        · have r394322 : p394242.toInt ≠ p368447.toInt := gC_ne hc394321
                          obtain ⟨z394323, hz394323⟩ : ∃ z : Int32, z = g393790 + Int32.ofInt 1 := ⟨_, rfl⟩
                          have ez394323 : z394323.toInt = g393790.toInt + 1 := gI_inc hz394323 (by decide) bg393790'' (by decide) (by decide)
                          have bz394323 : gB z394323 1 1000000 := ⟨by omega, by omega⟩
                          refine G_iinc (L' := [(5, .int z394323), (6, .ref q394228), (4, .ref q392915), (3, .int g392855), (0, .ref q368446), (1, .int p368447), (2, .int p368448)]) z394323 1 dr_cX17_rename_138 rfl hz394323.symm (Nat.le_of_ble_eq_true rfl) rfl ?_
                          refine G_goto 20 dr_cX17_rename_141 (by decide +kernel) ?_
                          refine G_lv (L' := [(5, .int z394323), (4, .ref q392915), (3, .int g392855), (0, .ref q368446), (1, .int p368447), (2, .int p368448)]) [0, 2, 3, 4, 5, 6] rfl ?_
                          exact ih20_393795 F393791 z394323 (gB_w bz394323 (by decide) (by decide)) hT393792 hs393793 x393794 x393795 (mz_up ez394323 (Int.le_trans bg393790''.2 (by decide)) hm20_393795)
                        · have r394324 : p394242.toInt = p368447.toInt := gC_eq hc394321
                          refine G_aload 0 dr_cX17_rename_132 rfl ?_
                          refine G_iload_n 6 dr_cX17_rename_134 rfl ?_
                          refine Gp_put 1 hm394239 he394240 dr_cX17_rename_135 (gk_X15 D I) (Nat.le_of_ble_eq_true rfl) wr_9_182 rfl rfl rfl (Nat.le_of_ble_eq_true rfl) (fun F394325 e394326 n394327 => ?_)
                          have he394328 : F394325 q368446 = .inr (18, [.ref q392866, .ref q392867, .int p392868, .int p392869]) := (n394327 q368446 (rn_oo he393798 he394240 (by decide))).trans he393798
                          have he394329 : F394325 q392866 = .inr (4, [.int p392896, .ref q392898, .int p392897]) := (n394327 q392866 (rn_oo he393799 he394240 (by decide))).trans he393799
                          have he394330 : F394325 q392898 = .inl (I (.object "java/lang/Object"), n392912, .inr (.inr (.inr (.inr f392913)))) := (n394327 q392898 (rn_ao he393800 he394240)).trans he393800
                          have he394331 : F394325 q392915 = .inr (17, [.ref q392924, .ref q392925, .int p392926, .int p392927]) := (n394327 q392915 (rn_oo he393801 he394240 (by decide))).trans he393801
                          have he394332 : F394325 q392924 = .inr (4, [.int p393805, .ref q393807, .int p393806]) := (n394327 q392924 (rn_oo he393804 he394240 (by decide))).trans he393804
                          have he394333 : F394325 q393807 = .inl (I (.object "java/lang/Object"), n394225, .inr (.inr (.inr (.inr f394226)))) := (n394327 q393807 (rn_ao r394219 he394240)).trans r394219
                          have he394334 : F394325 q394228 = .inr (20, [.int p394241, .int p368448, .int p394243, .int p394244, .int p394245, .int p394246, .int p394247]) := e394326
                          have hs394335 : rStr γ [1] F368445 F394325 := rStr_pu2 hs393793 n394327 ht394231 (by decide)
                          have fk394336 : rFk [1] γ F368445 F394325 := rFk_put x393795 n394327 ht394231 (by decide)
                          obtain ⟨z394337, hz394337⟩ : ∃ z : Int32, z = g393790 + Int32.ofInt 1 := ⟨_, rfl⟩
                          have ez394337 : z394337.toInt = g393790.toInt + 1 := gI_inc hz394337 (by decide) bg393790'' (by decide) (by decide)
                          have bz394337 : gB z394337 1 1000000 := ⟨by omega, by omega⟩
                          refine G_iinc (L' := [(5, .int z394337), (6, .ref q394228), (4, .ref q392915), (3, .int g392855), (0, .ref q368446), (1, .int p368447), (2, .int p368448)]) z394337 1 dr_cX17_rename_138 rfl hz394337.symm (Nat.le_of_ble_eq_true rfl) rfl ?_
                          refine G_goto 20 dr_cX17_rename_141 (by decide +kernel) ?_
                          have hT394338 : RS D I P368444 F394325 γ el := RS_set hT393792 n394327 ht394231 (by decide) ⟨p394241, p368448, p394243, p394244, p394245, p394246, p394247, he394334, bp394241, bp368448, bp394245, bp394246, bp394247, r394248, r394249, r394250, r394251, r394252⟩
                          refine G_lv (L' := [(5, .int z394337), (4, .ref q392915), (3, .int g392855), (0, .ref q368446), (1, .int p368447), (2, .int p368448)]) [0, 2, 3, 4, 5, 6] rfl ?_
                          exact ih20_393795 F394325 z394337 (gB_w bz394337 (by decide) (by decide)) hT394338 hs394335 (fun N hv hu hp => rPl_put hT393792 htq368446 rfl (x393794 N hv hu hp) n394327 hp394253 nb394256 hL394254 (fun _ _ _ _ z => z) (rNx_ren he394240 he394334 hu hv (Or.inl rfl) (Or.inl rfl) (Or.inr ⟨rfl, by first | assumption | omega⟩) (by rw [← hp394253]; exact x393794 N hv hu hp _ nb394256 _ hL394254))) fk394336 (mz_up ez394337 (Int.le_trans bg393790''.2 (by decide)) hm20_393795)
                    · have r394340 : p394244.toInt = p368447.toInt := gC_eq hc394308
                      have bp394244' : gB p394244 0 1999 := ⟨by omega, by omega⟩
                      refine G_aload 0 dr_cX17_rename_109 rfl ?_
                      refine G_iload_n 6 dr_cX17_rename_111 rfl ?_
                      refine Gp_put 3 hm394239 he394240 dr_cX17_rename_112 (gk_X15 D I) (Nat.le_of_ble_eq_true rfl) wr_9_190 rfl rfl rfl (Nat.le_of_ble_eq_true rfl) (fun F394341 e394342 n394343 => ?_)
                      have he394344 : F394341 q368446 = .inr (18, [.ref q392866, .ref q392867, .int p392868, .int p392869]) := (n394343 q368446 (rn_oo he393798 he394240 (by decide))).trans he393798
                      have he394345 : F394341 q392866 = .inr (4, [.int p392896, .ref q392898, .int p392897]) := (n394343 q392866 (rn_oo he393799 he394240 (by decide))).trans he393799
                      have he394346 : F394341 q392898 = .inl (I (.object "java/lang/Object"), n392912, .inr (.inr (.inr (.inr f392913)))) := (n394343 q392898 (rn_ao he393800 he394240)).trans he393800
                      have he394347 : F394341 q392915 = .inr (17, [.ref q392924, .ref q392925, .int p392926, .int p392927]) := (n394343 q392915 (rn_oo he393801 he394240 (by decide))).trans he393801
                      have he394348 : F394341 q392924 = .inr (4, [.int p393805, .ref q393807, .int p393806]) := (n394343 q392924 (rn_oo he393804 he394240 (by decide))).trans he393804
                      have he394349 : F394341 q393807 = .inl (I (.object "java/lang/Object"), n394225, .inr (.inr (.inr (.inr f394226)))) := (n394343 q393807 (rn_ao r394219 he394240)).trans r394219
                      have he394350 : F394341 q394228 = .inr (20, [.int p394241, .int p394242, .int p394243, .int p368448, .int p394245, .int p394246, .int p394247]) := e394342
                      have hs394351 : rStr γ [1] F368445 F394341 := rStr_pu2 hs393793 n394343 ht394231 (by decide)
                      have fk394352 : rFk [1] γ F368445 F394341 := rFk_put x393795 n394343 ht394231 (by decide)
                      refine G_aload 0 dr_cX17_rename_115 rfl ?_
                      have hT394353 : RS D I P368444 F394341 γ el := RS_set hT393792 n394343 ht394231 (by decide) ⟨p394241, p394242, p394243, p368448, p394245, p394246, p394247, he394350, bp394241, bp394242, bp394245, bp394246, bp394247, r394248, r394249, (Or.inr bp368448), r394251, r394252⟩
                      refine Gw_callV (As := []) (gV_ok D I) (cp_1660_Row_sets l hl0 D I P368444 F394341 q394228 p394241 p394242 p394243 p368448 p394245 p394246 p394247 hm394239 he394350 bp394241 bp394242 bp394245 bp394246 bp394247) dr_cX17_rename_117 ⟨wr_10_181, wr_1_39, wr_10_184, by decide, rfl, (Nat.le_of_ble_eq_true rfl), (Nat.le_of_ble_eq_true rfl)⟩ wr_10_182 wr_10_183 hm394239 he394350 rfl (show 0 + 0 ≤ 0 by first | omega | decide) (show 0 + 0 ≤ 0 by first | omega | decide) (Nat.le_of_ble_eq_true rfl) (fun r394358 w394359 dc394355 ds394356 hp394357 => ?_) (fun _ _ _ _ _ z => z.elim)
                      obtain ⟨o394360, rfl, rfl, hdc, hds, bo394360, ht394361⟩ := hp394357
                      change G _ _ _ _ _ _ _ (.int o394360 :: _) _ _ _
                      refine G_widen (cs' := 0) (sl' := 0) (by omega) (by omega) ?_
                      refine G_if_eq 138 dr_cX17_rename_120 (by decide +kernel) (fun hc394362 => ?_) (fun hc394362 => ?_)
                      · have r394363 : o394360.toInt = 0 := gj_eq hc394362 (show Int32.toInt 0 = 0 by decide)
                        have bo394360' : gB o394360 0 0 := gB_t0 r394363
                        obtain ⟨z394364, hz394364⟩ : ∃ z : Int32, z = g393790 + Int32.ofInt 1 := ⟨_, rfl⟩
                        have ez394364 : z394364.toInt = g393790.toInt + 1 := gI_inc hz394364 (by decide) bg393790'' (by decide) (by decide)
                        have bz394364 : gB z394364 1 1000000 := ⟨by omega, by omega⟩
                        refine G_iinc (L' := [(5, .int z394364), (6, .ref q394228), (4, .ref q392915), (3, .int g392855), (0, .ref q368446), (1, .int p368447), (2, .int p368448)]) z394364 1 dr_cX17_rename_138 rfl hz394364.symm (Nat.le_of_ble_eq_true rfl) rfl ?_
                        refine G_goto 20 dr_cX17_rename_141 (by decide +kernel) ?_
                        refine G_lv (L' := [(5, .int z394364), (4, .ref q392915), (3, .int g392855), (0, .ref q368446), (1, .int p368447), (2, .int p368448)]) [0, 2, 3, 4, 5, 6] rfl ?_
                        exact ih20_393795 F394341 z394364 (gB_w bz394364 (by decide) (by decide)) hT394353 hs394351 (fun N hv hu hp => rPl_put hT393792 htq368446 rfl (x393794 N hv hu hp) n394343 hp394253 nb394256 hL394254 (fun _ _ _ _ z => z) (rNx_ren he394240 he394350 hu hv (Or.inl rfl) (Or.inr rfl) (Or.inl rfl) (by rw [← hp394253]; exact x393794 N hv hu hp _ nb394256 _ hL394254))) fk394352 (mz_up ez394364 (Int.le_trans bg393790''.2 (by decide)) hm20_393795)
                      · have r394365 : o394360.toInt ≠ 0 := gj_neq hc394362 (show Int32.toInt 0 = 0 by decide)
                        have bo394360' : gB o394360 1 1 := gB_t1 bo394360 r394365
                        refine G_aload 0 dr_cX17_rename_123 rfl ?_
                        refine Gp_get 1 hm394239 he394350 dr_cX17_rename_125 (gk_X15 D I) (Nat.le_of_ble_eq_true rfl) wr_9_182 rfl ?_
                        refine G_iload_n 5 dr_cX17_rename_128 rfl ?_
                        refine G_icmp_ne 138 dr_cX17_rename_129 (by decide +kernel) (fun hc394366 => ?_) (fun hc394366 => ?_)
                        · have r394367 : p394242.toInt ≠ p368447.toInt := gC_ne hc394366
                          obtain ⟨z394368, hz394368⟩ : ∃ z : Int32, z = g393790 + Int32.ofInt 1 := ⟨_, rfl⟩
                          have ez394368 : z394368.toInt = g393790.toInt + 1 := gI_inc hz394368 (by decide) bg393790'' (by decide) (by decide)
                          have bz394368 : gB z394368 1 1000000 := ⟨by omega, by omega⟩
                          refine G_iinc (L' := [(5, .int z394368), (6, .ref q394228), (4, .ref q392915), (3, .int g392855), (0, .ref q368446), (1, .int p368447), (2, .int p368448)]) z394368 1 dr_cX17_rename_138 rfl hz394368.symm (Nat.le_of_ble_eq_true rfl) rfl ?_
                          refine G_goto 20 dr_cX17_rename_141 (by decide +kernel) ?_
                          refine G_lv (L' := [(5, .int z394368), (4, .ref q392915), (3, .int g392855), (0, .ref q368446), (1, .int p368447), (2, .int p368448)]) [0, 2, 3, 4, 5, 6] rfl ?_
                          exact ih20_393795 F394341 z394368 (gB_w bz394368 (by decide) (by decide)) hT394353 hs394351 (fun N hv hu hp => rPl_put hT393792 htq368446 rfl (x393794 N hv hu hp) n394343 hp394253 nb394256 hL394254 (fun _ _ _ _ z => z) (rNx_ren he394240 he394350 hu hv (Or.inl rfl) (Or.inr rfl) (Or.inl rfl) (by rw [← hp394253]; exact x393794 N hv hu hp _ nb394256 _ hL394254))) fk394352 (mz_up ez394368 (Int.le_trans bg393790''.2 (by decide)) hm20_393795)
                        · have r394369 : p394242.toInt = p368447.toInt := gC_eq hc394366
                          refine G_aload 0 dr_cX17_rename_132 rfl ?_
                          refine G_iload_n 6 dr_cX17_rename_134 rfl ?_
                          refine Gp_put 1 hm394239 he394350 dr_cX17_rename_135 (gk_X15 D I) (Nat.le_of_ble_eq_true rfl) wr_9_182 rfl rfl rfl (Nat.le_of_ble_eq_true rfl) (fun F394370 e394371 n394372 => ?_)
                          have he394373 : F394370 q368446 = .inr (18, [.ref q392866, .ref q392867, .int p392868, .int p392869]) := (n394372 q368446 (rn_oo he394344 he394350 (by decide))).trans he394344
                          have he394374 : F394370 q392866 = .inr (4, [.int p392896, .ref q392898, .int p392897]) := (n394372 q392866 (rn_oo he394345 he394350 (by decide))).trans he394345
                          have he394375 : F394370 q392898 = .inl (I (.object "java/lang/Object"), n392912, .inr (.inr (.inr (.inr f392913)))) := (n394372 q392898 (rn_ao he394346 he394350)).trans he394346
                          have he394376 : F394370 q392915 = .inr (17, [.ref q392924, .ref q392925, .int p392926, .int p392927]) := (n394372 q392915 (rn_oo he394347 he394350 (by decide))).trans he394347
                          have he394377 : F394370 q392924 = .inr (4, [.int p393805, .ref q393807, .int p393806]) := (n394372 q392924 (rn_oo he394348 he394350 (by decide))).trans he394348
                          have he394378 : F394370 q393807 = .inl (I (.object "java/lang/Object"), n394225, .inr (.inr (.inr (.inr f394226)))) := (n394372 q393807 (rn_ao he394349 he394350)).trans he394349
                          have he394379 : F394370 q394228 = .inr (20, [.int p394241, .int p368448, .int p394243, .int p368448, .int p394245, .int p394246, .int p394247]) := e394371
                          have hs394380 : rStr γ [1] F368445 F394370 := rStr_pu2 hs394351 n394372 ht394231 (by decide)
                          have fk394381 : rFk [1] γ F368445 F394370 := rFk_put fk394352 n394372 ht394231 (by decide)
                          obtain ⟨z394382, hz394382⟩ : ∃ z : Int32, z = g393790 + Int32.ofInt 1 := ⟨_, rfl⟩
                          have ez394382 : z394382.toInt = g393790.toInt + 1 := gI_inc hz394382 (by decide) bg393790'' (by decide) (by decide)
                          have bz394382 : gB z394382 1 1000000 := ⟨by omega, by omega⟩
                          refine G_iinc (L' := [(5, .int z394382), (6, .ref q394228), (4, .ref q392915), (3, .int g392855), (0, .ref q368446), (1, .int p368447), (2, .int p368448)]) z394382 1 dr_cX17_rename_138 rfl hz394382.symm (Nat.le_of_ble_eq_true rfl) rfl ?_
                          refine G_goto 20 dr_cX17_rename_141 (by decide +kernel) ?_
                          have hT394383 : RS D I P368444 F394370 γ el := RS_set hT394353 n394372 ht394231 (by decide) ⟨p394241, p368448, p394243, p368448, p394245, p394246, p394247, he394379, bp394241, bp368448, bp394245, bp394246, bp394247, r394248, r394249, (Or.inr bp368448), r394251, r394252⟩
                          have of394384 : ∀ b, b ≠ q394228 → F394370 b = F393791 b := fun b hb => (n394372 b hb).trans (n394343 b hb)
                          refine G_lv (L' := [(5, .int z394382), (4, .ref q392915), (3, .int g392855), (0, .ref q368446), (1, .int p368447), (2, .int p368448)]) [0, 2, 3, 4, 5, 6] rfl ?_
                          exact ih20_393795 F394370 z394382 (gB_w bz394382 (by decide) (by decide)) hT394383 hs394380 (fun N hv hu hp => rPl_put hT393792 htq368446 rfl (x393794 N hv hu hp) of394384 hp394253 nb394256 hL394254 (fun _ _ _ _ z => z) (rNx_ren he394240 he394379 hu hv (Or.inl rfl) (Or.inr rfl) (Or.inr ⟨rfl, by first | assumption | omega⟩) (by rw [← hp394253]; exact x393794 N hv hu hp _ nb394256 _ hL394254))) fk394381 (mz_up ez394382 (Int.le_trans bg393790''.2 (by decide)) hm20_393795)
                · have r394385 : o394262.toInt ≠ 0 := gj_neq hc394265 (show Int32.toInt 0 = 0 by decide)
                  have bo394262' : gB o394262 1 1 := gB_t1 bo394262 r394385
                  refine G_aload 0 dr_cX17_rename_77 rfl ?_
                  refine Gp_get 2 hm394239 he394240 dr_cX17_rename_79 (gk_X15 D I) (Nat.le_of_ble_eq_true rfl) wr_9_186 rfl ?_
                  refine G_iload_n 5 dr_cX17_rename_82 rfl ?_
                  refine G_icmp_ne 92 dr_cX17_rename_83 (by decide +kernel) (fun hc394386 => ?_) (fun hc394386 => ?_)
                  · have r394387 : p394243.toInt ≠ p368447.toInt := gC_ne hc394386
                    refine G_aload 0 dr_cX17_rename_92 rfl ?_
                    refine Gw_callV (As := []) (gV_ok D I) (cp_1699_Row_usesB l hl0 D I P368444 F393791 q394228 p394241 p394242 p394243 p394244 p394245 p394246 p394247 hm394239 he394240 bp394241 bp394242 bp394245 bp394246 bp394247) dr_cX17_rename_94 ⟨wr_10_196, wr_1_39, wr_10_199, by decide, rfl, (Nat.le_of_ble_eq_true rfl), (Nat.le_of_ble_eq_true rfl)⟩ wr_10_197 wr_10_198 hm394239 he394240 rfl (show 0 + 0 ≤ 0 by first | omega | decide) (show 0 + 0 ≤ 0 by first | omega | decide) (Nat.le_of_ble_eq_true rfl) (fun r394391 w394392 dc394388 ds394389 hp394390 => ?_) (fun _ _ _ _ _ z => z.elim)
                    obtain ⟨o394393, rfl, rfl, hdc, hds, bo394393, x394394, ht394395⟩ := hp394390
                    change G _ _ _ _ _ _ _ (.int o394393 :: _) _ _ _
                    refine G_widen (cs' := 0) (sl' := 0) (by omega) (by omega) ?_
                    refine G_if_eq 115 dr_cX17_rename_97 (by decide +kernel) (fun hc394396 => ?_) (fun hc394396 => ?_)
                    · have r394397 : o394393.toInt = 0 := gj_eq hc394396 (show Int32.toInt 0 = 0 by decide)
                      have bo394393' : gB o394393 0 0 := gB_t0 r394397
                      refine G_aload 0 dr_cX17_rename_115 rfl ?_
                      refine Gw_callV (As := []) (gV_ok D I) (cp_1660_Row_sets l hl0 D I P368444 F393791 q394228 p394241 p394242 p394243 p394244 p394245 p394246 p394247 hm394239 he394240 bp394241 bp394242 bp394245 bp394246 bp394247) dr_cX17_rename_117 ⟨wr_10_181, wr_1_39, wr_10_184, by decide, rfl, (Nat.le_of_ble_eq_true rfl), (Nat.le_of_ble_eq_true rfl)⟩ wr_10_182 wr_10_183 hm394239 he394240 rfl (show 0 + 0 ≤ 0 by first | omega | decide) (show 0 + 0 ≤ 0 by first | omega | decide) (Nat.le_of_ble_eq_true rfl) (fun r394401 w394402 dc394398 ds394399 hp394400 => ?_) (fun _ _ _ _ _ z => z.elim)
                      obtain ⟨o394403, rfl, rfl, hdc, hds, bo394403, ht394404⟩ := hp394400
                      change G _ _ _ _ _ _ _ (.int o394403 :: _) _ _ _
                      refine G_widen (cs' := 0) (sl' := 0) (by omega) (by omega) ?_
                      refine G_if_eq 138 dr_cX17_rename_120 (by decide +kernel) (fun hc394405 => ?_) (fun hc394405 => ?_)
                      · have r394406 : o394403.toInt = 0 := gj_eq hc394405 (show Int32.toInt 0 = 0 by decide)
                        have bo394403' : gB o394403 0 0 := gB_t0 r394406
                        obtain ⟨z394407, hz394407⟩ : ∃ z : Int32, z = g393790 + Int32.ofInt 1 := ⟨_, rfl⟩
                        have ez394407 : z394407.toInt = g393790.toInt + 1 := gI_inc hz394407 (by decide) bg393790'' (by decide) (by decide)
                        have bz394407 : gB z394407 1 1000000 := ⟨by omega, by omega⟩
                        refine G_iinc (L' := [(5, .int z394407), (6, .ref q394228), (4, .ref q392915), (3, .int g392855), (0, .ref q368446), (1, .int p368447), (2, .int p368448)]) z394407 1 dr_cX17_rename_138 rfl hz394407.symm (Nat.le_of_ble_eq_true rfl) rfl ?_
                        refine G_goto 20 dr_cX17_rename_141 (by decide +kernel) ?_
                        refine G_lv (L' := [(5, .int z394407), (4, .ref q392915), (3, .int g392855), (0, .ref q368446), (1, .int p368447), (2, .int p368448)]) [0, 2, 3, 4, 5, 6] rfl ?_
                        exact ih20_393795 F393791 z394407 (gB_w bz394407 (by decide) (by decide)) hT393792 hs393793 x393794 x393795 (mz_up ez394407 (Int.le_trans bg393790''.2 (by decide)) hm20_393795)
                      · have r394408 : o394403.toInt ≠ 0 := gj_neq hc394405 (show Int32.toInt 0 = 0 by decide)
                        have bo394403' : gB o394403 1 1 := gB_t1 bo394403 r394408
                        refine G_aload 0 dr_cX17_rename_123 rfl ?_
                        refine Gp_get 1 hm394239 he394240 dr_cX17_rename_125 (gk_X15 D I) (Nat.le_of_ble_eq_true rfl) wr_9_182 rfl ?_
                        refine G_iload_n 5 dr_cX17_rename_128 rfl ?_
                        refine G_icmp_ne 138 dr_cX17_rename_129 (by decide +kernel) (fun hc394409 => ?_) (fun hc394409 => ?_)
                        · have r394410 : p394242.toInt ≠ p368447.toInt := gC_ne hc394409
                          obtain ⟨z394411, hz394411⟩ : ∃ z : Int32, z = g393790 + Int32.ofInt 1 := ⟨_, rfl⟩
                          have ez394411 : z394411.toInt = g393790.toInt + 1 := gI_inc hz394411 (by decide) bg393790'' (by decide) (by decide)
                          have bz394411 : gB z394411 1 1000000 := ⟨by omega, by omega⟩
                          refine G_iinc (L' := [(5, .int z394411), (6, .ref q394228), (4, .ref q392915), (3, .int g392855), (0, .ref q368446), (1, .int p368447), (2, .int p368448)]) z394411 1 dr_cX17_rename_138 rfl hz394411.symm (Nat.le_of_ble_eq_true rfl) rfl ?_
                          refine G_goto 20 dr_cX17_rename_141 (by decide +kernel) ?_
                          refine G_lv (L' := [(5, .int z394411), (4, .ref q392915), (3, .int g392855), (0, .ref q368446), (1, .int p368447), (2, .int p368448)]) [0, 2, 3, 4, 5, 6] rfl ?_
                          exact ih20_393795 F393791 z394411 (gB_w bz394411 (by decide) (by decide)) hT393792 hs393793 x393794 x393795 (mz_up ez394411 (Int.le_trans bg393790''.2 (by decide)) hm20_393795)
                        · have r394412 : p394242.toInt = p368447.toInt := gC_eq hc394409
                          refine G_aload 0 dr_cX17_rename_132 rfl ?_
                          refine G_iload_n 6 dr_cX17_rename_134 rfl ?_
                          refine Gp_put 1 hm394239 he394240 dr_cX17_rename_135 (gk_X15 D I) (Nat.le_of_ble_eq_true rfl) wr_9_182 rfl rfl rfl (Nat.le_of_ble_eq_true rfl) (fun F394413 e394414 n394415 => ?_)
                          have he394416 : F394413 q368446 = .inr (18, [.ref q392866, .ref q392867, .int p392868, .int p392869]) := (n394415 q368446 (rn_oo he393798 he394240 (by decide))).trans he393798
                          have he394417 : F394413 q392866 = .inr (4, [.int p392896, .ref q392898, .int p392897]) := (n394415 q392866 (rn_oo he393799 he394240 (by decide))).trans he393799
                          have he394418 : F394413 q392898 = .inl (I (.object "java/lang/Object"), n392912, .inr (.inr (.inr (.inr f392913)))) := (n394415 q392898 (rn_ao he393800 he394240)).trans he393800
                          have he394419 : F394413 q392915 = .inr (17, [.ref q392924, .ref q392925, .int p392926, .int p392927]) := (n394415 q392915 (rn_oo he393801 he394240 (by decide))).trans he393801
                          have he394420 : F394413 q392924 = .inr (4, [.int p393805, .ref q393807, .int p393806]) := (n394415 q392924 (rn_oo he393804 he394240 (by decide))).trans he393804
                          have he394421 : F394413 q393807 = .inl (I (.object "java/lang/Object"), n394225, .inr (.inr (.inr (.inr f394226)))) := (n394415 q393807 (rn_ao r394219 he394240)).trans r394219
                          have he394422 : F394413 q394228 = .inr (20, [.int p394241, .int p368448, .int p394243, .int p394244, .int p394245, .int p394246, .int p394247]) := e394414
                          have hs394423 : rStr γ [1] F368445 F394413 := rStr_pu2 hs393793 n394415 ht394231 (by decide)
                          have fk394424 : rFk [1] γ F368445 F394413 := rFk_put x393795 n394415 ht394231 (by decide)
                          obtain ⟨z394425, hz394425⟩ : ∃ z : Int32, z = g393790 + Int32.ofInt 1 := ⟨_, rfl⟩
                          have ez394425 : z394425.toInt = g393790.toInt + 1 := gI_inc hz394425 (by decide) bg393790'' (by decide) (by decide)
                          have bz394425 : gB z394425 1 1000000 := ⟨by omega, by omega⟩
                          refine G_iinc (L' := [(5, .int z394425), (6, .ref q394228), (4, .ref q392915), (3, .int g392855), (0, .ref q368446), (1, .int p368447), (2, .int p368448)]) z394425 1 dr_cX17_rename_138 rfl hz394425.symm (Nat.le_of_ble_eq_true rfl) rfl ?_
                          refine G_goto 20 dr_cX17_rename_141 (by decide +kernel) ?_
                          have hT394426 : RS D I P368444 F394413 γ el := RS_set hT393792 n394415 ht394231 (by decide) ⟨p394241, p368448, p394243, p394244, p394245, p394246, p394247, he394422, bp394241, bp368448, bp394245, bp394246, bp394247, r394248, r394249, r394250, r394251, r394252⟩
                          refine G_lv (L' := [(5, .int z394425), (4, .ref q392915), (3, .int g392855), (0, .ref q368446), (1, .int p368447), (2, .int p368448)]) [0, 2, 3, 4, 5, 6] rfl ?_
                          exact ih20_393795 F394413 z394425 (gB_w bz394425 (by decide) (by decide)) hT394426 hs394423 (fun N hv hu hp => rPl_put hT393792 htq368446 rfl (x393794 N hv hu hp) n394415 hp394253 nb394256 hL394254 (fun _ _ _ _ z => z) (rNx_ren he394240 he394422 hu hv (Or.inl rfl) (Or.inl rfl) (Or.inr ⟨rfl, by first | assumption | omega⟩) (by rw [← hp394253]; exact x393794 N hv hu hp _ nb394256 _ hL394254))) fk394424 (mz_up ez394425 (Int.le_trans bg393790''.2 (by decide)) hm20_393795)
                    · have r394428 : o394393.toInt ≠ 0 := gj_neq hc394396 (show Int32.toInt 0 = 0 by decide)
                      have bo394393' : gB o394393 1 1 := gB_t1 bo394393 r394428
                      refine G_aload 0 dr_cX17_rename_100 rfl ?_
                      refine Gp_get 3 hm394239 he394240 dr_cX17_rename_102 (gk_X15 D I) (Nat.le_of_ble_eq_true rfl) wr_9_190 rfl ?_
                      refine G_iload_n 5 dr_cX17_rename_105 rfl ?_
                      refine G_icmp_ne 115 dr_cX17_rename_106 (by decide +kernel) (fun hc394429 => ?_) (fun hc394429 => ?_)
                      · have r394430 : p394244.toInt ≠ p368447.toInt := gC_ne hc394429
                        refine G_aload 0 dr_cX17_rename_115 rfl ?_
                        refine Gw_callV (As := []) (gV_ok D I) (cp_1660_Row_sets l hl0 D I P368444 F393791 q394228 p394241 p394242 p394243 p394244 p394245 p394246 p394247 hm394239 he394240 bp394241 bp394242 bp394245 bp394246 bp394247) dr_cX17_rename_117 ⟨wr_10_181, wr_1_39, wr_10_184, by decide, rfl, (Nat.le_of_ble_eq_true rfl), (Nat.le_of_ble_eq_true rfl)⟩ wr_10_182 wr_10_183 hm394239 he394240 rfl (show 0 + 0 ≤ 0 by first | omega | decide) (show 0 + 0 ≤ 0 by first | omega | decide) (Nat.le_of_ble_eq_true rfl) (fun r394434 w394435 dc394431 ds394432 hp394433 => ?_) (fun _ _ _ _ _ z => z.elim)
                        obtain ⟨o394436, rfl, rfl, hdc, hds, bo394436, ht394437⟩ := hp394433
                        change G _ _ _ _ _ _ _ (.int o394436 :: _) _ _ _
                        refine G_widen (cs' := 0) (sl' := 0) (by omega) (by omega) ?_
                        refine G_if_eq 138 dr_cX17_rename_120 (by decide +kernel) (fun hc394438 => ?_) (fun hc394438 => ?_)
                        · have r394439 : o394436.toInt = 0 := gj_eq hc394438 (show Int32.toInt 0 = 0 by decide)
                          have bo394436' : gB o394436 0 0 := gB_t0 r394439
                          obtain ⟨z394440, hz394440⟩ : ∃ z : Int32, z = g393790 + Int32.ofInt 1 := ⟨_, rfl⟩
                          have ez394440 : z394440.toInt = g393790.toInt + 1 := gI_inc hz394440 (by decide) bg393790'' (by decide) (by decide)
                          have bz394440 : gB z394440 1 1000000 := ⟨by omega, by omega⟩
                          refine G_iinc (L' := [(5, .int z394440), (6, .ref q394228), (4, .ref q392915), (3, .int g392855), (0, .ref q368446), (1, .int p368447), (2, .int p368448)]) z394440 1 dr_cX17_rename_138 rfl hz394440.symm (Nat.le_of_ble_eq_true rfl) rfl ?_
                          refine G_goto 20 dr_cX17_rename_141 (by decide +kernel) ?_
                          refine G_lv (L' := [(5, .int z394440), (4, .ref q392915), (3, .int g392855), (0, .ref q368446), (1, .int p368447), (2, .int p368448)]) [0, 2, 3, 4, 5, 6] rfl ?_
                          exact ih20_393795 F393791 z394440 (gB_w bz394440 (by decide) (by decide)) hT393792 hs393793 x393794 x393795 (mz_up ez394440 (Int.le_trans bg393790''.2 (by decide)) hm20_393795)
                        · have r394441 : o394436.toInt ≠ 0 := gj_neq hc394438 (show Int32.toInt 0 = 0 by decide)
                          have bo394436' : gB o394436 1 1 := gB_t1 bo394436 r394441
                          refine G_aload 0 dr_cX17_rename_123 rfl ?_
                          refine Gp_get 1 hm394239 he394240 dr_cX17_rename_125 (gk_X15 D I) (Nat.le_of_ble_eq_true rfl) wr_9_182 rfl ?_
                          refine G_iload_n 5 dr_cX17_rename_128 rfl ?_
                          refine G_icmp_ne 138 dr_cX17_rename_129 (by decide +kernel) (fun hc394442 => ?_) (fun hc394442 => ?_)
                          · have r394443 : p394242.toInt ≠ p368447.toInt := gC_ne hc394442
                            obtain ⟨z394444, hz394444⟩ : ∃ z : Int32, z = g393790 + Int32.ofInt 1 := ⟨_, rfl⟩
                            have ez394444 : z394444.toInt = g393790.toInt + 1 := gI_inc hz394444 (by decide) bg393790'' (by decide) (by decide)
                            have bz394444 : gB z394444 1 1000000 := ⟨by omega, by omega⟩
                            refine G_iinc (L' := [(5, .int z394444), (6, .ref q394228), (4, .ref q392915), (3, .int g392855), (0, .ref q368446), (1, .int p368447), (2, .int p368448)]) z394444 1 dr_cX17_rename_138 rfl hz394444.symm (Nat.le_of_ble_eq_true rfl) rfl ?_
                            refine G_goto 20 dr_cX17_rename_141 (by decide +kernel) ?_
                            refine G_lv (L' := [(5, .int z394444), (4, .ref q392915), (3, .int g392855), (0, .ref q368446), (1, .int p368447), (2, .int p368448)]) [0, 2, 3, 4, 5, 6] rfl ?_
                            exact ih20_393795 F393791 z394444 (gB_w bz394444 (by decide) (by decide)) hT393792 hs393793 x393794 x393795 (mz_up ez394444 (Int.le_trans bg393790''.2 (by decide)) hm20_393795)
                          · have r394445 : p394242.toInt = p368447.toInt := gC_eq hc394442
                            refine G_aload 0 dr_cX17_rename_132 rfl ?_
                            refine G_iload_n 6 dr_cX17_rename_134 rfl ?_
                            refine Gp_put 1 hm394239 he394240 dr_cX17_rename_135 (gk_X15 D I) (Nat.le_of_ble_eq_true rfl) wr_9_182 rfl rfl rfl (Nat.le_of_ble_eq_true rfl) (fun F394446 e394447 n394448 => ?_)
                            have he394449 : F394446 q368446 = .inr (18, [.ref q392866, .ref q392867, .int p392868, .int p392869]) := (n394448 q368446 (rn_oo he393798 he394240 (by decide))).trans he393798
                            have he394450 : F394446 q392866 = .inr (4, [.int p392896, .ref q392898, .int p392897]) := (n394448 q392866 (rn_oo he393799 he394240 (by decide))).trans he393799
                            have he394451 : F394446 q392898 = .inl (I (.object "java/lang/Object"), n392912, .inr (.inr (.inr (.inr f392913)))) := (n394448 q392898 (rn_ao he393800 he394240)).trans he393800
                            have he394452 : F394446 q392915 = .inr (17, [.ref q392924, .ref q392925, .int p392926, .int p392927]) := (n394448 q392915 (rn_oo he393801 he394240 (by decide))).trans he393801
                            have he394453 : F394446 q392924 = .inr (4, [.int p393805, .ref q393807, .int p393806]) := (n394448 q392924 (rn_oo he393804 he394240 (by decide))).trans he393804
                            have he394454 : F394446 q393807 = .inl (I (.object "java/lang/Object"), n394225, .inr (.inr (.inr (.inr f394226)))) := (n394448 q393807 (rn_ao r394219 he394240)).trans r394219
                            have he394455 : F394446 q394228 = .inr (20, [.int p394241, .int p368448, .int p394243, .int p394244, .int p394245, .int p394246, .int p394247]) := e394447
                            have hs394456 : rStr γ [1] F368445 F394446 := rStr_pu2 hs393793 n394448 ht394231 (by decide)
                            have fk394457 : rFk [1] γ F368445 F394446 := rFk_put x393795 n394448 ht394231 (by decide)
                            obtain ⟨z394458, hz394458⟩ : ∃ z : Int32, z = g393790 + Int32.ofInt 1 := ⟨_, rfl⟩
                            have ez394458 : z394458.toInt = g393790.toInt + 1 := gI_inc hz394458 (by decide) bg393790'' (by decide) (by decide)
                            have bz394458 : gB z394458 1 1000000 := ⟨by omega, by omega⟩
                            refine G_iinc (L' := [(5, .int z394458), (6, .ref q394228), (4, .ref q392915), (3, .int g392855), (0, .ref q368446), (1, .int p368447), (2, .int p368448)]) z394458 1 dr_cX17_rename_138 rfl hz394458.symm (Nat.le_of_ble_eq_true rfl) rfl ?_
                            refine G_goto 20 dr_cX17_rename_141 (by decide +kernel) ?_
                            have hT394459 : RS D I P368444 F394446 γ el := RS_set hT393792 n394448 ht394231 (by decide) ⟨p394241, p368448, p394243, p394244, p394245, p394246, p394247, he394455, bp394241, bp368448, bp394245, bp394246, bp394247, r394248, r394249, r394250, r394251, r394252⟩
                            refine G_lv (L' := [(5, .int z394458), (4, .ref q392915), (3, .int g392855), (0, .ref q368446), (1, .int p368447), (2, .int p368448)]) [0, 2, 3, 4, 5, 6] rfl ?_
                            exact ih20_393795 F394446 z394458 (gB_w bz394458 (by decide) (by decide)) hT394459 hs394456 (fun N hv hu hp => rPl_put hT393792 htq368446 rfl (x393794 N hv hu hp) n394448 hp394253 nb394256 hL394254 (fun _ _ _ _ z => z) (rNx_ren he394240 he394455 hu hv (Or.inl rfl) (Or.inl rfl) (Or.inr ⟨rfl, by first | assumption | omega⟩) (by rw [← hp394253]; exact x393794 N hv hu hp _ nb394256 _ hL394254))) fk394457 (mz_up ez394458 (Int.le_trans bg393790''.2 (by decide)) hm20_393795)
                      · have r394461 : p394244.toInt = p368447.toInt := gC_eq hc394429
                        have bp394244' : gB p394244 0 1999 := ⟨by omega, by omega⟩
                        refine G_aload 0 dr_cX17_rename_109 rfl ?_
                        refine G_iload_n 6 dr_cX17_rename_111 rfl ?_
                        refine Gp_put 3 hm394239 he394240 dr_cX17_rename_112 (gk_X15 D I) (Nat.le_of_ble_eq_true rfl) wr_9_190 rfl rfl rfl (Nat.le_of_ble_eq_true rfl) (fun F394462 e394463 n394464 => ?_)
                        have he394465 : F394462 q368446 = .inr (18, [.ref q392866, .ref q392867, .int p392868, .int p392869]) := (n394464 q368446 (rn_oo he393798 he394240 (by decide))).trans he393798
                        have he394466 : F394462 q392866 = .inr (4, [.int p392896, .ref q392898, .int p392897]) := (n394464 q392866 (rn_oo he393799 he394240 (by decide))).trans he393799
                        have he394467 : F394462 q392898 = .inl (I (.object "java/lang/Object"), n392912, .inr (.inr (.inr (.inr f392913)))) := (n394464 q392898 (rn_ao he393800 he394240)).trans he393800
                        have he394468 : F394462 q392915 = .inr (17, [.ref q392924, .ref q392925, .int p392926, .int p392927]) := (n394464 q392915 (rn_oo he393801 he394240 (by decide))).trans he393801
                        have he394469 : F394462 q392924 = .inr (4, [.int p393805, .ref q393807, .int p393806]) := (n394464 q392924 (rn_oo he393804 he394240 (by decide))).trans he393804
                        have he394470 : F394462 q393807 = .inl (I (.object "java/lang/Object"), n394225, .inr (.inr (.inr (.inr f394226)))) := (n394464 q393807 (rn_ao r394219 he394240)).trans r394219
                        have he394471 : F394462 q394228 = .inr (20, [.int p394241, .int p394242, .int p394243, .int p368448, .int p394245, .int p394246, .int p394247]) := e394463
                        have hs394472 : rStr γ [1] F368445 F394462 := rStr_pu2 hs393793 n394464 ht394231 (by decide)
                        have fk394473 : rFk [1] γ F368445 F394462 := rFk_put x393795 n394464 ht394231 (by decide)
                        refine G_aload 0 dr_cX17_rename_115 rfl ?_
                        have hT394474 : RS D I P368444 F394462 γ el := RS_set hT393792 n394464 ht394231 (by decide) ⟨p394241, p394242, p394243, p368448, p394245, p394246, p394247, he394471, bp394241, bp394242, bp394245, bp394246, bp394247, r394248, r394249, (Or.inr bp368448), r394251, r394252⟩
                        refine Gw_callV (As := []) (gV_ok D I) (cp_1660_Row_sets l hl0 D I P368444 F394462 q394228 p394241 p394242 p394243 p368448 p394245 p394246 p394247 hm394239 he394471 bp394241 bp394242 bp394245 bp394246 bp394247) dr_cX17_rename_117 ⟨wr_10_181, wr_1_39, wr_10_184, by decide, rfl, (Nat.le_of_ble_eq_true rfl), (Nat.le_of_ble_eq_true rfl)⟩ wr_10_182 wr_10_183 hm394239 he394471 rfl (show 0 + 0 ≤ 0 by first | omega | decide) (show 0 + 0 ≤ 0 by first | omega | decide) (Nat.le_of_ble_eq_true rfl) (fun r394479 w394480 dc394476 ds394477 hp394478 => ?_) (fun _ _ _ _ _ z => z.elim)
                        obtain ⟨o394481, rfl, rfl, hdc, hds, bo394481, ht394482⟩ := hp394478
                        change G _ _ _ _ _ _ _ (.int o394481 :: _) _ _ _
                        refine G_widen (cs' := 0) (sl' := 0) (by omega) (by omega) ?_
                        refine G_if_eq 138 dr_cX17_rename_120 (by decide +kernel) (fun hc394483 => ?_) (fun hc394483 => ?_)
                        · have r394484 : o394481.toInt = 0 := gj_eq hc394483 (show Int32.toInt 0 = 0 by decide)
                          have bo394481' : gB o394481 0 0 := gB_t0 r394484
                          obtain ⟨z394485, hz394485⟩ : ∃ z : Int32, z = g393790 + Int32.ofInt 1 := ⟨_, rfl⟩
                          have ez394485 : z394485.toInt = g393790.toInt + 1 := gI_inc hz394485 (by decide) bg393790'' (by decide) (by decide)
                          have bz394485 : gB z394485 1 1000000 := ⟨by omega, by omega⟩
                          refine G_iinc (L' := [(5, .int z394485), (6, .ref q394228), (4, .ref q392915), (3, .int g392855), (0, .ref q368446), (1, .int p368447), (2, .int p368448)]) z394485 1 dr_cX17_rename_138 rfl hz394485.symm (Nat.le_of_ble_eq_true rfl) rfl ?_
                          refine G_goto 20 dr_cX17_rename_141 (by decide +kernel) ?_
                          refine G_lv (L' := [(5, .int z394485), (4, .ref q392915), (3, .int g392855), (0, .ref q368446), (1, .int p368447), (2, .int p368448)]) [0, 2, 3, 4, 5, 6] rfl ?_
                          exact ih20_393795 F394462 z394485 (gB_w bz394485 (by decide) (by decide)) hT394474 hs394472 (fun N hv hu hp => rPl_put hT393792 htq368446 rfl (x393794 N hv hu hp) n394464 hp394253 nb394256 hL394254 (fun _ _ _ _ z => z) (rNx_ren he394240 he394471 hu hv (Or.inl rfl) (Or.inr rfl) (Or.inl rfl) (by rw [← hp394253]; exact x393794 N hv hu hp _ nb394256 _ hL394254))) fk394473 (mz_up ez394485 (Int.le_trans bg393790''.2 (by decide)) hm20_393795)
                        · have r394486 : o394481.toInt ≠ 0 := gj_neq hc394483 (show Int32.toInt 0 = 0 by decide)
                          have bo394481' : gB o394481 1 1 := gB_t1 bo394481 r394486
                          refine G_aload 0 dr_cX17_rename_123 rfl ?_
                          refine Gp_get 1 hm394239 he394471 dr_cX17_rename_125 (gk_X15 D I) (Nat.le_of_ble_eq_true rfl) wr_9_182 rfl ?_
                          refine G_iload_n 5 dr_cX17_rename_128 rfl ?_
                          refine G_icmp_ne 138 dr_cX17_rename_129 (by decide +kernel) (fun hc394487 => ?_) (fun hc394487 => ?_)
                          · have r394488 : p394242.toInt ≠ p368447.toInt := gC_ne hc394487
                            obtain ⟨z394489, hz394489⟩ : ∃ z : Int32, z = g393790 + Int32.ofInt 1 := ⟨_, rfl⟩
                            have ez394489 : z394489.toInt = g393790.toInt + 1 := gI_inc hz394489 (by decide) bg393790'' (by decide) (by decide)
                            have bz394489 : gB z394489 1 1000000 := ⟨by omega, by omega⟩
                            refine G_iinc (L' := [(5, .int z394489), (6, .ref q394228), (4, .ref q392915), (3, .int g392855), (0, .ref q368446), (1, .int p368447), (2, .int p368448)]) z394489 1 dr_cX17_rename_138 rfl hz394489.symm (Nat.le_of_ble_eq_true rfl) rfl ?_
                            refine G_goto 20 dr_cX17_rename_141 (by decide +kernel) ?_
                            refine G_lv (L' := [(5, .int z394489), (4, .ref q392915), (3, .int g392855), (0, .ref q368446), (1, .int p368447), (2, .int p368448)]) [0, 2, 3, 4, 5, 6] rfl ?_
                            exact ih20_393795 F394462 z394489 (gB_w bz394489 (by decide) (by decide)) hT394474 hs394472 (fun N hv hu hp => rPl_put hT393792 htq368446 rfl (x393794 N hv hu hp) n394464 hp394253 nb394256 hL394254 (fun _ _ _ _ z => z) (rNx_ren he394240 he394471 hu hv (Or.inl rfl) (Or.inr rfl) (Or.inl rfl) (by rw [← hp394253]; exact x393794 N hv hu hp _ nb394256 _ hL394254))) fk394473 (mz_up ez394489 (Int.le_trans bg393790''.2 (by decide)) hm20_393795)
                          · have r394490 : p394242.toInt = p368447.toInt := gC_eq hc394487
                            refine G_aload 0 dr_cX17_rename_132 rfl ?_
                            refine G_iload_n 6 dr_cX17_rename_134 rfl ?_
                            refine Gp_put 1 hm394239 he394471 dr_cX17_rename_135 (gk_X15 D I) (Nat.le_of_ble_eq_true rfl) wr_9_182 rfl rfl rfl (Nat.le_of_ble_eq_true rfl) (fun F394491 e394492 n394493 => ?_)
                            have he394494 : F394491 q368446 = .inr (18, [.ref q392866, .ref q392867, .int p392868, .int p392869]) := (n394493 q368446 (rn_oo he394465 he394471 (by decide))).trans he394465
                            have he394495 : F394491 q392866 = .inr (4, [.int p392896, .ref q392898, .int p392897]) := (n394493 q392866 (rn_oo he394466 he394471 (by decide))).trans he394466
                            have he394496 : F394491 q392898 = .inl (I (.object "java/lang/Object"), n392912, .inr (.inr (.inr (.inr f392913)))) := (n394493 q392898 (rn_ao he394467 he394471)).trans he394467
                            have he394497 : F394491 q392915 = .inr (17, [.ref q392924, .ref q392925, .int p392926, .int p392927]) := (n394493 q392915 (rn_oo he394468 he394471 (by decide))).trans he394468
                            have he394498 : F394491 q392924 = .inr (4, [.int p393805, .ref q393807, .int p393806]) := (n394493 q392924 (rn_oo he394469 he394471 (by decide))).trans he394469
                            have he394499 : F394491 q393807 = .inl (I (.object "java/lang/Object"), n394225, .inr (.inr (.inr (.inr f394226)))) := (n394493 q393807 (rn_ao he394470 he394471)).trans he394470
                            have he394500 : F394491 q394228 = .inr (20, [.int p394241, .int p368448, .int p394243, .int p368448, .int p394245, .int p394246, .int p394247]) := e394492
                            have hs394501 : rStr γ [1] F368445 F394491 := rStr_pu2 hs394472 n394493 ht394231 (by decide)
                            have fk394502 : rFk [1] γ F368445 F394491 := rFk_put fk394473 n394493 ht394231 (by decide)
                            obtain ⟨z394503, hz394503⟩ : ∃ z : Int32, z = g393790 + Int32.ofInt 1 := ⟨_, rfl⟩
                            have ez394503 : z394503.toInt = g393790.toInt + 1 := gI_inc hz394503 (by decide) bg393790'' (by decide) (by decide)
                            have bz394503 : gB z394503 1 1000000 := ⟨by omega, by omega⟩
                            refine G_iinc (L' := [(5, .int z394503), (6, .ref q394228), (4, .ref q392915), (3, .int g392855), (0, .ref q368446), (1, .int p368447), (2, .int p368448)]) z394503 1 dr_cX17_rename_138 rfl hz394503.symm (Nat.le_of_ble_eq_true rfl) rfl ?_
                            refine G_goto 20 dr_cX17_rename_141 (by decide +kernel) ?_
                            have hT394504 : RS D I P368444 F394491 γ el := RS_set hT394474 n394493 ht394231 (by decide) ⟨p394241, p368448, p394243, p368448, p394245, p394246, p394247, he394500, bp394241, bp368448, bp394245, bp394246, bp394247, r394248, r394249, (Or.inr bp368448), r394251, r394252⟩
                            have of394505 : ∀ b, b ≠ q394228 → F394491 b = F393791 b := fun b hb => (n394493 b hb).trans (n394464 b hb)
                            refine G_lv (L' := [(5, .int z394503), (4, .ref q392915), (3, .int g392855), (0, .ref q368446), (1, .int p368447), (2, .int p368448)]) [0, 2, 3, 4, 5, 6] rfl ?_
                            exact ih20_393795 F394491 z394503 (gB_w bz394503 (by decide) (by decide)) hT394504 hs394501 (fun N hv hu hp => rPl_put hT393792 htq368446 rfl (x393794 N hv hu hp) of394505 hp394253 nb394256 hL394254 (fun _ _ _ _ z => z) (rNx_ren he394240 he394500 hu hv (Or.inl rfl) (Or.inr rfl) (Or.inr ⟨rfl, by first | assumption | omega⟩) (by rw [← hp394253]; exact x393794 N hv hu hp _ nb394256 _ hL394254))) fk394502 (mz_up ez394503 (Int.le_trans bg393790''.2 (by decide)) hm20_393795)
                  · have r394506 : p394243.toInt = p368447.toInt := gC_eq hc394386
                    have bp394243' : gB p394243 0 1999 := ⟨by omega, by omega⟩
                    refine G_aload 0 dr_cX17_rename_86 rfl ?_
                    refine G_iload_n 6 dr_cX17_rename_88 rfl ?_
                    refine Gp_put 2 hm394239 he394240 dr_cX17_rename_89 (gk_X15 D I) (Nat.le_of_ble_eq_true rfl) wr_9_186 rfl rfl rfl (Nat.le_of_ble_eq_true rfl) (fun F394507 e394508 n394509 => ?_)
                    have he394510 : F394507 q368446 = .inr (18, [.ref q392866, .ref q392867, .int p392868, .int p392869]) := (n394509 q368446 (rn_oo he393798 he394240 (by decide))).trans he393798
                    have he394511 : F394507 q392866 = .inr (4, [.int p392896, .ref q392898, .int p392897]) := (n394509 q392866 (rn_oo he393799 he394240 (by decide))).trans he393799
                    have he394512 : F394507 q392898 = .inl (I (.object "java/lang/Object"), n392912, .inr (.inr (.inr (.inr f392913)))) := (n394509 q392898 (rn_ao he393800 he394240)).trans he393800
                    have he394513 : F394507 q392915 = .inr (17, [.ref q392924, .ref q392925, .int p392926, .int p392927]) := (n394509 q392915 (rn_oo he393801 he394240 (by decide))).trans he393801
                    have he394514 : F394507 q392924 = .inr (4, [.int p393805, .ref q393807, .int p393806]) := (n394509 q392924 (rn_oo he393804 he394240 (by decide))).trans he393804
                    have he394515 : F394507 q393807 = .inl (I (.object "java/lang/Object"), n394225, .inr (.inr (.inr (.inr f394226)))) := (n394509 q393807 (rn_ao r394219 he394240)).trans r394219
                    have he394516 : F394507 q394228 = .inr (20, [.int p394241, .int p394242, .int p368448, .int p394244, .int p394245, .int p394246, .int p394247]) := e394508
                    have hs394517 : rStr γ [1] F368445 F394507 := rStr_pu2 hs393793 n394509 ht394231 (by decide)
                    have fk394518 : rFk [1] γ F368445 F394507 := rFk_put x393795 n394509 ht394231 (by decide)
                    refine G_aload 0 dr_cX17_rename_92 rfl ?_
                    have hT394519 : RS D I P368444 F394507 γ el := RS_set hT393792 n394509 ht394231 (by decide) ⟨p394241, p394242, p368448, p394244, p394245, p394246, p394247, he394516, bp394241, bp394242, bp394245, bp394246, bp394247, r394248, (Or.inr bp368448), r394250, r394251, r394252⟩
                    refine Gw_callV (As := []) (gV_ok D I) (cp_1699_Row_usesB l hl0 D I P368444 F394507 q394228 p394241 p394242 p368448 p394244 p394245 p394246 p394247 hm394239 he394516 bp394241 bp394242 bp394245 bp394246 bp394247) dr_cX17_rename_94 ⟨wr_10_196, wr_1_39, wr_10_199, by decide, rfl, (Nat.le_of_ble_eq_true rfl), (Nat.le_of_ble_eq_true rfl)⟩ wr_10_197 wr_10_198 hm394239 he394516 rfl (show 0 + 0 ≤ 0 by first | omega | decide) (show 0 + 0 ≤ 0 by first | omega | decide) (Nat.le_of_ble_eq_true rfl) (fun r394524 w394525 dc394521 ds394522 hp394523 => ?_) (fun _ _ _ _ _ z => z.elim)
                    obtain ⟨o394526, rfl, rfl, hdc, hds, bo394526, x394527, ht394528⟩ := hp394523
                    change G _ _ _ _ _ _ _ (.int o394526 :: _) _ _ _
                    refine G_widen (cs' := 0) (sl' := 0) (by omega) (by omega) ?_
                    refine G_if_eq 115 dr_cX17_rename_97 (by decide +kernel) (fun hc394529 => ?_) (fun hc394529 => ?_)
                    · have r394530 : o394526.toInt = 0 := gj_eq hc394529 (show Int32.toInt 0 = 0 by decide)
                      have bo394526' : gB o394526 0 0 := gB_t0 r394530
                      refine G_aload 0 dr_cX17_rename_115 rfl ?_
                      refine Gw_callV (As := []) (gV_ok D I) (cp_1660_Row_sets l hl0 D I P368444 F394507 q394228 p394241 p394242 p368448 p394244 p394245 p394246 p394247 hm394239 he394516 bp394241 bp394242 bp394245 bp394246 bp394247) dr_cX17_rename_117 ⟨wr_10_181, wr_1_39, wr_10_184, by decide, rfl, (Nat.le_of_ble_eq_true rfl), (Nat.le_of_ble_eq_true rfl)⟩ wr_10_182 wr_10_183 hm394239 he394516 rfl (show 0 + 0 ≤ 0 by first | omega | decide) (show 0 + 0 ≤ 0 by first | omega | decide) (Nat.le_of_ble_eq_true rfl) (fun r394534 w394535 dc394531 ds394532 hp394533 => ?_) (fun _ _ _ _ _ z => z.elim)
                      obtain ⟨o394536, rfl, rfl, hdc, hds, bo394536, ht394537⟩ := hp394533
                      change G _ _ _ _ _ _ _ (.int o394536 :: _) _ _ _
                      refine G_widen (cs' := 0) (sl' := 0) (by omega) (by omega) ?_
                      refine G_if_eq 138 dr_cX17_rename_120 (by decide +kernel) (fun hc394538 => ?_) (fun hc394538 => ?_)
                      · have r394539 : o394536.toInt = 0 := gj_eq hc394538 (show Int32.toInt 0 = 0 by decide)
                        have bo394536' : gB o394536 0 0 := gB_t0 r394539
                        obtain ⟨z394540, hz394540⟩ : ∃ z : Int32, z = g393790 + Int32.ofInt 1 := ⟨_, rfl⟩
                        have ez394540 : z394540.toInt = g393790.toInt + 1 := gI_inc hz394540 (by decide) bg393790'' (by decide) (by decide)
                        have bz394540 : gB z394540 1 1000000 := ⟨by omega, by omega⟩
                        refine G_iinc (L' := [(5, .int z394540), (6, .ref q394228), (4, .ref q392915), (3, .int g392855), (0, .ref q368446), (1, .int p368447), (2, .int p368448)]) z394540 1 dr_cX17_rename_138 rfl hz394540.symm (Nat.le_of_ble_eq_true rfl) rfl ?_
                        refine G_goto 20 dr_cX17_rename_141 (by decide +kernel) ?_
                        refine G_lv (L' := [(5, .int z394540), (4, .ref q392915), (3, .int g392855), (0, .ref q368446), (1, .int p368447), (2, .int p368448)]) [0, 2, 3, 4, 5, 6] rfl ?_
                        exact ih20_393795 F394507 z394540 (gB_w bz394540 (by decide) (by decide)) hT394519 hs394517 (fun N hv hu hp => rPl_put hT393792 htq368446 rfl (x393794 N hv hu hp) n394509 hp394253 nb394256 hL394254 (fun _ _ _ _ z => z) (rNx_ren he394240 he394516 hu hv (Or.inr rfl) (Or.inl rfl) (Or.inl rfl) (by rw [← hp394253]; exact x393794 N hv hu hp _ nb394256 _ hL394254))) fk394518 (mz_up ez394540 (Int.le_trans bg393790''.2 (by decide)) hm20_393795)
                      · have r394541 : o394536.toInt ≠ 0 := gj_neq hc394538 (show Int32.toInt 0 = 0 by decide)
                        have bo394536' : gB o394536 1 1 := gB_t1 bo394536 r394541
                        refine G_aload 0 dr_cX17_rename_123 rfl ?_
                        refine Gp_get 1 hm394239 he394516 dr_cX17_rename_125 (gk_X15 D I) (Nat.le_of_ble_eq_true rfl) wr_9_182 rfl ?_
                        refine G_iload_n 5 dr_cX17_rename_128 rfl ?_
                        refine G_icmp_ne 138 dr_cX17_rename_129 (by decide +kernel) (fun hc394542 => ?_) (fun hc394542 => ?_)
                        · have r394543 : p394242.toInt ≠ p368447.toInt := gC_ne hc394542
                          obtain ⟨z394544, hz394544⟩ : ∃ z : Int32, z = g393790 + Int32.ofInt 1 := ⟨_, rfl⟩
                          have ez394544 : z394544.toInt = g393790.toInt + 1 := gI_inc hz394544 (by decide) bg393790'' (by decide) (by decide)
                          have bz394544 : gB z394544 1 1000000 := ⟨by omega, by omega⟩
                          refine G_iinc (L' := [(5, .int z394544), (6, .ref q394228), (4, .ref q392915), (3, .int g392855), (0, .ref q368446), (1, .int p368447), (2, .int p368448)]) z394544 1 dr_cX17_rename_138 rfl hz394544.symm (Nat.le_of_ble_eq_true rfl) rfl ?_
                          refine G_goto 20 dr_cX17_rename_141 (by decide +kernel) ?_
                          refine G_lv (L' := [(5, .int z394544), (4, .ref q392915), (3, .int g392855), (0, .ref q368446), (1, .int p368447), (2, .int p368448)]) [0, 2, 3, 4, 5, 6] rfl ?_
                          exact ih20_393795 F394507 z394544 (gB_w bz394544 (by decide) (by decide)) hT394519 hs394517 (fun N hv hu hp => rPl_put hT393792 htq368446 rfl (x393794 N hv hu hp) n394509 hp394253 nb394256 hL394254 (fun _ _ _ _ z => z) (rNx_ren he394240 he394516 hu hv (Or.inr rfl) (Or.inl rfl) (Or.inl rfl) (by rw [← hp394253]; exact x393794 N hv hu hp _ nb394256 _ hL394254))) fk394518 (mz_up ez394544 (Int.le_trans bg393790''.2 (by decide)) hm20_393795)
                        · have r394545 : p394242.toInt = p368447.toInt := gC_eq hc394542
                          refine G_aload 0 dr_cX17_rename_132 rfl ?_
                          refine G_iload_n 6 dr_cX17_rename_134 rfl ?_
                          refine Gp_put 1 hm394239 he394516 dr_cX17_rename_135 (gk_X15 D I) (Nat.le_of_ble_eq_true rfl) wr_9_182 rfl rfl rfl (Nat.le_of_ble_eq_true rfl) (fun F394546 e394547 n394548 => ?_)
                          have he394549 : F394546 q368446 = .inr (18, [.ref q392866, .ref q392867, .int p392868, .int p392869]) := (n394548 q368446 (rn_oo he394510 he394516 (by decide))).trans he394510
                          have he394550 : F394546 q392866 = .inr (4, [.int p392896, .ref q392898, .int p392897]) := (n394548 q392866 (rn_oo he394511 he394516 (by decide))).trans he394511
                          have he394551 : F394546 q392898 = .inl (I (.object "java/lang/Object"), n392912, .inr (.inr (.inr (.inr f392913)))) := (n394548 q392898 (rn_ao he394512 he394516)).trans he394512
                          have he394552 : F394546 q392915 = .inr (17, [.ref q392924, .ref q392925, .int p392926, .int p392927]) := (n394548 q392915 (rn_oo he394513 he394516 (by decide))).trans he394513
                          have he394553 : F394546 q392924 = .inr (4, [.int p393805, .ref q393807, .int p393806]) := (n394548 q392924 (rn_oo he394514 he394516 (by decide))).trans he394514
                          have he394554 : F394546 q393807 = .inl (I (.object "java/lang/Object"), n394225, .inr (.inr (.inr (.inr f394226)))) := (n394548 q393807 (rn_ao he394515 he394516)).trans he394515
                          have he394555 : F394546 q394228 = .inr (20, [.int p394241, .int p368448, .int p368448, .int p394244, .int p394245, .int p394246, .int p394247]) := e394547
                          have hs394556 : rStr γ [1] F368445 F394546 := rStr_pu2 hs394517 n394548 ht394231 (by decide)
                          have fk394557 : rFk [1] γ F368445 F394546 := rFk_put fk394518 n394548 ht394231 (by decide)
                          obtain ⟨z394558, hz394558⟩ : ∃ z : Int32, z = g393790 + Int32.ofInt 1 := ⟨_, rfl⟩
                          have ez394558 : z394558.toInt = g393790.toInt + 1 := gI_inc hz394558 (by decide) bg393790'' (by decide) (by decide)
                          have bz394558 : gB z394558 1 1000000 := ⟨by omega, by omega⟩
                          refine G_iinc (L' := [(5, .int z394558), (6, .ref q394228), (4, .ref q392915), (3, .int g392855), (0, .ref q368446), (1, .int p368447), (2, .int p368448)]) z394558 1 dr_cX17_rename_138 rfl hz394558.symm (Nat.le_of_ble_eq_true rfl) rfl ?_
                          refine G_goto 20 dr_cX17_rename_141 (by decide +kernel) ?_
                          have hT394559 : RS D I P368444 F394546 γ el := RS_set hT394519 n394548 ht394231 (by decide) ⟨p394241, p368448, p368448, p394244, p394245, p394246, p394247, he394555, bp394241, bp368448, bp394245, bp394246, bp394247, r394248, (Or.inr bp368448), r394250, r394251, r394252⟩
                          have of394560 : ∀ b, b ≠ q394228 → F394546 b = F393791 b := fun b hb => (n394548 b hb).trans (n394509 b hb)
                          refine G_lv (L' := [(5, .int z394558), (4, .ref q392915), (3, .int g392855), (0, .ref q368446), (1, .int p368447), (2, .int p368448)]) [0, 2, 3, 4, 5, 6] rfl ?_
                          exact ih20_393795 F394546 z394558 (gB_w bz394558 (by decide) (by decide)) hT394559 hs394556 (fun N hv hu hp => rPl_put hT393792 htq368446 rfl (x393794 N hv hu hp) of394560 hp394253 nb394256 hL394254 (fun _ _ _ _ z => z) (rNx_ren he394240 he394555 hu hv (Or.inr rfl) (Or.inl rfl) (Or.inr ⟨rfl, by first | assumption | omega⟩) (by rw [← hp394253]; exact x393794 N hv hu hp _ nb394256 _ hL394254))) fk394557 (mz_up ez394558 (Int.le_trans bg393790''.2 (by decide)) hm20_393795)
                    · have r394561 : o394526.toInt ≠ 0 := gj_neq hc394529 (show Int32.toInt 0 = 0 by decide)
                      have bo394526' : gB o394526 1 1 := gB_t1 bo394526 r394561
                      refine G_aload 0 dr_cX17_rename_100 rfl ?_
                      refine Gp_get 3 hm394239 he394516 dr_cX17_rename_102 (gk_X15 D I) (Nat.le_of_ble_eq_true rfl) wr_9_190 rfl ?_
                      refine G_iload_n 5 dr_cX17_rename_105 rfl ?_
                      refine G_icmp_ne 115 dr_cX17_rename_106 (by decide +kernel) (fun hc394562 => ?_) (fun hc394562 => ?_)
                      · have r394563 : p394244.toInt ≠ p368447.toInt := gC_ne hc394562
                        refine G_aload 0 dr_cX17_rename_115 rfl ?_
                        refine Gw_callV (As := []) (gV_ok D I) (cp_1660_Row_sets l hl0 D I P368444 F394507 q394228 p394241 p394242 p368448 p394244 p394245 p394246 p394247 hm394239 he394516 bp394241 bp394242 bp394245 bp394246 bp394247) dr_cX17_rename_117 ⟨wr_10_181, wr_1_39, wr_10_184, by decide, rfl, (Nat.le_of_ble_eq_true rfl), (Nat.le_of_ble_eq_true rfl)⟩ wr_10_182 wr_10_183 hm394239 he394516 rfl (show 0 + 0 ≤ 0 by first | omega | decide) (show 0 + 0 ≤ 0 by first | omega | decide) (Nat.le_of_ble_eq_true rfl) (fun r394567 w394568 dc394564 ds394565 hp394566 => ?_) (fun _ _ _ _ _ z => z.elim)
                        obtain ⟨o394569, rfl, rfl, hdc, hds, bo394569, ht394570⟩ := hp394566
                        change G _ _ _ _ _ _ _ (.int o394569 :: _) _ _ _
                        refine G_widen (cs' := 0) (sl' := 0) (by omega) (by omega) ?_
                        refine G_if_eq 138 dr_cX17_rename_120 (by decide +kernel) (fun hc394571 => ?_) (fun hc394571 => ?_)
                        · have r394572 : o394569.toInt = 0 := gj_eq hc394571 (show Int32.toInt 0 = 0 by decide)
                          have bo394569' : gB o394569 0 0 := gB_t0 r394572
                          obtain ⟨z394573, hz394573⟩ : ∃ z : Int32, z = g393790 + Int32.ofInt 1 := ⟨_, rfl⟩
                          have ez394573 : z394573.toInt = g393790.toInt + 1 := gI_inc hz394573 (by decide) bg393790'' (by decide) (by decide)
                          have bz394573 : gB z394573 1 1000000 := ⟨by omega, by omega⟩
                          refine G_iinc (L' := [(5, .int z394573), (6, .ref q394228), (4, .ref q392915), (3, .int g392855), (0, .ref q368446), (1, .int p368447), (2, .int p368448)]) z394573 1 dr_cX17_rename_138 rfl hz394573.symm (Nat.le_of_ble_eq_true rfl) rfl ?_
                          refine G_goto 20 dr_cX17_rename_141 (by decide +kernel) ?_
                          refine G_lv (L' := [(5, .int z394573), (4, .ref q392915), (3, .int g392855), (0, .ref q368446), (1, .int p368447), (2, .int p368448)]) [0, 2, 3, 4, 5, 6] rfl ?_
                          exact ih20_393795 F394507 z394573 (gB_w bz394573 (by decide) (by decide)) hT394519 hs394517 (fun N hv hu hp => rPl_put hT393792 htq368446 rfl (x393794 N hv hu hp) n394509 hp394253 nb394256 hL394254 (fun _ _ _ _ z => z) (rNx_ren he394240 he394516 hu hv (Or.inr rfl) (Or.inl rfl) (Or.inl rfl) (by rw [← hp394253]; exact x393794 N hv hu hp _ nb394256 _ hL394254))) fk394518 (mz_up ez394573 (Int.le_trans bg393790''.2 (by decide)) hm20_393795)
                        · have r394574 : o394569.toInt ≠ 0 := gj_neq hc394571 (show Int32.toInt 0 = 0 by decide)
                          have bo394569' : gB o394569 1 1 := gB_t1 bo394569 r394574
                          refine G_aload 0 dr_cX17_rename_123 rfl ?_
                          refine Gp_get 1 hm394239 he394516 dr_cX17_rename_125 (gk_X15 D I) (Nat.le_of_ble_eq_true rfl) wr_9_182 rfl ?_
                          refine G_iload_n 5 dr_cX17_rename_128 rfl ?_
                          refine G_icmp_ne 138 dr_cX17_rename_129 (by decide +kernel) (fun hc394575 => ?_) (fun hc394575 => ?_)
                          · have r394576 : p394242.toInt ≠ p368447.toInt := gC_ne hc394575
                            obtain ⟨z394577, hz394577⟩ : ∃ z : Int32, z = g393790 + Int32.ofInt 1 := ⟨_, rfl⟩
                            have ez394577 : z394577.toInt = g393790.toInt + 1 := gI_inc hz394577 (by decide) bg393790'' (by decide) (by decide)
                            have bz394577 : gB z394577 1 1000000 := ⟨by omega, by omega⟩
                            refine G_iinc (L' := [(5, .int z394577), (6, .ref q394228), (4, .ref q392915), (3, .int g392855), (0, .ref q368446), (1, .int p368447), (2, .int p368448)]) z394577 1 dr_cX17_rename_138 rfl hz394577.symm (Nat.le_of_ble_eq_true rfl) rfl ?_
                            refine G_goto 20 dr_cX17_rename_141 (by decide +kernel) ?_
                            refine G_lv (L' := [(5, .int z394577), (4, .ref q392915), (3, .int g392855), (0, .ref q368446), (1, .int p368447), (2, .int p368448)]) [0, 2, 3, 4, 5, 6] rfl ?_
                            exact ih20_393795 F394507 z394577 (gB_w bz394577 (by decide) (by decide)) hT394519 hs394517 (fun N hv hu hp => rPl_put hT393792 htq368446 rfl (x393794 N hv hu hp) n394509 hp394253 nb394256 hL394254 (fun _ _ _ _ z => z) (rNx_ren he394240 he394516 hu hv (Or.inr rfl) (Or.inl rfl) (Or.inl rfl) (by rw [← hp394253]; exact x393794 N hv hu hp _ nb394256 _ hL394254))) fk394518 (mz_up ez394577 (Int.le_trans bg393790''.2 (by decide)) hm20_393795)
                          · have r394578 : p394242.toInt = p368447.toInt := gC_eq hc394575
                            refine G_aload 0 dr_cX17_rename_132 rfl ?_
                            refine G_iload_n 6 dr_cX17_rename_134 rfl ?_
                            refine Gp_put 1 hm394239 he394516 dr_cX17_rename_135 (gk_X15 D I) (Nat.le_of_ble_eq_true rfl) wr_9_182 rfl rfl rfl (Nat.le_of_ble_eq_true rfl) (fun F394579 e394580 n394581 => ?_)
                            have he394582 : F394579 q368446 = .inr (18, [.ref q392866, .ref q392867, .int p392868, .int p392869]) := (n394581 q368446 (rn_oo he394510 he394516 (by decide))).trans he394510
                            have he394583 : F394579 q392866 = .inr (4, [.int p392896, .ref q392898, .int p392897]) := (n394581 q392866 (rn_oo he394511 he394516 (by decide))).trans he394511
                            have he394584 : F394579 q392898 = .inl (I (.object "java/lang/Object"), n392912, .inr (.inr (.inr (.inr f392913)))) := (n394581 q392898 (rn_ao he394512 he394516)).trans he394512
                            have he394585 : F394579 q392915 = .inr (17, [.ref q392924, .ref q392925, .int p392926, .int p392927]) := (n394581 q392915 (rn_oo he394513 he394516 (by decide))).trans he394513
                            have he394586 : F394579 q392924 = .inr (4, [.int p393805, .ref q393807, .int p393806]) := (n394581 q392924 (rn_oo he394514 he394516 (by decide))).trans he394514
                            have he394587 : F394579 q393807 = .inl (I (.object "java/lang/Object"), n394225, .inr (.inr (.inr (.inr f394226)))) := (n394581 q393807 (rn_ao he394515 he394516)).trans he394515
                            have he394588 : F394579 q394228 = .inr (20, [.int p394241, .int p368448, .int p368448, .int p394244, .int p394245, .int p394246, .int p394247]) := e394580
                            have hs394589 : rStr γ [1] F368445 F394579 := rStr_pu2 hs394517 n394581 ht394231 (by decide)
                            have fk394590 : rFk [1] γ F368445 F394579 := rFk_put fk394518 n394581 ht394231 (by decide)
                            obtain ⟨z394591, hz394591⟩ : ∃ z : Int32, z = g393790 + Int32.ofInt 1 := ⟨_, rfl⟩
                            have ez394591 : z394591.toInt = g393790.toInt + 1 := gI_inc hz394591 (by decide) bg393790'' (by decide) (by decide)
                            have bz394591 : gB z394591 1 1000000 := ⟨by omega, by omega⟩
                            refine G_iinc (L' := [(5, .int z394591), (6, .ref q394228), (4, .ref q392915), (3, .int g392855), (0, .ref q368446), (1, .int p368447), (2, .int p368448)]) z394591 1 dr_cX17_rename_138 rfl hz394591.symm (Nat.le_of_ble_eq_true rfl) rfl ?_
                            refine G_goto 20 dr_cX17_rename_141 (by decide +kernel) ?_
                            have hT394592 : RS D I P368444 F394579 γ el := RS_set hT394519 n394581 ht394231 (by decide) ⟨p394241, p368448, p368448, p394244, p394245, p394246, p394247, he394588, bp394241, bp368448, bp394245, bp394246, bp394247, r394248, (Or.inr bp368448), r394250, r394251, r394252⟩
                            have of394593 : ∀ b, b ≠ q394228 → F394579 b = F393791 b := fun b hb => (n394581 b hb).trans (n394509 b hb)
                            refine G_lv (L' := [(5, .int z394591), (4, .ref q392915), (3, .int g392855), (0, .ref q368446), (1, .int p368447), (2, .int p368448)]) [0, 2, 3, 4, 5, 6] rfl ?_
                            exact ih20_393795 F394579 z394591 (gB_w bz394591 (by decide) (by decide)) hT394592 hs394589 (fun N hv hu hp => rPl_put hT393792 htq368446 rfl (x393794 N hv hu hp) of394593 hp394253 nb394256 hL394254 (fun _ _ _ _ z => z) (rNx_ren he394240 he394588 hu hv (Or.inr rfl) (Or.inl rfl) (Or.inr ⟨rfl, by first | assumption | omega⟩) (by rw [← hp394253]; exact x393794 N hv hu hp _ nb394256 _ hL394254))) fk394590 (mz_up ez394591 (Int.le_trans bg393790''.2 (by decide)) hm20_393795)
                      · have r394594 : p394244.toInt = p368447.toInt := gC_eq hc394562
                        have bp394244' : gB p394244 0 1999 := ⟨by omega, by omega⟩
                        refine G_aload 0 dr_cX17_rename_109 rfl ?_
                        refine G_iload_n 6 dr_cX17_rename_111 rfl ?_
                        refine Gp_put 3 hm394239 he394516 dr_cX17_rename_112 (gk_X15 D I) (Nat.le_of_ble_eq_true rfl) wr_9_190 rfl rfl rfl (Nat.le_of_ble_eq_true rfl) (fun F394595 e394596 n394597 => ?_)
                        have he394598 : F394595 q368446 = .inr (18, [.ref q392866, .ref q392867, .int p392868, .int p392869]) := (n394597 q368446 (rn_oo he394510 he394516 (by decide))).trans he394510
                        have he394599 : F394595 q392866 = .inr (4, [.int p392896, .ref q392898, .int p392897]) := (n394597 q392866 (rn_oo he394511 he394516 (by decide))).trans he394511
                        have he394600 : F394595 q392898 = .inl (I (.object "java/lang/Object"), n392912, .inr (.inr (.inr (.inr f392913)))) := (n394597 q392898 (rn_ao he394512 he394516)).trans he394512
                        have he394601 : F394595 q392915 = .inr (17, [.ref q392924, .ref q392925, .int p392926, .int p392927]) := (n394597 q392915 (rn_oo he394513 he394516 (by decide))).trans he394513
                        have he394602 : F394595 q392924 = .inr (4, [.int p393805, .ref q393807, .int p393806]) := (n394597 q392924 (rn_oo he394514 he394516 (by decide))).trans he394514
                        have he394603 : F394595 q393807 = .inl (I (.object "java/lang/Object"), n394225, .inr (.inr (.inr (.inr f394226)))) := (n394597 q393807 (rn_ao he394515 he394516)).trans he394515
                        have he394604 : F394595 q394228 = .inr (20, [.int p394241, .int p394242, .int p368448, .int p368448, .int p394245, .int p394246, .int p394247]) := e394596
                        have hs394605 : rStr γ [1] F368445 F394595 := rStr_pu2 hs394517 n394597 ht394231 (by decide)
                        have fk394606 : rFk [1] γ F368445 F394595 := rFk_put fk394518 n394597 ht394231 (by decide)
                        refine G_aload 0 dr_cX17_rename_115 rfl ?_
                        have hT394607 : RS D I P368444 F394595 γ el := RS_set hT394519 n394597 ht394231 (by decide) ⟨p394241, p394242, p368448, p368448, p394245, p394246, p394247, he394604, bp394241, bp394242, bp394245, bp394246, bp394247, r394248, (Or.inr bp368448), (Or.inr bp368448), r394251, r394252⟩
                        have of394608 : ∀ b, b ≠ q394228 → F394595 b = F393791 b := fun b hb => (n394597 b hb).trans (n394509 b hb)
                        refine Gw_callV (As := []) (gV_ok D I) (cp_1660_Row_sets l hl0 D I P368444 F394595 q394228 p394241 p394242 p368448 p368448 p394245 p394246 p394247 hm394239 he394604 bp394241 bp394242 bp394245 bp394246 bp394247) dr_cX17_rename_117 ⟨wr_10_181, wr_1_39, wr_10_184, by decide, rfl, (Nat.le_of_ble_eq_true rfl), (Nat.le_of_ble_eq_true rfl)⟩ wr_10_182 wr_10_183 hm394239 he394604 rfl (show 0 + 0 ≤ 0 by first | omega | decide) (show 0 + 0 ≤ 0 by first | omega | decide) (Nat.le_of_ble_eq_true rfl) (fun r394612 w394613 dc394609 ds394610 hp394611 => ?_) (fun _ _ _ _ _ z => z.elim)
                        obtain ⟨o394614, rfl, rfl, hdc, hds, bo394614, ht394615⟩ := hp394611
                        change G _ _ _ _ _ _ _ (.int o394614 :: _) _ _ _
                        refine G_widen (cs' := 0) (sl' := 0) (by omega) (by omega) ?_
                        refine G_if_eq 138 dr_cX17_rename_120 (by decide +kernel) (fun hc394616 => ?_) (fun hc394616 => ?_)
                        · have r394617 : o394614.toInt = 0 := gj_eq hc394616 (show Int32.toInt 0 = 0 by decide)
                          have bo394614' : gB o394614 0 0 := gB_t0 r394617
                          obtain ⟨z394618, hz394618⟩ : ∃ z : Int32, z = g393790 + Int32.ofInt 1 := ⟨_, rfl⟩
                          have ez394618 : z394618.toInt = g393790.toInt + 1 := gI_inc hz394618 (by decide) bg393790'' (by decide) (by decide)
                          have bz394618 : gB z394618 1 1000000 := ⟨by omega, by omega⟩
                          refine G_iinc (L' := [(5, .int z394618), (6, .ref q394228), (4, .ref q392915), (3, .int g392855), (0, .ref q368446), (1, .int p368447), (2, .int p368448)]) z394618 1 dr_cX17_rename_138 rfl hz394618.symm (Nat.le_of_ble_eq_true rfl) rfl ?_
                          refine G_goto 20 dr_cX17_rename_141 (by decide +kernel) ?_
                          refine G_lv (L' := [(5, .int z394618), (4, .ref q392915), (3, .int g392855), (0, .ref q368446), (1, .int p368447), (2, .int p368448)]) [0, 2, 3, 4, 5, 6] rfl ?_
                          exact ih20_393795 F394595 z394618 (gB_w bz394618 (by decide) (by decide)) hT394607 hs394605 (fun N hv hu hp => rPl_put hT393792 htq368446 rfl (x393794 N hv hu hp) of394608 hp394253 nb394256 hL394254 (fun _ _ _ _ z => z) (rNx_ren he394240 he394604 hu hv (Or.inr rfl) (Or.inr rfl) (Or.inl rfl) (by rw [← hp394253]; exact x393794 N hv hu hp _ nb394256 _ hL394254))) fk394606 (mz_up ez394618 (Int.le_trans bg393790''.2 (by decide)) hm20_393795)
                        · have r394619 : o394614.toInt ≠ 0 := gj_neq hc394616 (show Int32.toInt 0 = 0 by decide)
                          have bo394614' : gB o394614 1 1 := gB_t1 bo394614 r394619
                          refine G_aload 0 dr_cX17_rename_123 rfl ?_
                          refine Gp_get 1 hm394239 he394604 dr_cX17_rename_125 (gk_X15 D I) (Nat.le_of_ble_eq_true rfl) wr_9_182 rfl ?_
                          refine G_iload_n 5 dr_cX17_rename_128 rfl ?_
                          refine G_icmp_ne 138 dr_cX17_rename_129 (by decide +kernel) (fun hc394620 => ?_) (fun hc394620 => ?_)
                          · have r394621 : p394242.toInt ≠ p368447.toInt := gC_ne hc394620
                            obtain ⟨z394622, hz394622⟩ : ∃ z : Int32, z = g393790 + Int32.ofInt 1 := ⟨_, rfl⟩
                            have ez394622 : z394622.toInt = g393790.toInt + 1 := gI_inc hz394622 (by decide) bg393790'' (by decide) (by decide)
                            have bz394622 : gB z394622 1 1000000 := ⟨by omega, by omega⟩
                            refine G_iinc (L' := [(5, .int z394622), (6, .ref q394228), (4, .ref q392915), (3, .int g392855), (0, .ref q368446), (1, .int p368447), (2, .int p368448)]) z394622 1 dr_cX17_rename_138 rfl hz394622.symm (Nat.le_of_ble_eq_true rfl) rfl ?_
                            refine G_goto 20 dr_cX17_rename_141 (by decide +kernel) ?_
                            refine G_lv (L' := [(5, .int z394622), (4, .ref q392915), (3, .int g392855), (0, .ref q368446), (1, .int p368447), (2, .int p368448)]) [0, 2, 3, 4, 5, 6] rfl ?_
                            exact ih20_393795 F394595 z394622 (gB_w bz394622 (by decide) (by decide)) hT394607 hs394605 (fun N hv hu hp => rPl_put hT393792 htq368446 rfl (x393794 N hv hu hp) of394608 hp394253 nb394256 hL394254 (fun _ _ _ _ z => z) (rNx_ren he394240 he394604 hu hv (Or.inr rfl) (Or.inr rfl) (Or.inl rfl) (by rw [← hp394253]; exact x393794 N hv hu hp _ nb394256 _ hL394254))) fk394606 (mz_up ez394622 (Int.le_trans bg393790''.2 (by decide)) hm20_393795)
                          · have r394623 : p394242.toInt = p368447.toInt := gC_eq hc394620
                            refine G_aload 0 dr_cX17_rename_132 rfl ?_
                            refine G_iload_n 6 dr_cX17_rename_134 rfl ?_
                            refine Gp_put 1 hm394239 he394604 dr_cX17_rename_135 (gk_X15 D I) (Nat.le_of_ble_eq_true rfl) wr_9_182 rfl rfl rfl (Nat.le_of_ble_eq_true rfl) (fun F394624 e394625 n394626 => ?_)
                            have he394627 : F394624 q368446 = .inr (18, [.ref q392866, .ref q392867, .int p392868, .int p392869]) := (n394626 q368446 (rn_oo he394598 he394604 (by decide))).trans he394598
                            have he394628 : F394624 q392866 = .inr (4, [.int p392896, .ref q392898, .int p392897]) := (n394626 q392866 (rn_oo he394599 he394604 (by decide))).trans he394599
                            have he394629 : F394624 q392898 = .inl (I (.object "java/lang/Object"), n392912, .inr (.inr (.inr (.inr f392913)))) := (n394626 q392898 (rn_ao he394600 he394604)).trans he394600
                            have he394630 : F394624 q392915 = .inr (17, [.ref q392924, .ref q392925, .int p392926, .int p392927]) := (n394626 q392915 (rn_oo he394601 he394604 (by decide))).trans he394601
                            have he394631 : F394624 q392924 = .inr (4, [.int p393805, .ref q393807, .int p393806]) := (n394626 q392924 (rn_oo he394602 he394604 (by decide))).trans he394602
                            have he394632 : F394624 q393807 = .inl (I (.object "java/lang/Object"), n394225, .inr (.inr (.inr (.inr f394226)))) := (n394626 q393807 (rn_ao he394603 he394604)).trans he394603
                            have he394633 : F394624 q394228 = .inr (20, [.int p394241, .int p368448, .int p368448, .int p368448, .int p394245, .int p394246, .int p394247]) := e394625
                            have hs394634 : rStr γ [1] F368445 F394624 := rStr_pu2 hs394605 n394626 ht394231 (by decide)
                            have fk394635 : rFk [1] γ F368445 F394624 := rFk_put fk394606 n394626 ht394231 (by decide)
                            obtain ⟨z394636, hz394636⟩ : ∃ z : Int32, z = g393790 + Int32.ofInt 1 := ⟨_, rfl⟩
                            have ez394636 : z394636.toInt = g393790.toInt + 1 := gI_inc hz394636 (by decide) bg393790'' (by decide) (by decide)
                            have bz394636 : gB z394636 1 1000000 := ⟨by omega, by omega⟩
                            refine G_iinc (L' := [(5, .int z394636), (6, .ref q394228), (4, .ref q392915), (3, .int g392855), (0, .ref q368446), (1, .int p368447), (2, .int p368448)]) z394636 1 dr_cX17_rename_138 rfl hz394636.symm (Nat.le_of_ble_eq_true rfl) rfl ?_
                            refine G_goto 20 dr_cX17_rename_141 (by decide +kernel) ?_
                            have hT394637 : RS D I P368444 F394624 γ el := RS_set hT394607 n394626 ht394231 (by decide) ⟨p394241, p368448, p368448, p368448, p394245, p394246, p394247, he394633, bp394241, bp368448, bp394245, bp394246, bp394247, r394248, (Or.inr bp368448), (Or.inr bp368448), r394251, r394252⟩
                            have of394638 : ∀ b, b ≠ q394228 → F394624 b = F393791 b := fun b hb => (n394626 b hb).trans (of394608 b hb)
                            refine G_lv (L' := [(5, .int z394636), (4, .ref q392915), (3, .int g392855), (0, .ref q368446), (1, .int p368447), (2, .int p368448)]) [0, 2, 3, 4, 5, 6] rfl ?_
                            exact ih20_393795 F394624 z394636 (gB_w bz394636 (by decide) (by decide)) hT394637 hs394634 (fun N hv hu hp => rPl_put hT393792 htq368446 rfl (x393794 N hv hu hp) of394638 hp394253 nb394256 hL394254 (fun _ _ _ _ z => z) (rNx_ren he394240 he394633 hu hv (Or.inr rfl) (Or.inr rfl) (Or.inr ⟨rfl, by first | assumption | omega⟩) (by rw [← hp394253]; exact x393794 N hv hu hp _ nb394256 _ hL394254))) fk394635 (mz_up ez394636 (Int.le_trans bg393790''.2 (by decide)) hm20_393795)
        exact hlp20_393795 (((1000002 : Int) - 0).toNat + 1) F392856 0 (gB_w (gBl (show Int32.toInt 0 = 0 by decide)) (by decide) (by decide)) hT392857 hs392858 x392859 x392860 (Nat.lt_succ_self _)
  exact hlp2_392860 (((1000001 : Int) - 0).toNat + 1) F368445 0 (gB_w (gBl (show Int32.toInt 0 = 0 by decide)) (by decide) (by decide)) hT (rStr_rf (γ := γ) (W := [1]) (F := F368445)) (fun N _ _ h => h) (rFk_rf) (Nat.lt_succ_self _)
