abbrev ky_281295_SpillForgeModel_behind : gKey := (cX17_behind, 4, "SpillForgeModel", none, [], "behind", fun _ _ => True)
def pt_281295_SpillForgeModel_behind (D : va_G) (I : FieldType → ClassId) (γ el : Nat → Nat → Nat) (P281291 : List Nat) (F281292 : Nat → va_E) (q281293 : Nat) (q281294 : Nat) : Option Value → va_W → Nat → Nat → Prop := fun r w dc ds => ∃ (F284019 : Nat → va_E), r = none ∧ w = va_pl P281291 F284019 ∧ RS D I P281291 F284019 γ el ∧ rStr γ [] F281292 F284019 ∧ dc ≤ 0 ∧ ds ≤ 0 ∧ (F284019 q281293 = F281292 q281293) ∧ (F284019 (γ 9 3) = F281292 (γ 9 3)) ∧ tr_RModel_behind3 D I γ el P281291 F281292 q281293 q281294 F284019
set_option maxRecDepth 100000 in
set_option maxHeartbeats 4000000 in
theorem ct_281295_SpillForgeModel_behind (l : Launch) (hl0 : l.stackTraces = false) (D : va_G) (I : FieldType → ClassId) (γ el : Nat → Nat → Nat) (P281291 : List Nat) (F281292 : Nat → va_E) (q281293 : Nat) (q281294 : Nat) (hT : RS D I P281291 F281292 γ el) (htq281293 : rKd γ q281293 10) (htq281294 : rKd γ q281294 2) : CtA (gV D I) l yX17_behind cX17_behind 4 none 1 21 0 0 [.ref q281293, .ref q281294] (va_pl P281291 F281292) (pt_281295_SpillForgeModel_behind D I γ el P281291 F281292 q281293 q281294) gNA := by
  refine CtA_of hl0 (by decide) (Nat.le_of_ble_eq_true rfl) ?_
  refine G_iconst 0 dr_cX17_behind_0 (by decide +kernel) ?_
  refine G_istore_n (L' := [(2, .int 0), (0, .ref q281293), (1, .ref q281294)]) dr_cX17_behind_1 (Nat.le_of_ble_eq_true rfl) rfl ?_
  have hlp2_283451 : ∀ (n2_283451 : Nat) (F283447 : Nat → va_E) (g283446 : Int32), gB g283446 0 32 → RS D I P281291 F283447 γ el → rStr γ [] F281292 F283447 → (F283447 q281293 = F281292 q281293) → (F283447 (γ 9 3) = F281292 (γ 9 3)) → (∀ (k : Nat) (e1 : Nat → va_E), tl_RModel_behind3_2 D I γ el P281291 F281292 q281293 F283447 g283446 k e1 → tl_RModel_behind3_2 D I γ el P281291 F281292 q281293 F281292 (0 : Int32) k e1) → ((33 : Int) - g283446.toInt).toNat < n2_283451 → G (gV D I) l (gRm 1 21 0 0) (gMA (gV D I) (pt_281295_SpillForgeModel_behind D I γ el P281291 F281292 q281293 q281294) gNA 0 0) ky_281295_SpillForgeModel_behind 2 [(2, .int g283446), (0, .ref q281293), (1, .ref q281294)] [] (va_pl P281291 F283447) 0 0 := by
    intro n2_283451
    induction n2_283451 with
    | zero => intro F283447 g283446 bg283446 hT283448 hs283449 x283450 x283451 kt2_283452 hm2_283451; exact absurd hm2_283451 (Nat.not_lt_zero _)
    | succ n2_283451 ih2_283451 =>
      intro F283447 g283446 bg283446 hT283448 hs283449 x283450 x283451 kt2_283452 hm2_283451
      have hs283453 : rStr γ [] F281292 F283447 := fun b h0 hb hw => (hs283449 b h0 hb hw).trans ((rStr_rf (γ := γ) (W := []) (F := F281292)) b h0 hb hw).symm
      have hs283454 : rStr γ [] F281292 F283447 := rStr_tr (rStr_rf (γ := γ) (W := []) (F := F281292)) hs283453
      refine G_iload_n 0 dr_cX17_behind_2 rfl ?_
      refine G_bipush 32 dr_cX17_behind_3 (by decide +kernel) ?_
      refine G_icmp_ge 21 dr_cX17_behind_5 (by decide +kernel) (fun hc283455 => ?_) (fun hc283455 => ?_)
      · have r283456 : 32 ≤ g283446.toInt := gj_leL hc283455 (show Int32.toInt 32 = 32 by decide)
        have bg283446' : gB g283446 32 32 := ⟨by omega, by omega⟩
        have hx283457 : tl_RModel_behind3_2 D I γ el P281291 F281292 q281293 F281292 (0 : Int32) 21 F283447 := kt2_283452 21 F283447 (fun R c1 c2 => c1 F283447 g283446 bg283446 hT283448 hs283449 x283450 x283451 r283456)
        refine G_iconst 0 dr_cX17_behind_21 (by decide +kernel) ?_
        refine G_istore_n (L' := [(2, .int 0), (0, .ref q281293), (1, .ref q281294)]) dr_cX17_behind_22 (Nat.le_of_ble_eq_true rfl) rfl ?_
        have hlp23_283705 : ∀ (n23_283705 : Nat) (F283701 : Nat → va_E) (g283700 : Int32), gB g283700 0 2 → RS D I P281291 F283701 γ el → rStr γ [] F281292 F283701 → (F283701 q281293 = F281292 q281293) → (F283701 (γ 9 3) = F281292 (γ 9 3)) → (∀ (k : Nat) (e1 : Nat → va_E), tl_RModel_behind3_23 D I γ el P281291 F281292 q281293 q281294 F283701 g283700 k e1 → tl_RModel_behind3_23 D I γ el P281291 F281292 q281293 q281294 F283447 (0 : Int32) k e1) → ((3 : Int) - g283700.toInt).toNat < n23_283705 → G (gV D I) l (gRm 1 21 0 0) (gMA (gV D I) (pt_281295_SpillForgeModel_behind D I γ el P281291 F281292 q281293 q281294) gNA 0 0) ky_281295_SpillForgeModel_behind 23 [(2, .int g283700), (0, .ref q281293), (1, .ref q281294)] [] (va_pl P281291 F283701) 0 0 := by
          intro n23_283705
          induction n23_283705 with
          | zero => intro F283701 g283700 bg283700 hT283702 hs283703 x283704 x283705 kt23_283706 hm23_283705; exact absurd hm23_283705 (Nat.not_lt_zero _)
          | succ n23_283705 ih23_283705 =>
            intro F283701 g283700 bg283700 hT283702 hs283703 x283704 x283705 kt23_283706 hm23_283705
            have hs283707 : rStr γ [] F283447 F283701 := fun b h0 hb hw => (hs283703 b h0 hb hw).trans (hs283449 b h0 hb hw).symm
            have hs283708 : rStr γ [] F281292 F283701 := rStr_tr hs283449 hs283707
            refine G_iload_n 0 dr_cX17_behind_23 rfl ?_
            refine G_aload_n 2 dr_cX17_behind_24 rfl ?_
            have hm283709 : q281294 ∈ P281291 := RS_m hT283702 htq281294 (by decide)
            obtain ⟨q283711, q283712, p283713, p283714, he283710, ht283721, ht283715, ht283716, ht283717, ht283718, ht283719, bp283713, bp283714, r283720, r283722, r283723⟩ := show rk_2 γ q281294 (F283701 q281294) from RS_o hT283702 htq281294
            have hm283724 : q283712 ∈ P281291 := RS_m hT283702 ht283717 (by decide)
            obtain ⟨p283726, p283727, p283728, p283729, p283730, p283731, p283732, he283725, bp283726, bp283727, bp283730, bp283731, bp283732, r283733, r283734, r283735, r283736, r283737⟩ := show rk_1 γ q283712 (F283701 q283712) from RS_o hT283702 ht283717
            have bp283728 := gB_any p283728
            have bp283729 := gB_any p283729
            have fq283738 : fI (F283701 q281294) 2 = p283713 := by rw [he283710]; rfl
            have fq283739 : fI (F283701 q281294) 3 = p283714 := by rw [he283710]; rfl
            have fq283740 : fR (F283701 q281294) 1 = q283712 := by rw [he283710]; rfl
            have fq283741 : fI (F283701 q283712) 0 = p283726 := by rw [he283725]; rfl
            refine Gw_callV (As := []) (gV_ok D I) (cp_1816_Block_ways l hl0 D I P281291 F283701 q281294 q283712 q283711 p283713 p283714 p283726 p283727 p283728 p283729 p283730 p283731 p283732 hm283709 hm283724 he283710 he283725 bp283713 bp283714 bp283726 bp283727 bp283730 bp283731 bp283732) dr_cX17_behind_25 ⟨wr_10_166, wr_1_38, wr_10_169, by decide, rfl, (Nat.le_of_ble_eq_true rfl), (Nat.le_of_ble_eq_true rfl)⟩ wr_10_167 wr_10_168 hm283709 he283710 rfl (show 0 + 0 ≤ 0 by first | omega | decide) (show 0 + 0 ≤ 0 by first | omega | decide) (Nat.le_of_ble_eq_true rfl) (fun r283745 w283746 dc283742 ds283743 hp283744 => ?_) (fun _ _ _ _ _ z => z.elim)
            obtain ⟨o283747, rfl, rfl, hdc, hds, bo283747, ht283748⟩ := hp283744
            change G _ _ _ _ _ _ _ (.int o283747 :: _) _ _ _
            refine G_widen (cs' := 0) (sl' := 0) (by omega) (by omega) ?_
            refine G_icmp_ge 72 dr_cX17_behind_28 (by decide +kernel) (fun hc283749 => ?_) (fun hc283749 => ?_)
            · have r283750 : o283747.toInt ≤ g283700.toInt := gC_le hc283749
              have hx283751 : tl_RModel_behind3_23 D I γ el P281291 F281292 q281293 q281294 F283447 (0 : Int32) 72 F283701 := kt23_283706 72 F283701 (fun R c1 c2 => c1 F283701 g283700 p283713 p283714 q283712 p283726 o283747 bg283700 hT283702 hs283703 x283704 x283705 fq283738 fq283739 fq283740 fq283741 bo283747 ht283748 r283750)
              exact G_vretA dr_cX17_behind_72 rfl (Nat.le_of_ble_eq_true rfl) (Nat.le_of_ble_eq_true rfl) ⟨F283701, rfl, rfl, hT283702, hs283703, (Nat.le_of_ble_eq_true rfl), (Nat.le_of_ble_eq_true rfl), x283704, x283705, (fun R c1 => c1 F283447 F283701 hx283457 hx283751)⟩
            · have r283752 : g283700.toInt < o283747.toInt := gC_nle hc283749
              have bg283700' : gB g283700 0 1 := ⟨by omega, by omega⟩
              have bo283747' : gB o283747 1 2 := ⟨by omega, by omega⟩
              refine G_iconst 0 dr_cX17_behind_31 (by decide +kernel) ?_
              refine G_istore_n (L' := [(3, .int 0), (2, .int g283700), (0, .ref q281293), (1, .ref q281294)]) dr_cX17_behind_32 (Nat.le_of_ble_eq_true rfl) rfl ?_
              have hlp33_283855 : ∀ (n33_283855 : Nat) (F283851 : Nat → va_E) (g283850 : Int32), gB g283850 0 32 → RS D I P281291 F283851 γ el → rStr γ [] F281292 F283851 → (F283851 q281293 = F281292 q281293) → (F283851 (γ 9 3) = F281292 (γ 9 3)) → (∀ (k : Nat) (e1 : Nat → va_E), tl_RModel_behind3_33 D I γ el P281291 F281292 q281293 q281294 g283700 F283851 g283850 k e1 → tl_RModel_behind3_33 D I γ el P281291 F281292 q281293 q281294 g283700 F283701 (0 : Int32) k e1) → ((33 : Int) - g283850.toInt).toNat < n33_283855 → G (gV D I) l (gRm 1 21 0 0) (gMA (gV D I) (pt_281295_SpillForgeModel_behind D I γ el P281291 F281292 q281293 q281294) gNA 0 0) ky_281295_SpillForgeModel_behind 33 [(3, .int g283850), (2, .int g283700), (0, .ref q281293), (1, .ref q281294)] [] (va_pl P281291 F283851) 0 0 := by
                intro n33_283855
                induction n33_283855 with
                | zero => intro F283851 g283850 bg283850 hT283852 hs283853 x283854 x283855 kt33_283856 hm33_283855; exact absurd hm33_283855 (Nat.not_lt_zero _)
                | succ n33_283855 ih33_283855 =>
                  intro F283851 g283850 bg283850 hT283852 hs283853 x283854 x283855 kt33_283856 hm33_283855
                  have hs283857 : rStr γ [] F283701 F283851 := fun b h0 hb hw => (hs283853 b h0 hb hw).trans (hs283703 b h0 hb hw).symm
                  have he283858 : F283851 q281294 = .inr (17, [.ref q283711, .ref q283712, .int p283713, .int p283714]) := (hs283857 q281294 (rT0 htq281294 (by decide)) (rT1 htq281294 (by decide)) (rT2 htq281294 (by decide))).trans he283710
                  have he283859 : F283851 q283712 = .inr (20, [.int p283726, .int p283727, .int p283728, .int p283729, .int p283730, .int p283731, .int p283732]) := (hs283857 q283712 (rT0 ht283717 (by decide)) (rT1 ht283717 (by decide)) (rT2 ht283717 (by decide))).trans he283725
                  have hs283860 : rStr γ [] F281292 F283851 := rStr_tr hs283703 hs283857
                  refine G_iload_n 0 dr_cX17_behind_33 rfl ?_
                  refine G_bipush 32 dr_cX17_behind_34 (by decide +kernel) ?_
                  refine G_icmp_ge 66 dr_cX17_behind_36 (by decide +kernel) (fun hc283861 => ?_) (fun hc283861 => ?_)
                  · have r283862 : 32 ≤ g283850.toInt := gj_leL hc283861 (show Int32.toInt 32 = 32 by decide)
                    have bg283850' : gB g283850 32 32 := ⟨by omega, by omega⟩
                    have hx283863 : tl_RModel_behind3_33 D I γ el P281291 F281292 q281293 q281294 g283700 F283701 (0 : Int32) 66 F283851 := kt33_283856 66 F283851 (fun R c1 c2 => c1 F283851 g283850 bg283850 hT283852 hs283853 x283854 x283855 r283862)
                    obtain ⟨z283864, hz283864⟩ : ∃ z : Int32, z = g283700 + Int32.ofInt 1 := ⟨_, rfl⟩
                    have ez283864 : z283864.toInt = g283700.toInt + 1 := gI_inc hz283864 (by decide) bg283700' (by decide) (by decide)
                    have bz283864 : gB z283864 1 2 := ⟨by omega, by omega⟩
                    refine G_iinc (L' := [(2, .int z283864), (3, .int g283850), (0, .ref q281293), (1, .ref q281294)]) z283864 1 dr_cX17_behind_66 rfl hz283864.symm (Nat.le_of_ble_eq_true rfl) rfl ?_
                    refine G_goto 23 dr_cX17_behind_69 (by decide +kernel) ?_
                    refine G_lv (L' := [(2, .int z283864), (0, .ref q281293), (1, .ref q281294)]) [0, 2, 3] rfl ?_
                    exact ih23_283705 F283851 z283864 (gB_w bz283864 (by decide) (by decide)) hT283852 hs283853 x283854 x283855 (fun k e1 ht => kt23_283706 k e1 (fun R c1 c2 => c2 F283701 g283700 p283713 p283714 q283712 p283726 o283747 F283851 z283864 k e1 bg283700 hT283702 hs283703 x283704 x283705 fq283738 fq283739 fq283740 fq283741 bo283747 ht283748 r283752 hx283863 ez283864 (ht R c1 c2))) (mz_up ez283864 (Int.le_trans bg283700'.2 (by decide)) hm23_283705)
                  · have r283865 : g283850.toInt < 32 := gj_nleL hc283861 (show Int32.toInt 32 = 32 by decide)
                    have bg283850' : gB g283850 0 31 := ⟨by omega, by omega⟩
                    refine G_aload_n 2 dr_cX17_behind_39 rfl ?_
                    have hm283866 : q281293 ∈ P281291 := RS_m hT283852 htq281293 (by decide)
                    refine rk10_e (show rk_10 γ (F283851 q281293) from RS_o hT283852 htq281293) (fun q283868 q283869 p283870 p283871 p283872 p283873 p283874 p283875 p283876 p283877 p283878 p283879 p283880 p283881 p283882 p283883 p283884 he283867 hB283911 ht283885 ht283886 ht283887 ht283888 ht283889 ht283890 ht283891 ht283892 ht283893 ht283894 ht283895 ht283896 ht283897 ht283898 ht283899 ht283900 ht283901 ht283902 ht283903 ht283904 ht283905 ht283906 ht283907 ht283908 hB283912 => ?_)
                    have fq283913 : fR (F283851 q281293) 2 = (γ 9 2) := by rw [he283867]; rfl
                    refine Gp_get 2 hm283866 he283867 dr_cX17_behind_40 (gk_X17 D I) (Nat.le_of_ble_eq_true rfl) wr_7_76 rfl ?_
                    refine G_iload_n 0 dr_cX17_behind_43 rfl ?_
                    refine G_dup2_11 dr_cX17_behind_44 rfl rfl ?_
                    have hm283914 : (γ 9 2) ∈ P281291 := RS_m hT283852 ht283889 (by decide)
                    obtain ⟨f283916, he283915, wf283916⟩ := show rk_35 I (F283851 (γ 9 2)) from RS_o hT283852 ht283889
                    refine Gp_lald 2 hm283914 he283915 dr_cX17_behind_45 rfl (gB_in bg283850' (by decide) (by decide)) (G_namL fun u283917 hu283917 => ?_)
                    have qu283917 : lb_Q u283917 (2000 - 64 * g283850.toInt) := lb_Wld hu283917 wf283916 (by omega) (by omega) (lb_Mod0 (by omega) (by omega))
                    refine G_aload_n 2 dr_cX17_behind_46 rfl ?_
                    have fq283918 : fR (F283851 q281293) 0 = (γ 9 0) := by rw [he283867]; rfl
                    refine Gp_get 0 hm283866 he283867 dr_cX17_behind_47 (gk_X17 D I) (Nat.le_of_ble_eq_true rfl) wr_7_74 rfl ?_
                    refine G_aload_n 3 dr_cX17_behind_50 rfl ?_
                    refine G_iload_n 1 dr_cX17_behind_51 rfl ?_
                    have fq283919 : fI (F283851 q281294) 2 = p283713 := by rw [he283858]; rfl
                    have fq283920 : fI (F283851 q281294) 3 = p283714 := by rw [he283858]; rfl
                    have fq283921 : fR (F283851 q281294) 1 = q283712 := by rw [he283858]; rfl
                    refine Gw_callV (As := [.int g283700]) (gV_ok D I) (cp_5159_Block_way l hl0 D I P281291 F283851 q281294 q283712 g283700 q283711 p283713 p283714 p283726 p283727 p283728 p283729 p283730 p283731 p283732 hm283709 hm283724 he283858 he283859 bp283713 bp283714 bp283726 bp283727 bp283730 bp283731 bp283732) dr_cX17_behind_52 ⟨wr_10_170, wr_1_38, wr_10_173, by decide, rfl, (Nat.le_of_ble_eq_true rfl), (Nat.le_of_ble_eq_true rfl)⟩ wr_10_171 wr_10_172 hm283709 he283858 rfl (show 0 + 0 ≤ 0 by first | omega | decide) (show 0 + 0 ≤ 0 by first | omega | decide) (Nat.le_of_ble_eq_true rfl) (fun r283925 w283926 dc283922 ds283923 hp283924 => ?_) (fun _ _ _ _ _ z => z.elim)
                    obtain ⟨o283927, rfl, rfl, hdc, hds, bo283927, ht283928⟩ := hp283924
                    change G _ _ _ _ _ _ _ (.int o283927 :: _) _ _ _
                    refine G_widen (cs' := 0) (sl' := 0) (by omega) (by omega) ?_
                    have hm283929 : (γ 9 0) ∈ P281291 := RS_m hT283852 ht283887 (by decide)
                    obtain ⟨f283931, he283930, hg283932⟩ := show rk_12 I γ (F283851 (γ 9 0)) from RS_o hT283852 ht283887
                    obtain ⟨q283933, hx283935⟩ : ∃ x, x = γ 10 o283927.toInt.toNat := ⟨_, rfl⟩
                    have ht283934 : rKd γ q283933 11 := by rw [hx283935]; exact (hg283932 _ (show o283927.toInt.toNat < 40 by omega)).2.1
                    refine Gp_aald 5 hm283929 he283930 dr_cX17_behind_55 rfl rfl (gB_in bo283927 (by decide) (by decide)) ?_
                    rw [show f283931 o283927.toNatClampNeg = some q283933 from (hg283932 _ (show o283927.toInt.toNat < 40 by omega)).1.trans (by rw [hx283935])]
                    change G _ _ _ _ _ _ _ (.ref q283933 :: _) _ _ _
                    refine G_iload_n 0 dr_cX17_behind_56 rfl ?_
                    have hm283936 : q283933 ∈ P281291 := RS_m hT283852 ht283934 (by decide)
                    obtain ⟨f283938, he283937, wf283938⟩ := show rk_11 I (F283851 q283933) from RS_o hT283852 ht283934
                    refine Gp_lald 2 hm283936 he283937 dr_cX17_behind_57 rfl (gB_in bg283850' (by decide) (by decide)) (G_namL fun u283939 hu283939 => ?_)
                    have qu283939 : lb_Q u283939 (2000 - 64 * g283850.toInt) := lb_Wld hu283939 wf283938 (by omega) (by omega) (lb_Mod0 (by omega) (by omega))
                    refine G_lor dr_cX17_behind_58 (G_namL fun u283940 hu283940 => ?_)
                    have qu283940 : lb_Q u283940 (2000 - 64 * g283850.toInt) := lb_Qor hu283940 qu283917 qu283939
                    refine Gp_last 2 hm283914 he283915 dr_cX17_behind_59 rfl (gB_in bg283850' (by decide) (by decide)) (fun F283941 e283942 n283943 => ?_)
                    obtain ⟨f283944, hf283944⟩ : ∃ z, z = vp_updL f283916 g283850.toNatClampNeg u283940 := ⟨_, rfl⟩
                    rw [← hf283944] at e283942
                    have he283945 : F283941 q281294 = .inr (17, [.ref q283711, .ref q283712, .int p283713, .int p283714]) := (n283943 q281294 (rn_oa he283858 he283915)).trans he283858
                    have he283946 : F283941 q283712 = .inr (20, [.int p283726, .int p283727, .int p283728, .int p283729, .int p283730, .int p283731, .int p283732]) := (n283943 q283712 (rn_oa he283859 he283915)).trans he283859
                    have he283947 : F283941 q281293 = .inr (22, [.ref (γ 9 0), .ref (γ 9 1), .ref (γ 9 2), .ref (γ 9 3), .ref (γ 9 4), .ref (γ 9 5), .ref (γ 9 6), .ref (γ 9 7), .ref (γ 9 8), .int p283870, .int p283871, .int p283872, .int p283873, .int p283874, .int p283875, .ref (γ 9 15), .ref (γ 9 16), .ref (γ 9 17), .ref (γ 9 18), .ref (γ 9 19), .ref (γ 9 20), .ref (γ 9 21), .ref (γ 9 22), .int p283876, .int p283877, .int p283878, .int p283879, .int p283880, .ref q283868, .ref (γ 9 29), .int p283881, .ref (γ 9 31), .int p283882, .int p283883, .int p283884, .ref q283869]) := (n283943 q281293 (rn_oa he283867 he283915)).trans he283867
                    have he283948 : F283941 (γ 9 0) = .inl (I (.array .long), 40, .inr (.inr (.inr (.inr f283931)))) := (n283943 (γ 9 0) (rn_ref_long he283930 he283915)).trans he283930
                    have he283949 : F283941 q283933 = .inl (I .long, 32, .inr (.inl f283938)) := (n283943 q283933 (rn_ty ht283934 ht283889 (by decide))).trans he283937
                    have he283950 : F283941 (γ 9 2) = .inl (I .long, 32, .inr (.inl f283944)) := e283942
                    have hs283951 : rStr γ [] F281292 F283941 := rStr_put hs283853 n283943 ht283889 (by decide)
                    have kp283952 : F283941 q281293 = F281292 q281293 := (n283943 q281293 (rn_ty htq281293 ht283889 (by decide))).trans x283854
                    have kp283953 : F283941 (γ 9 3) = F281292 (γ 9 3) := (n283943 (γ 9 3) (rn_ty ht283890 ht283889 (by decide))).trans x283855
                    have wf283944 : lb_W f283944 (32) (32) (2000) := lb_Wst hf283944 wf283916 (by omega) (lb_Mod0 (by omega) (by omega)) qu283940
                    obtain ⟨z283954, hz283954⟩ : ∃ z : Int32, z = g283850 + Int32.ofInt 1 := ⟨_, rfl⟩
                    have ez283954 : z283954.toInt = g283850.toInt + 1 := gI_inc hz283954 (by decide) bg283850' (by decide) (by decide)
                    have bz283954 : gB z283954 1 32 := ⟨by omega, by omega⟩
                    refine G_iinc (L' := [(3, .int z283954), (2, .int g283700), (0, .ref q281293), (1, .ref q281294)]) z283954 0 dr_cX17_behind_60 rfl hz283954.symm (Nat.le_of_ble_eq_true rfl) rfl ?_
                    refine G_goto 33 dr_cX17_behind_63 (by decide +kernel) ?_
                    have hT283955 : RS D I P281291 F283941 γ el := RS_set hT283852 n283943 ht283889 (by decide) ⟨f283944, he283950, wf283944⟩
                    exact ih33_283855 F283941 z283954 (gB_w bz283954 (by decide) (by decide)) hT283955 hs283951 kp283952 kp283953 (fun k e1 ht => kt33_283856 k e1 (fun R c1 c2 => c2 F283851 g283850 f283916 u283917 p283713 p283714 o283927 q283933 f283938 u283939 u283940 f283944 F283941 z283954 k e1 bg283850 hT283852 hs283853 x283854 x283855 r283865 fq283913 he283915 hu283917 fq283918 fq283919 fq283920 bo283927 ht283928 hx283935 he283937 hu283939 hu283940 hf283944 n283943 he283950 ez283954 (ht R c1 c2))) (mz_up ez283954 (Int.le_trans bg283850'.2 (by decide)) hm33_283855)
              exact hlp33_283855 (((33 : Int) - 0).toNat + 1) F283701 0 (gB_w (gBl (show Int32.toInt 0 = 0 by decide)) (by decide) (by decide)) hT283702 hs283703 x283704 x283705 (fun k e1 ht => ht) (Nat.lt_succ_self _)
        exact hlp23_283705 (((3 : Int) - 0).toNat + 1) F283447 0 (gB_w (gBl (show Int32.toInt 0 = 0 by decide)) (by decide) (by decide)) hT283448 hs283449 x283450 x283451 (fun k e1 ht => ht) (Nat.lt_succ_self _)
      · have r283956 : g283446.toInt < 32 := gj_nleL hc283455 (show Int32.toInt 32 = 32 by decide)
        have bg283446' : gB g283446 0 31 := ⟨by omega, by omega⟩
        refine G_aload_n 1 dr_cX17_behind_8 rfl ?_
        have hm283957 : q281293 ∈ P281291 := RS_m hT283448 htq281293 (by decide)
        refine rk10_e (show rk_10 γ (F283447 q281293) from RS_o hT283448 htq281293) (fun q283959 q283960 p283961 p283962 p283963 p283964 p283965 p283966 p283967 p283968 p283969 p283970 p283971 p283972 p283973 p283974 p283975 he283958 hB284002 ht283976 ht283977 ht283978 ht283979 ht283980 ht283981 ht283982 ht283983 ht283984 ht283985 ht283986 ht283987 ht283988 ht283989 ht283990 ht283991 ht283992 ht283993 ht283994 ht283995 ht283996 ht283997 ht283998 ht283999 hB284003 => ?_)
        have fq284004 : fR (F283447 q281293) 2 = (γ 9 2) := by rw [he283958]; rfl
        refine Gp_get 2 hm283957 he283958 dr_cX17_behind_9 (gk_X17 D I) (Nat.le_of_ble_eq_true rfl) wr_7_76 rfl ?_
        refine G_iload_n 0 dr_cX17_behind_12 rfl ?_
        refine G_lconst 0 dr_cX17_behind_13 rfl ?_
        have hm284005 : (γ 9 2) ∈ P281291 := RS_m hT283448 ht283980 (by decide)
        obtain ⟨f284007, he284006, wf284007⟩ := show rk_35 I (F283447 (γ 9 2)) from RS_o hT283448 ht283980
        refine Gp_last 2 hm284005 he284006 dr_cX17_behind_14 rfl (gB_in bg283446' (by decide) (by decide)) (fun F284008 e284009 n284010 => ?_)
        obtain ⟨f284011, hf284011⟩ : ∃ z, z = vp_updL f284007 g283446.toNatClampNeg 0 := ⟨_, rfl⟩
        rw [← hf284011] at e284009
        have he284012 : F284008 q281293 = .inr (22, [.ref (γ 9 0), .ref (γ 9 1), .ref (γ 9 2), .ref (γ 9 3), .ref (γ 9 4), .ref (γ 9 5), .ref (γ 9 6), .ref (γ 9 7), .ref (γ 9 8), .int p283961, .int p283962, .int p283963, .int p283964, .int p283965, .int p283966, .ref (γ 9 15), .ref (γ 9 16), .ref (γ 9 17), .ref (γ 9 18), .ref (γ 9 19), .ref (γ 9 20), .ref (γ 9 21), .ref (γ 9 22), .int p283967, .int p283968, .int p283969, .int p283970, .int p283971, .ref q283959, .ref (γ 9 29), .int p283972, .ref (γ 9 31), .int p283973, .int p283974, .int p283975, .ref q283960]) := (n284010 q281293 (rn_oa he283958 he284006)).trans he283958
        have he284013 : F284008 (γ 9 2) = .inl (I .long, 32, .inr (.inl f284011)) := e284009
        have hs284014 : rStr γ [] F281292 F284008 := rStr_put hs283449 n284010 ht283980 (by decide)
        have kp284015 : F284008 q281293 = F281292 q281293 := (n284010 q281293 (rn_ty htq281293 ht283980 (by decide))).trans x283450
        have kp284016 : F284008 (γ 9 3) = F281292 (γ 9 3) := (n284010 (γ 9 3) (rn_ty ht283981 ht283980 (by decide))).trans x283451
        have wf284011 : lb_W f284011 (32) (32) (2000) := lb_Wst hf284011 wf284007 (by omega) (lb_Mod0 (by omega) (by omega)) lb_Q0
        obtain ⟨z284017, hz284017⟩ : ∃ z : Int32, z = g283446 + Int32.ofInt 1 := ⟨_, rfl⟩
        have ez284017 : z284017.toInt = g283446.toInt + 1 := gI_inc hz284017 (by decide) bg283446' (by decide) (by decide)
        have bz284017 : gB z284017 1 32 := ⟨by omega, by omega⟩
        refine G_iinc (L' := [(2, .int z284017), (0, .ref q281293), (1, .ref q281294)]) z284017 0 dr_cX17_behind_15 rfl hz284017.symm (Nat.le_of_ble_eq_true rfl) rfl ?_
        refine G_goto 2 dr_cX17_behind_18 (by decide +kernel) ?_
        have hT284018 : RS D I P281291 F284008 γ el := RS_set hT283448 n284010 ht283980 (by decide) ⟨f284011, he284013, wf284011⟩
        exact ih2_283451 F284008 z284017 (gB_w bz284017 (by decide) (by decide)) hT284018 hs284014 kp284015 kp284016 (fun k e1 ht => kt2_283452 k e1 (fun R c1 c2 => c2 F283447 g283446 f284007 f284011 F284008 z284017 k e1 bg283446 hT283448 hs283449 x283450 x283451 r283956 fq284004 he284006 hf284011 n284010 he284013 ez284017 (ht R c1 c2))) (mz_up ez284017 (Int.le_trans bg283446'.2 (by decide)) hm2_283451)
  exact hlp2_283451 (((33 : Int) - 0).toNat + 1) F281292 0 (gB_w (gBl (show Int32.toInt 0 = 0 by decide)) (by decide) (by decide)) hT (rStr_rf (γ := γ) (W := []) (F := F281292)) rfl rfl (fun k e1 ht => ht) (Nat.lt_succ_self _)
/- tr_RModel_stand2: F -/
def tr_RModel_stand2 (D : va_G) (I : FieldType → ClassId) (γ el : Nat → Nat → Nat) (F : Nat → va_E) (q0 : Nat) (q1 : Nat) (a2 : Int32) (o1 : Nat → va_E) : Prop := ∀ R : (Nat → va_E) → Prop,
  (∀ (x1 : Int32) (x2 : Int32) (x3 : Int32) (x4 : Int32) (x5 : Int32) (x6 : Int32) (x7 : Int32) (x8 : Int32), fI (F q1) 0 = x1 → fI (F q1) 1 = x2 → fI (F q1) 4 = x3 → gB x4 (-1) 1999 → tr_RModel_setOf2 a2 x1 x2 x3 x4 → x4.toInt < 0 → a2.toInt = 0 → fI (F q1) 5 = x5 → gB x6 0 1 → tr_RRow_usesA2 x1 x5 x6 → x6.toInt = 0 → fI (F q1) 6 = x7 → gB x8 0 1 → tr_RRow_usesB2 x1 x7 x8 → x8.toInt = 0 → R F) →
  (∀ (x1 : Int32) (x2 : Int32) (x3 : Int32) (x4 : Int32) (x5 : Int32) (x6 : Int32) (x7 : Int32) (x8 : Int32) (x9 : Int32) (x10 : Nat → Int32) (x11 : Nat → Int32) (x12 : Nat → va_E), fI (F q1) 0 = x1 → fI (F q1) 1 = x2 → fI (F q1) 4 = x3 → gB x4 (-1) 1999 → tr_RModel_setOf2 a2 x1 x2 x3 x4 → x4.toInt < 0 → a2.toInt = 0 → fI (F q1) 5 = x5 → gB x6 0 1 → tr_RRow_usesA2 x1 x5 x6 → x6.toInt = 0 → fI (F q1) 6 = x7 → gB x8 0 1 → tr_RRow_usesB2 x1 x7 x8 → x8.toInt ≠ 0 → fR (F q0) 3 = (γ 9 3) → fI (F q1) 3 = x9 → F (γ 9 3) = .inl (I .boolean, 2000, .inl x10) → x11 = upd x10 x9.toNatClampNeg (vp_nar .boolean 1) → (∀ b, b ≠ (γ 9 3) → x12 b = F b) → x12 (γ 9 3) = .inl (I .boolean, 2000, .inl x11) → R x12) →
  (∀ (x1 : Int32) (x2 : Int32) (x3 : Int32) (x4 : Int32) (x5 : Int32) (x6 : Int32) (x7 : Int32) (x8 : Nat → Int32) (x9 : Nat → Int32) (x10 : Nat → va_E) (x11 : Int32) (x12 : Int32), fI (F q1) 0 = x1 → fI (F q1) 1 = x2 → fI (F q1) 4 = x3 → gB x4 (-1) 1999 → tr_RModel_setOf2 a2 x1 x2 x3 x4 → x4.toInt < 0 → a2.toInt = 0 → fI (F q1) 5 = x5 → gB x6 0 1 → tr_RRow_usesA2 x1 x5 x6 → x6.toInt ≠ 0 → fR (F q0) 3 = (γ 9 3) → fI (F q1) 2 = x7 → F (γ 9 3) = .inl (I .boolean, 2000, .inl x8) → x9 = upd x8 x7.toNatClampNeg (vp_nar .boolean 1) → (∀ b, b ≠ (γ 9 3) → x10 b = F b) → x10 (γ 9 3) = .inl (I .boolean, 2000, .inl x9) → fI (x10 q1) 0 = x1 → fI (x10 q1) 6 = x11 → gB x12 0 1 → tr_RRow_usesB2 x1 x11 x12 → x12.toInt = 0 → R x10) →
  (∀ (x1 : Int32) (x2 : Int32) (x3 : Int32) (x4 : Int32) (x5 : Int32) (x6 : Int32) (x7 : Int32) (x8 : Nat → Int32) (x9 : Nat → Int32) (x10 : Nat → va_E) (x11 : Int32) (x12 : Int32) (x13 : Int32) (x14 : Nat → Int32) (x15 : Nat → va_E), fI (F q1) 0 = x1 → fI (F q1) 1 = x2 → fI (F q1) 4 = x3 → gB x4 (-1) 1999 → tr_RModel_setOf2 a2 x1 x2 x3 x4 → x4.toInt < 0 → a2.toInt = 0 → fI (F q1) 5 = x5 → gB x6 0 1 → tr_RRow_usesA2 x1 x5 x6 → x6.toInt ≠ 0 → fR (F q0) 3 = (γ 9 3) → fI (F q1) 2 = x7 → F (γ 9 3) = .inl (I .boolean, 2000, .inl x8) → x9 = upd x8 x7.toNatClampNeg (vp_nar .boolean 1) → (∀ b, b ≠ (γ 9 3) → x10 b = F b) → x10 (γ 9 3) = .inl (I .boolean, 2000, .inl x9) → fI (x10 q1) 0 = x1 → fI (x10 q1) 6 = x11 → gB x12 0 1 → tr_RRow_usesB2 x1 x11 x12 → x12.toInt ≠ 0 → fR (x10 q0) 3 = (γ 9 3) → fI (x10 q1) 3 = x13 → x10 (γ 9 3) = .inl (I .boolean, 2000, .inl x9) → x14 = upd x9 x13.toNatClampNeg (vp_nar .boolean 1) → (∀ b, b ≠ (γ 9 3) → x15 b = x10 b) → x15 (γ 9 3) = .inl (I .boolean, 2000, .inl x14) → R x15) →
  (∀ (x1 : Int32) (x2 : Int32) (x3 : Int32) (x4 : Int32), fI (F q1) 0 = x1 → fI (F q1) 1 = x2 → fI (F q1) 4 = x3 → gB x4 (-1) 1999 → tr_RModel_setOf2 a2 x1 x2 x3 x4 → x4.toInt < 0 → a2.toInt ≠ 0 → x1.toInt ≠ 21 → R F) →
  (∀ (x1 : Int32) (x2 : Int32) (x3 : Int32) (x4 : Int32) (x5 : Nat → Int32) (x6 : Nat → Int32) (x7 : Nat → va_E), fI (F q1) 0 = x1 → fI (F q1) 1 = x2 → fI (F q1) 4 = x3 → gB x4 (-1) 1999 → tr_RModel_setOf2 a2 x1 x2 x3 x4 → x4.toInt < 0 → a2.toInt ≠ 0 → x1.toInt = 21 → fR (F q0) 3 = (γ 9 3) → F (γ 9 3) = .inl (I .boolean, 2000, .inl x5) → x6 = upd x5 x3.toNatClampNeg (vp_nar .boolean 1) → (∀ b, b ≠ (γ 9 3) → x7 b = F b) → x7 (γ 9 3) = .inl (I .boolean, 2000, .inl x6) → R x7) →
  (∀ (x1 : Int32) (x2 : Int32) (x3 : Int32) (x4 : Int32) (x5 : Nat → Int32) (x6 : Nat → Int32) (x7 : Nat → va_E) (x8 : Int32) (x9 : Int32) (x10 : Int32) (x11 : Int32), fI (F q1) 0 = x1 → fI (F q1) 1 = x2 → fI (F q1) 4 = x3 → gB x4 (-1) 1999 → tr_RModel_setOf2 a2 x1 x2 x3 x4 → 0 ≤ x4.toInt → fR (F q0) 3 = (γ 9 3) → F (γ 9 3) = .inl (I .boolean, 2000, .inl x5) → x6 = upd x5 x4.toNatClampNeg (vp_nar .boolean 1) → (∀ b, b ≠ (γ 9 3) → x7 b = F b) → x7 (γ 9 3) = .inl (I .boolean, 2000, .inl x6) → a2.toInt = 0 → fI (x7 q1) 0 = x1 → fI (x7 q1) 5 = x8 → gB x9 0 1 → tr_RRow_usesA2 x1 x8 x9 → x9.toInt = 0 → fI (x7 q1) 6 = x10 → gB x11 0 1 → tr_RRow_usesB2 x1 x10 x11 → x11.toInt = 0 → R x7) →
  (∀ (x1 : Int32) (x2 : Int32) (x3 : Int32) (x4 : Int32) (x5 : Nat → Int32) (x6 : Nat → Int32) (x7 : Nat → va_E) (x8 : Int32) (x9 : Int32) (x10 : Int32) (x11 : Int32) (x12 : Int32) (x13 : Nat → Int32) (x14 : Nat → va_E), fI (F q1) 0 = x1 → fI (F q1) 1 = x2 → fI (F q1) 4 = x3 → gB x4 (-1) 1999 → tr_RModel_setOf2 a2 x1 x2 x3 x4 → 0 ≤ x4.toInt → fR (F q0) 3 = (γ 9 3) → F (γ 9 3) = .inl (I .boolean, 2000, .inl x5) → x6 = upd x5 x4.toNatClampNeg (vp_nar .boolean 1) → (∀ b, b ≠ (γ 9 3) → x7 b = F b) → x7 (γ 9 3) = .inl (I .boolean, 2000, .inl x6) → a2.toInt = 0 → fI (x7 q1) 0 = x1 → fI (x7 q1) 5 = x8 → gB x9 0 1 → tr_RRow_usesA2 x1 x8 x9 → x9.toInt = 0 → fI (x7 q1) 6 = x10 → gB x11 0 1 → tr_RRow_usesB2 x1 x10 x11 → x11.toInt ≠ 0 → fR (x7 q0) 3 = (γ 9 3) → fI (x7 q1) 3 = x12 → x7 (γ 9 3) = .inl (I .boolean, 2000, .inl x6) → x13 = upd x6 x12.toNatClampNeg (vp_nar .boolean 1) → (∀ b, b ≠ (γ 9 3) → x14 b = x7 b) → x14 (γ 9 3) = .inl (I .boolean, 2000, .inl x13) → R x14) →
  (∀ (x1 : Int32) (x2 : Int32) (x3 : Int32) (x4 : Int32) (x5 : Nat → Int32) (x6 : Nat → Int32) (x7 : Nat → va_E) (x8 : Int32) (x9 : Int32) (x10 : Int32) (x11 : Nat → Int32) (x12 : Nat → va_E) (x13 : Int32) (x14 : Int32), fI (F q1) 0 = x1 → fI (F q1) 1 = x2 → fI (F q1) 4 = x3 → gB x4 (-1) 1999 → tr_RModel_setOf2 a2 x1 x2 x3 x4 → 0 ≤ x4.toInt → fR (F q0) 3 = (γ 9 3) → F (γ 9 3) = .inl (I .boolean, 2000, .inl x5) → x6 = upd x5 x4.toNatClampNeg (vp_nar .boolean 1) → (∀ b, b ≠ (γ 9 3) → x7 b = F b) → x7 (γ 9 3) = .inl (I .boolean, 2000, .inl x6) → a2.toInt = 0 → fI (x7 q1) 0 = x1 → fI (x7 q1) 5 = x8 → gB x9 0 1 → tr_RRow_usesA2 x1 x8 x9 → x9.toInt ≠ 0 → fR (x7 q0) 3 = (γ 9 3) → fI (x7 q1) 2 = x10 → x7 (γ 9 3) = .inl (I .boolean, 2000, .inl x6) → x11 = upd x6 x10.toNatClampNeg (vp_nar .boolean 1) → (∀ b, b ≠ (γ 9 3) → x12 b = x7 b) → x12 (γ 9 3) = .inl (I .boolean, 2000, .inl x11) → fI (x12 q1) 0 = x1 → fI (x12 q1) 6 = x13 → gB x14 0 1 → tr_RRow_usesB2 x1 x13 x14 → x14.toInt = 0 → R x12) →
  (∀ (x1 : Int32) (x2 : Int32) (x3 : Int32) (x4 : Int32) (x5 : Nat → Int32) (x6 : Nat → Int32) (x7 : Nat → va_E) (x8 : Int32) (x9 : Int32) (x10 : Int32) (x11 : Nat → Int32) (x12 : Nat → va_E) (x13 : Int32) (x14 : Int32) (x15 : Int32) (x16 : Nat → Int32) (x17 : Nat → va_E), fI (F q1) 0 = x1 → fI (F q1) 1 = x2 → fI (F q1) 4 = x3 → gB x4 (-1) 1999 → tr_RModel_setOf2 a2 x1 x2 x3 x4 → 0 ≤ x4.toInt → fR (F q0) 3 = (γ 9 3) → F (γ 9 3) = .inl (I .boolean, 2000, .inl x5) → x6 = upd x5 x4.toNatClampNeg (vp_nar .boolean 1) → (∀ b, b ≠ (γ 9 3) → x7 b = F b) → x7 (γ 9 3) = .inl (I .boolean, 2000, .inl x6) → a2.toInt = 0 → fI (x7 q1) 0 = x1 → fI (x7 q1) 5 = x8 → gB x9 0 1 → tr_RRow_usesA2 x1 x8 x9 → x9.toInt ≠ 0 → fR (x7 q0) 3 = (γ 9 3) → fI (x7 q1) 2 = x10 → x7 (γ 9 3) = .inl (I .boolean, 2000, .inl x6) → x11 = upd x6 x10.toNatClampNeg (vp_nar .boolean 1) → (∀ b, b ≠ (γ 9 3) → x12 b = x7 b) → x12 (γ 9 3) = .inl (I .boolean, 2000, .inl x11) → fI (x12 q1) 0 = x1 → fI (x12 q1) 6 = x13 → gB x14 0 1 → tr_RRow_usesB2 x1 x13 x14 → x14.toInt ≠ 0 → fR (x12 q0) 3 = (γ 9 3) → fI (x12 q1) 3 = x15 → x12 (γ 9 3) = .inl (I .boolean, 2000, .inl x11) → x16 = upd x11 x15.toNatClampNeg (vp_nar .boolean 1) → (∀ b, b ≠ (γ 9 3) → x17 b = x12 b) → x17 (γ 9 3) = .inl (I .boolean, 2000, .inl x16) → R x17) →
  (∀ (x1 : Int32) (x2 : Int32) (x3 : Int32) (x4 : Int32) (x5 : Nat → Int32) (x6 : Nat → Int32) (x7 : Nat → va_E), fI (F q1) 0 = x1 → fI (F q1) 1 = x2 → fI (F q1) 4 = x3 → gB x4 (-1) 1999 → tr_RModel_setOf2 a2 x1 x2 x3 x4 → 0 ≤ x4.toInt → fR (F q0) 3 = (γ 9 3) → F (γ 9 3) = .inl (I .boolean, 2000, .inl x5) → x6 = upd x5 x4.toNatClampNeg (vp_nar .boolean 1) → (∀ b, b ≠ (γ 9 3) → x7 b = F b) → x7 (γ 9 3) = .inl (I .boolean, 2000, .inl x6) → a2.toInt ≠ 0 → fI (x7 q1) 0 = x1 → x1.toInt ≠ 21 → R x7) →
  (∀ (x1 : Int32) (x2 : Int32) (x3 : Int32) (x4 : Int32) (x5 : Nat → Int32) (x6 : Nat → Int32) (x7 : Nat → va_E) (x8 : Nat → Int32) (x9 : Nat → va_E), fI (F q1) 0 = x1 → fI (F q1) 1 = x2 → fI (F q1) 4 = x3 → gB x4 (-1) 1999 → tr_RModel_setOf2 a2 x1 x2 x3 x4 → 0 ≤ x4.toInt → fR (F q0) 3 = (γ 9 3) → F (γ 9 3) = .inl (I .boolean, 2000, .inl x5) → x6 = upd x5 x4.toNatClampNeg (vp_nar .boolean 1) → (∀ b, b ≠ (γ 9 3) → x7 b = F b) → x7 (γ 9 3) = .inl (I .boolean, 2000, .inl x6) → a2.toInt ≠ 0 → fI (x7 q1) 0 = x1 → x1.toInt = 21 → fR (x7 q0) 3 = (γ 9 3) → fI (x7 q1) 4 = x3 → x7 (γ 9 3) = .inl (I .boolean, 2000, .inl x6) → x8 = upd x6 x3.toNatClampNeg (vp_nar .boolean 1) → (∀ b, b ≠ (γ 9 3) → x9 b = x7 b) → x9 (γ 9 3) = .inl (I .boolean, 2000, .inl x8) → R x9) →
  R o1
abbrev ky_284044_SpillForgeModel_stand : gKey := (cX17_stand, 4, "SpillForgeModel", none, [], "stand", fun _ _ => True)
def pt_284044_SpillForgeModel_stand (D : va_G) (I : FieldType → ClassId) (γ el : Nat → Nat → Nat) (P284039 : List Nat) (F284040 : Nat → va_E) (q284041 : Nat) (q284042 : Nat) (p284043 : Int32) : Option Value → va_W → Nat → Nat → Prop := fun r w dc ds => ∃ (F284319 : Nat → va_E), r = none ∧ w = va_pl P284039 F284319 ∧ RS D I P284039 F284319 γ el ∧ rStr γ [] F284040 F284319 ∧ dc ≤ 0 ∧ ds ≤ 0 ∧ (gIp (p284043.toInt = 0) (∀ n : Nat, rSd (cB (F284319 (γ 9 3))) n ↔ (rSd (cB (F284040 (γ 9 3))) n ∨ nmS (F284040 q284042) n))) ∧ (F284319 q284041 = F284040 q284041) ∧ tr_RModel_stand2 D I γ el F284040 q284041 q284042 p284043 F284319
set_option maxRecDepth 100000 in
set_option maxHeartbeats 4000000 in
theorem ct_284044_SpillForgeModel_stand (l : Launch) (hl0 : l.stackTraces = false) (D : va_G) (I : FieldType → ClassId) (γ el : Nat → Nat → Nat) (P284039 : List Nat) (F284040 : Nat → va_E) (q284041 : Nat) (q284042 : Nat) (p284043 : Int32) (hT : RS D I P284039 F284040 γ el) (htq284041 : rKd γ q284041 10) (htq284042 : rKd γ q284042 1) (bp284043 : gB p284043 0 1) : CtA (gV D I) l yX17_stand cX17_stand 4 none 2 41 0 0 [.ref q284041, .ref q284042, .int p284043] (va_pl P284039 F284040) (pt_284044_SpillForgeModel_stand D I γ el P284039 F284040 q284041 q284042 p284043) gNA := by
  refine CtA_of hl0 (by decide) (Nat.le_of_ble_eq_true rfl) ?_
  have hm284045 : q284041 ∈ P284039 := RS_m hT htq284041 (by decide)
  refine rk10_e (show rk_10 γ (F284040 q284041) from RS_o hT htq284041) (fun q284047 q284048 p284049 p284050 p284051 p284052 p284053 p284054 p284055 p284056 p284057 p284058 p284059 p284060 p284061 p284062 p284063 he284046 hB284090 ht284064 ht284065 ht284066 ht284067 ht284068 ht284069 ht284070 ht284071 ht284072 ht284073 ht284074 ht284075 ht284076 ht284077 ht284078 ht284079 ht284080 ht284081 ht284082 ht284083 ht284084 ht284085 ht284086 ht284087 hB284091 => ?_)
  have hm284092 : (γ 9 3) ∈ P284039 := RS_m hT ht284069 (by decide)
  obtain ⟨f284094, he284093, bf284094⟩ := show rk_14 I (F284040 (γ 9 3)) from RS_o hT ht284069
  have hm284095 : q284042 ∈ P284039 := RS_m hT htq284042 (by decide)
  obtain ⟨p284097, p284098, p284099, p284100, p284101, p284102, p284103, he284096, bp284097, bp284098, bp284101, bp284102, bp284103, r284104, r284105, r284106, r284107, r284108⟩ := show rk_1 γ q284042 (F284040 q284042) from RS_o hT htq284042
  have bp284099 := gB_any p284099
  have bp284100 := gB_any p284100
  refine G_aload_n 1 dr_cX17_stand_0 rfl ?_
  refine G_iload_n 2 dr_cX17_stand_1 rfl ?_
  have fq284109 : fI (F284040 q284042) 0 = p284097 := by rw [he284096]; rfl
  have fq284110 : fI (F284040 q284042) 1 = p284098 := by rw [he284096]; rfl
  have fq284111 : fI (F284040 q284042) 4 = p284101 := by rw [he284096]; rfl
  refine Gw_callS (As := [.ref q284042, .int p284043]) (gV_ok D I) (cp_222464_SpillForgeModel_setOf l hl0 D I P284039 F284040 q284042 p284043 p284097 p284098 p284099 p284100 p284101 p284102 p284103 hm284095 he284096 bp284043 bp284097 bp284098 bp284101 bp284102 bp284103) dr_cX17_stand_2 ⟨wr_10_178, wr_1_14, wr_10_180, by decide, rfl, (Nat.le_of_ble_eq_true rfl), (Nat.le_of_ble_eq_true rfl)⟩ wr_10_179 (show 0 + 0 ≤ 0 by first | omega | decide) (show 0 + 0 ≤ 0 by first | omega | decide) (Nat.le_of_ble_eq_true rfl) (fun r284115 w284116 dc284112 ds284113 hp284114 => ?_) (fun _ _ _ _ _ z => z.elim)
  obtain ⟨o284117, rfl, rfl, hdc, hds, bo284117, x284118, ht284119⟩ := hp284114
  change G _ _ _ _ _ _ _ (.int o284117 :: _) _ _ _
  refine G_widen (cs' := 0) (sl' := 0) (by omega) (by omega) ?_
  refine G_istore_n (L' := [(3, .int o284117), (0, .ref q284041), (1, .ref q284042), (2, .int p284043)]) dr_cX17_stand_5 (Nat.le_of_ble_eq_true rfl) rfl ?_
  refine G_iload_n 0 dr_cX17_stand_6 rfl ?_
  refine G_if_lt 17 dr_cX17_stand_7 (by decide +kernel) (fun hc284120 => ?_) (fun hc284120 => ?_)
  · have r284121 : o284117.toInt < 0 := gj_lt hc284120 (show Int32.toInt 0 = 0 by decide)
    have bo284117' : gB o284117 (-1) (-1) := ⟨by omega, by omega⟩
    refine G_iload_n 3 dr_cX17_stand_17 rfl ?_
    refine G_if_eq 41 dr_cX17_stand_18 (by decide +kernel) (fun hc284122 => ?_) (fun hc284122 => ?_)
    · have r284123 : p284043.toInt = 0 := gj_eq hc284122 (show Int32.toInt 0 = 0 by decide)
      have bp284043' : gB p284043 0 0 := gB_t0 r284123
      refine G_aload_n 2 dr_cX17_stand_41 rfl ?_
      have fq284124 : fI (F284040 q284042) 5 = p284102 := by rw [he284096]; rfl
      refine Gw_callV (As := []) (gV_ok D I) (cp_222403_Row_usesA l hl0 D I P284039 F284040 q284042 p284097 p284098 p284099 p284100 p284101 p284102 p284103 hm284095 he284096 bp284097 bp284098 bp284101 bp284102 bp284103) dr_cX17_stand_42 ⟨wr_10_192, wr_1_39, wr_10_195, by decide, rfl, (Nat.le_of_ble_eq_true rfl), (Nat.le_of_ble_eq_true rfl)⟩ wr_10_193 wr_10_194 hm284095 he284096 rfl (show 0 + 0 ≤ 0 by first | omega | decide) (show 0 + 0 ≤ 0 by first | omega | decide) (Nat.le_of_ble_eq_true rfl) (fun r284128 w284129 dc284125 ds284126 hp284127 => ?_) (fun _ _ _ _ _ z => z.elim)
      obtain ⟨o284130, rfl, rfl, hdc, hds, bo284130, x284131, ht284132⟩ := hp284127
      change G _ _ _ _ _ _ _ (.int o284130 :: _) _ _ _
      refine G_widen (cs' := 0) (sl' := 0) (by omega) (by omega) ?_
      refine G_if_eq 58 dr_cX17_stand_45 (by decide +kernel) (fun hc284133 => ?_) (fun hc284133 => ?_)
      · have r284134 : o284130.toInt = 0 := gj_eq hc284133 (show Int32.toInt 0 = 0 by decide)
        have bo284130' : gB o284130 0 0 := gB_t0 r284134
        refine G_aload_n 2 dr_cX17_stand_58 rfl ?_
        have fq284135 : fI (F284040 q284042) 6 = p284103 := by rw [he284096]; rfl
        refine Gw_callV (As := []) (gV_ok D I) (cp_222427_Row_usesB l hl0 D I P284039 F284040 q284042 p284097 p284098 p284099 p284100 p284101 p284102 p284103 hm284095 he284096 bp284097 bp284098 bp284101 bp284102 bp284103) dr_cX17_stand_59 ⟨wr_10_196, wr_1_39, wr_10_199, by decide, rfl, (Nat.le_of_ble_eq_true rfl), (Nat.le_of_ble_eq_true rfl)⟩ wr_10_197 wr_10_198 hm284095 he284096 rfl (show 0 + 0 ≤ 0 by first | omega | decide) (show 0 + 0 ≤ 0 by first | omega | decide) (Nat.le_of_ble_eq_true rfl) (fun r284139 w284140 dc284136 ds284137 hp284138 => ?_) (fun _ _ _ _ _ z => z.elim)
        obtain ⟨o284141, rfl, rfl, hdc, hds, bo284141, x284142, ht284143⟩ := hp284138
        change G _ _ _ _ _ _ _ (.int o284141 :: _) _ _ _
        refine G_widen (cs' := 0) (sl' := 0) (by omega) (by omega) ?_
        refine G_if_eq 75 dr_cX17_stand_62 (by decide +kernel) (fun hc284144 => ?_) (fun hc284144 => ?_)
        · have r284145 : o284141.toInt = 0 := gj_eq hc284144 (show Int32.toInt 0 = 0 by decide)
          have bo284141' : gB o284141 0 0 := gB_t0 r284145
          exact G_vretA dr_cX17_stand_75 rfl (Nat.le_of_ble_eq_true rfl) (Nat.le_of_ble_eq_true rfl) ⟨F284040, rfl, rfl, hT, (rStr_rf (γ := γ) (W := []) (F := F284040)), (Nat.le_of_ble_eq_true rfl), (Nat.le_of_ble_eq_true rfl), (fun _ n => by rw [cB_of he284093, nmS_of he284096]; exact nm_fin false false false (decide_eq_false (show ¬ (p284097.toInt ≤ 21) by omega)) (decide_eq_false (show ¬ (p284097.toInt ≠ 20 ∧ p284097.toInt ≠ 21 ∧ p284097.toInt ≠ 30 ∧ p284102.toInt = 1) by omega)) (decide_eq_false (show ¬ (0 < p284097.toInt ∧ p284097.toInt < 20 ∧ p284103.toInt = 1) by omega)) (by simp)), rfl, (fun R c1 c2 c3 c4 c5 c6 c7 c8 c9 c10 c11 c12 => c1 p284097 p284098 p284101 o284117 p284102 o284130 p284103 o284141 fq284109 fq284110 fq284111 bo284117 ht284119 r284121 r284123 fq284124 bo284130 ht284132 r284134 fq284135 bo284141 ht284143 r284145)⟩
        · have r284146 : o284141.toInt ≠ 0 := gj_neq hc284144 (show Int32.toInt 0 = 0 by decide)
          have bo284141' : gB o284141 1 1 := gB_t1 bo284141 r284146
          refine G_aload_n 1 dr_cX17_stand_65 rfl ?_
          have fq284147 : fR (F284040 q284041) 3 = (γ 9 3) := by rw [he284046]; rfl
          refine Gp_get 3 hm284045 he284046 dr_cX17_stand_66 (gk_X17 D I) (Nat.le_of_ble_eq_true rfl) wr_7_77 rfl ?_
          refine G_aload_n 2 dr_cX17_stand_69 rfl ?_
          have fq284148 : fI (F284040 q284042) 3 = p284100 := by rw [he284096]; rfl
          refine Gp_get 3 hm284095 he284096 dr_cX17_stand_70 (gk_X15 D I) (Nat.le_of_ble_eq_true rfl) wr_9_190 rfl ?_
          refine G_iconst 1 dr_cX17_stand_73 (by decide +kernel) ?_
          refine Gp_zast 3 hm284092 he284093 dr_cX17_stand_74 rfl (gB_inr (by omega) (by omega)) (fun F284149 e284150 n284151 => ?_)
          obtain ⟨f284152, hf284152⟩ : ∃ z, z = upd f284094 p284100.toNatClampNeg (vp_nar .boolean 1) := ⟨_, rfl⟩
          rw [← hf284152] at e284150
          have he284153 : F284149 q284041 = .inr (22, [.ref (γ 9 0), .ref (γ 9 1), .ref (γ 9 2), .ref (γ 9 3), .ref (γ 9 4), .ref (γ 9 5), .ref (γ 9 6), .ref (γ 9 7), .ref (γ 9 8), .int p284049, .int p284050, .int p284051, .int p284052, .int p284053, .int p284054, .ref (γ 9 15), .ref (γ 9 16), .ref (γ 9 17), .ref (γ 9 18), .ref (γ 9 19), .ref (γ 9 20), .ref (γ 9 21), .ref (γ 9 22), .int p284055, .int p284056, .int p284057, .int p284058, .int p284059, .ref q284047, .ref (γ 9 29), .int p284060, .ref (γ 9 31), .int p284061, .int p284062, .int p284063, .ref q284048]) := (n284151 q284041 (rn_oa he284046 he284093)).trans he284046
          have he284154 : F284149 q284042 = .inr (20, [.int p284097, .int p284098, .int p284099, .int p284100, .int p284101, .int p284102, .int p284103]) := (n284151 q284042 (rn_oa he284096 he284093)).trans he284096
          have he284155 : F284149 (γ 9 3) = .inl (I .boolean, 2000, .inl f284152) := e284150
          have hs284156 : rStr γ [] F284040 F284149 := rStr_put (rStr_rf (γ := γ) (W := []) (F := F284040)) n284151 ht284069 (by decide)
          have kp284157 : F284149 q284041 = F284040 q284041 := n284151 q284041 (rn_ty htq284041 ht284069 (by decide))
          have bf284152 : gF f284152 0 1 := gF_upd hf284152 bf284094 (gB_w (gBl (show Int32.toInt 1 = 1 by decide)) (by decide) (by decide))
          have hT284158 : RS D I P284039 F284149 γ el := RS_set hT n284151 ht284069 (by decide) ⟨f284152, he284155, bf284152⟩
          exact G_vretA dr_cX17_stand_75 rfl (Nat.le_of_ble_eq_true rfl) (Nat.le_of_ble_eq_true rfl) ⟨F284149, rfl, rfl, hT284158, hs284156, (Nat.le_of_ble_eq_true rfl), (Nat.le_of_ble_eq_true rfl), (fun _ n => by rw [cB_of he284155, cB_of he284093, nmS_of he284096]; exact nm_fin false false true (decide_eq_false (show ¬ (p284097.toInt ≤ 21) by omega)) (decide_eq_false (show ¬ (p284097.toInt ≠ 20 ∧ p284097.toInt ≠ 21 ∧ p284097.toInt ≠ 30 ∧ p284102.toInt = 1) by omega)) (decide_eq_true (show (0 < p284097.toInt ∧ p284097.toInt < 20 ∧ p284103.toInt = 1) by omega)) (by rw [sd_u hf284152 (by omega) (by omega)]; simp)), kp284157, (fun R c1 c2 c3 c4 c5 c6 c7 c8 c9 c10 c11 c12 => c2 p284097 p284098 p284101 o284117 p284102 o284130 p284103 o284141 p284100 f284094 f284152 F284149 fq284109 fq284110 fq284111 bo284117 ht284119 r284121 r284123 fq284124 bo284130 ht284132 r284134 fq284135 bo284141 ht284143 r284146 fq284147 fq284148 he284093 hf284152 n284151 he284155)⟩
      · have r284159 : o284130.toInt ≠ 0 := gj_neq hc284133 (show Int32.toInt 0 = 0 by decide)
        have bo284130' : gB o284130 1 1 := gB_t1 bo284130 r284159
        refine G_aload_n 1 dr_cX17_stand_48 rfl ?_
        have fq284160 : fR (F284040 q284041) 3 = (γ 9 3) := by rw [he284046]; rfl
        refine Gp_get 3 hm284045 he284046 dr_cX17_stand_49 (gk_X17 D I) (Nat.le_of_ble_eq_true rfl) wr_7_77 rfl ?_
        refine G_aload_n 2 dr_cX17_stand_52 rfl ?_
        have fq284161 : fI (F284040 q284042) 2 = p284099 := by rw [he284096]; rfl
        refine Gp_get 2 hm284095 he284096 dr_cX17_stand_53 (gk_X15 D I) (Nat.le_of_ble_eq_true rfl) wr_9_186 rfl ?_
        refine G_iconst 1 dr_cX17_stand_56 (by decide +kernel) ?_
        refine Gp_zast 3 hm284092 he284093 dr_cX17_stand_57 rfl (gB_inr (by omega) (by omega)) (fun F284162 e284163 n284164 => ?_)
        obtain ⟨f284165, hf284165⟩ : ∃ z, z = upd f284094 p284099.toNatClampNeg (vp_nar .boolean 1) := ⟨_, rfl⟩
        rw [← hf284165] at e284163
        have he284166 : F284162 q284041 = .inr (22, [.ref (γ 9 0), .ref (γ 9 1), .ref (γ 9 2), .ref (γ 9 3), .ref (γ 9 4), .ref (γ 9 5), .ref (γ 9 6), .ref (γ 9 7), .ref (γ 9 8), .int p284049, .int p284050, .int p284051, .int p284052, .int p284053, .int p284054, .ref (γ 9 15), .ref (γ 9 16), .ref (γ 9 17), .ref (γ 9 18), .ref (γ 9 19), .ref (γ 9 20), .ref (γ 9 21), .ref (γ 9 22), .int p284055, .int p284056, .int p284057, .int p284058, .int p284059, .ref q284047, .ref (γ 9 29), .int p284060, .ref (γ 9 31), .int p284061, .int p284062, .int p284063, .ref q284048]) := (n284164 q284041 (rn_oa he284046 he284093)).trans he284046
        have he284167 : F284162 q284042 = .inr (20, [.int p284097, .int p284098, .int p284099, .int p284100, .int p284101, .int p284102, .int p284103]) := (n284164 q284042 (rn_oa he284096 he284093)).trans he284096
        have he284168 : F284162 (γ 9 3) = .inl (I .boolean, 2000, .inl f284165) := e284163
        have hs284169 : rStr γ [] F284040 F284162 := rStr_put (rStr_rf (γ := γ) (W := []) (F := F284040)) n284164 ht284069 (by decide)
        have kp284170 : F284162 q284041 = F284040 q284041 := n284164 q284041 (rn_ty htq284041 ht284069 (by decide))
        have bf284165 : gF f284165 0 1 := gF_upd hf284165 bf284094 (gB_w (gBl (show Int32.toInt 1 = 1 by decide)) (by decide) (by decide))
        refine G_aload_n 2 dr_cX17_stand_58 rfl ?_
        have hT284171 : RS D I P284039 F284162 γ el := RS_set hT n284164 ht284069 (by decide) ⟨f284165, he284168, bf284165⟩
        have fq284172 : fI (F284162 q284042) 0 = p284097 := by rw [he284167]; rfl
        have fq284173 : fI (F284162 q284042) 6 = p284103 := by rw [he284167]; rfl
        refine Gw_callV (As := []) (gV_ok D I) (cp_222427_Row_usesB l hl0 D I P284039 F284162 q284042 p284097 p284098 p284099 p284100 p284101 p284102 p284103 hm284095 he284167 bp284097 bp284098 bp284101 bp284102 bp284103) dr_cX17_stand_59 ⟨wr_10_196, wr_1_39, wr_10_199, by decide, rfl, (Nat.le_of_ble_eq_true rfl), (Nat.le_of_ble_eq_true rfl)⟩ wr_10_197 wr_10_198 hm284095 he284167 rfl (show 0 + 0 ≤ 0 by first | omega | decide) (show 0 + 0 ≤ 0 by first | omega | decide) (Nat.le_of_ble_eq_true rfl) (fun r284177 w284178 dc284174 ds284175 hp284176 => ?_) (fun _ _ _ _ _ z => z.elim)
        obtain ⟨o284179, rfl, rfl, hdc, hds, bo284179, x284180, ht284181⟩ := hp284176
        change G _ _ _ _ _ _ _ (.int o284179 :: _) _ _ _
        refine G_widen (cs' := 0) (sl' := 0) (by omega) (by omega) ?_
        refine G_if_eq 75 dr_cX17_stand_62 (by decide +kernel) (fun hc284182 => ?_) (fun hc284182 => ?_)
        · have r284183 : o284179.toInt = 0 := gj_eq hc284182 (show Int32.toInt 0 = 0 by decide)
          have bo284179' : gB o284179 0 0 := gB_t0 r284183
          exact G_vretA dr_cX17_stand_75 rfl (Nat.le_of_ble_eq_true rfl) (Nat.le_of_ble_eq_true rfl) ⟨F284162, rfl, rfl, hT284171, hs284169, (Nat.le_of_ble_eq_true rfl), (Nat.le_of_ble_eq_true rfl), (fun _ n => by rw [cB_of he284168, cB_of he284093, nmS_of he284096]; exact nm_fin false true false (decide_eq_false (show ¬ (p284097.toInt ≤ 21) by omega)) (decide_eq_true (show (p284097.toInt ≠ 20 ∧ p284097.toInt ≠ 21 ∧ p284097.toInt ≠ 30 ∧ p284102.toInt = 1) by omega)) (decide_eq_false (show ¬ (0 < p284097.toInt ∧ p284097.toInt < 20 ∧ p284103.toInt = 1) by omega)) (by rw [sd_u hf284165 (by omega) (by omega)]; simp)), kp284170, (fun R c1 c2 c3 c4 c5 c6 c7 c8 c9 c10 c11 c12 => c3 p284097 p284098 p284101 o284117 p284102 o284130 p284099 f284094 f284165 F284162 p284103 o284179 fq284109 fq284110 fq284111 bo284117 ht284119 r284121 r284123 fq284124 bo284130 ht284132 r284159 fq284160 fq284161 he284093 hf284165 n284164 he284168 fq284172 fq284173 bo284179 ht284181 r284183)⟩
        · have r284184 : o284179.toInt ≠ 0 := gj_neq hc284182 (show Int32.toInt 0 = 0 by decide)
          have bo284179' : gB o284179 1 1 := gB_t1 bo284179 r284184
          refine G_aload_n 1 dr_cX17_stand_65 rfl ?_
          have fq284185 : fR (F284162 q284041) 3 = (γ 9 3) := by rw [he284166]; rfl
          refine Gp_get 3 hm284045 he284166 dr_cX17_stand_66 (gk_X17 D I) (Nat.le_of_ble_eq_true rfl) wr_7_77 rfl ?_
          refine G_aload_n 2 dr_cX17_stand_69 rfl ?_
          have fq284186 : fI (F284162 q284042) 3 = p284100 := by rw [he284167]; rfl
          refine Gp_get 3 hm284095 he284167 dr_cX17_stand_70 (gk_X15 D I) (Nat.le_of_ble_eq_true rfl) wr_9_190 rfl ?_
          refine G_iconst 1 dr_cX17_stand_73 (by decide +kernel) ?_
          refine Gp_zast 3 hm284092 he284168 dr_cX17_stand_74 rfl (gB_inr (by omega) (by omega)) (fun F284187 e284188 n284189 => ?_)
          obtain ⟨f284190, hf284190⟩ : ∃ z, z = upd f284165 p284100.toNatClampNeg (vp_nar .boolean 1) := ⟨_, rfl⟩
          rw [← hf284190] at e284188
          have he284191 : F284187 q284041 = .inr (22, [.ref (γ 9 0), .ref (γ 9 1), .ref (γ 9 2), .ref (γ 9 3), .ref (γ 9 4), .ref (γ 9 5), .ref (γ 9 6), .ref (γ 9 7), .ref (γ 9 8), .int p284049, .int p284050, .int p284051, .int p284052, .int p284053, .int p284054, .ref (γ 9 15), .ref (γ 9 16), .ref (γ 9 17), .ref (γ 9 18), .ref (γ 9 19), .ref (γ 9 20), .ref (γ 9 21), .ref (γ 9 22), .int p284055, .int p284056, .int p284057, .int p284058, .int p284059, .ref q284047, .ref (γ 9 29), .int p284060, .ref (γ 9 31), .int p284061, .int p284062, .int p284063, .ref q284048]) := (n284189 q284041 (rn_oa he284166 he284168)).trans he284166
          have he284192 : F284187 q284042 = .inr (20, [.int p284097, .int p284098, .int p284099, .int p284100, .int p284101, .int p284102, .int p284103]) := (n284189 q284042 (rn_oa he284167 he284168)).trans he284167
          have he284193 : F284187 (γ 9 3) = .inl (I .boolean, 2000, .inl f284190) := e284188
          have hs284194 : rStr γ [] F284040 F284187 := rStr_put hs284169 n284189 ht284069 (by decide)
          have kp284195 : F284187 q284041 = F284040 q284041 := (n284189 q284041 (rn_ty htq284041 ht284069 (by decide))).trans kp284170
          have bf284190 : gF f284190 0 1 := gF_upd hf284190 bf284165 (gB_w (gBl (show Int32.toInt 1 = 1 by decide)) (by decide) (by decide))
          have hT284196 : RS D I P284039 F284187 γ el := RS_set hT284171 n284189 ht284069 (by decide) ⟨f284190, he284193, bf284190⟩
          exact G_vretA dr_cX17_stand_75 rfl (Nat.le_of_ble_eq_true rfl) (Nat.le_of_ble_eq_true rfl) ⟨F284187, rfl, rfl, hT284196, hs284194, (Nat.le_of_ble_eq_true rfl), (Nat.le_of_ble_eq_true rfl), (fun _ n => by rw [cB_of he284193, cB_of he284093, nmS_of he284096]; exact nm_fin false true true (decide_eq_false (show ¬ (p284097.toInt ≤ 21) by omega)) (decide_eq_true (show (p284097.toInt ≠ 20 ∧ p284097.toInt ≠ 21 ∧ p284097.toInt ≠ 30 ∧ p284102.toInt = 1) by omega)) (decide_eq_true (show (0 < p284097.toInt ∧ p284097.toInt < 20 ∧ p284103.toInt = 1) by omega)) (by rw [sd_u hf284190 (by omega) (by omega), sd_u hf284165 (by omega) (by omega)]; simp)), kp284195, (fun R c1 c2 c3 c4 c5 c6 c7 c8 c9 c10 c11 c12 => c4 p284097 p284098 p284101 o284117 p284102 o284130 p284099 f284094 f284165 F284162 p284103 o284179 p284100 f284190 F284187 fq284109 fq284110 fq284111 bo284117 ht284119 r284121 r284123 fq284124 bo284130 ht284132 r284159 fq284160 fq284161 he284093 hf284165 n284164 he284168 fq284172 fq284173 bo284179 ht284181 r284184 fq284185 fq284186 he284168 hf284190 n284189 he284193)⟩
    · have r284197 : p284043.toInt ≠ 0 := gj_neq hc284122 (show Int32.toInt 0 = 0 by decide)
      have bp284043' : gB p284043 1 1 := gB_t1 bp284043 r284197
      refine G_aload_n 2 dr_cX17_stand_21 rfl ?_
      refine Gp_get 0 hm284095 he284096 dr_cX17_stand_22 (gk_X15 D I) (Nat.le_of_ble_eq_true rfl) wr_9_177 rfl ?_
      refine G_bipush 21 dr_cX17_stand_25 (by decide +kernel) ?_
      refine G_icmp_ne 40 dr_cX17_stand_27 (by decide +kernel) (fun hc284198 => ?_) (fun hc284198 => ?_)
      · have r284199 : p284097.toInt ≠ 21 := gj_neq hc284198 (show Int32.toInt 21 = 21 by decide)
        exact G_vretA dr_cX17_stand_40 rfl (Nat.le_of_ble_eq_true rfl) (Nat.le_of_ble_eq_true rfl) ⟨F284040, rfl, rfl, hT, (rStr_rf (γ := γ) (W := []) (F := F284040)), (Nat.le_of_ble_eq_true rfl), (Nat.le_of_ble_eq_true rfl), (fun h => absurd h (by omega)), rfl, (fun R c1 c2 c3 c4 c5 c6 c7 c8 c9 c10 c11 c12 => c5 p284097 p284098 p284101 o284117 fq284109 fq284110 fq284111 bo284117 ht284119 r284121 r284197 r284199)⟩
      · have r284200 : p284097.toInt = 21 := gj_eq hc284198 (show Int32.toInt 21 = 21 by decide)
        have bp284097' : gB p284097 21 21 := ⟨by omega, by omega⟩
        refine G_aload_n 1 dr_cX17_stand_30 rfl ?_
        have fq284201 : fR (F284040 q284041) 3 = (γ 9 3) := by rw [he284046]; rfl
        refine Gp_get 3 hm284045 he284046 dr_cX17_stand_31 (gk_X17 D I) (Nat.le_of_ble_eq_true rfl) wr_7_77 rfl ?_
        refine G_aload_n 2 dr_cX17_stand_34 rfl ?_
        refine Gp_get 4 hm284095 he284096 dr_cX17_stand_35 (gk_X15 D I) (Nat.le_of_ble_eq_true rfl) wr_9_193 rfl ?_
        refine G_iconst 1 dr_cX17_stand_38 (by decide +kernel) ?_
        refine Gp_zast 3 hm284092 he284093 dr_cX17_stand_39 rfl (gB_in bp284101 (by decide) (by decide)) (fun F284202 e284203 n284204 => ?_)
        obtain ⟨f284205, hf284205⟩ : ∃ z, z = upd f284094 p284101.toNatClampNeg (vp_nar .boolean 1) := ⟨_, rfl⟩
        rw [← hf284205] at e284203
        have he284206 : F284202 q284041 = .inr (22, [.ref (γ 9 0), .ref (γ 9 1), .ref (γ 9 2), .ref (γ 9 3), .ref (γ 9 4), .ref (γ 9 5), .ref (γ 9 6), .ref (γ 9 7), .ref (γ 9 8), .int p284049, .int p284050, .int p284051, .int p284052, .int p284053, .int p284054, .ref (γ 9 15), .ref (γ 9 16), .ref (γ 9 17), .ref (γ 9 18), .ref (γ 9 19), .ref (γ 9 20), .ref (γ 9 21), .ref (γ 9 22), .int p284055, .int p284056, .int p284057, .int p284058, .int p284059, .ref q284047, .ref (γ 9 29), .int p284060, .ref (γ 9 31), .int p284061, .int p284062, .int p284063, .ref q284048]) := (n284204 q284041 (rn_oa he284046 he284093)).trans he284046
        have he284207 : F284202 q284042 = .inr (20, [.int p284097, .int p284098, .int p284099, .int p284100, .int p284101, .int p284102, .int p284103]) := (n284204 q284042 (rn_oa he284096 he284093)).trans he284096
        have he284208 : F284202 (γ 9 3) = .inl (I .boolean, 2000, .inl f284205) := e284203
        have hs284209 : rStr γ [] F284040 F284202 := rStr_put (rStr_rf (γ := γ) (W := []) (F := F284040)) n284204 ht284069 (by decide)
        have kp284210 : F284202 q284041 = F284040 q284041 := n284204 q284041 (rn_ty htq284041 ht284069 (by decide))
        have bf284205 : gF f284205 0 1 := gF_upd hf284205 bf284094 (gB_w (gBl (show Int32.toInt 1 = 1 by decide)) (by decide) (by decide))
        have hT284211 : RS D I P284039 F284202 γ el := RS_set hT n284204 ht284069 (by decide) ⟨f284205, he284208, bf284205⟩
        exact G_vretA dr_cX17_stand_40 rfl (Nat.le_of_ble_eq_true rfl) (Nat.le_of_ble_eq_true rfl) ⟨F284202, rfl, rfl, hT284211, hs284209, (Nat.le_of_ble_eq_true rfl), (Nat.le_of_ble_eq_true rfl), (fun h => absurd h (by omega)), kp284210, (fun R c1 c2 c3 c4 c5 c6 c7 c8 c9 c10 c11 c12 => c6 p284097 p284098 p284101 o284117 f284094 f284205 F284202 fq284109 fq284110 fq284111 bo284117 ht284119 r284121 r284197 r284200 fq284201 he284093 hf284205 n284204 he284208)⟩
  · have r284212 : 0 ≤ o284117.toInt := gj_nlt hc284120 (show Int32.toInt 0 = 0 by decide)
    have bo284117' : gB o284117 0 1999 := ⟨by omega, by omega⟩
    refine G_aload_n 1 dr_cX17_stand_10 rfl ?_
    have fq284213 : fR (F284040 q284041) 3 = (γ 9 3) := by rw [he284046]; rfl
    refine Gp_get 3 hm284045 he284046 dr_cX17_stand_11 (gk_X17 D I) (Nat.le_of_ble_eq_true rfl) wr_7_77 rfl ?_
    refine G_iload_n 0 dr_cX17_stand_14 rfl ?_
    refine G_iconst 1 dr_cX17_stand_15 (by decide +kernel) ?_
    refine Gp_zast 3 hm284092 he284093 dr_cX17_stand_16 rfl (gB_in bo284117' (by decide) (by decide)) (fun F284214 e284215 n284216 => ?_)
    obtain ⟨f284217, hf284217⟩ : ∃ z, z = upd f284094 o284117.toNatClampNeg (vp_nar .boolean 1) := ⟨_, rfl⟩
    rw [← hf284217] at e284215
    have he284218 : F284214 q284041 = .inr (22, [.ref (γ 9 0), .ref (γ 9 1), .ref (γ 9 2), .ref (γ 9 3), .ref (γ 9 4), .ref (γ 9 5), .ref (γ 9 6), .ref (γ 9 7), .ref (γ 9 8), .int p284049, .int p284050, .int p284051, .int p284052, .int p284053, .int p284054, .ref (γ 9 15), .ref (γ 9 16), .ref (γ 9 17), .ref (γ 9 18), .ref (γ 9 19), .ref (γ 9 20), .ref (γ 9 21), .ref (γ 9 22), .int p284055, .int p284056, .int p284057, .int p284058, .int p284059, .ref q284047, .ref (γ 9 29), .int p284060, .ref (γ 9 31), .int p284061, .int p284062, .int p284063, .ref q284048]) := (n284216 q284041 (rn_oa he284046 he284093)).trans he284046
    have he284219 : F284214 q284042 = .inr (20, [.int p284097, .int p284098, .int p284099, .int p284100, .int p284101, .int p284102, .int p284103]) := (n284216 q284042 (rn_oa he284096 he284093)).trans he284096
    have he284220 : F284214 (γ 9 3) = .inl (I .boolean, 2000, .inl f284217) := e284215
    have hs284221 : rStr γ [] F284040 F284214 := rStr_put (rStr_rf (γ := γ) (W := []) (F := F284040)) n284216 ht284069 (by decide)
    have kp284222 : F284214 q284041 = F284040 q284041 := n284216 q284041 (rn_ty htq284041 ht284069 (by decide))
    have bf284217 : gF f284217 0 1 := gF_upd hf284217 bf284094 (gB_w (gBl (show Int32.toInt 1 = 1 by decide)) (by decide) (by decide))
    refine G_iload_n 3 dr_cX17_stand_17 rfl ?_
    refine G_if_eq 41 dr_cX17_stand_18 (by decide +kernel) (fun hc284223 => ?_) (fun hc284223 => ?_)
    · have r284224 : p284043.toInt = 0 := gj_eq hc284223 (show Int32.toInt 0 = 0 by decide)
      have bp284043' : gB p284043 0 0 := gB_t0 r284224
      refine G_aload_n 2 dr_cX17_stand_41 rfl ?_
      have hT284225 : RS D I P284039 F284214 γ el := RS_set hT n284216 ht284069 (by decide) ⟨f284217, he284220, bf284217⟩
      have fq284226 : fI (F284214 q284042) 0 = p284097 := by rw [he284219]; rfl
      have fq284227 : fI (F284214 q284042) 5 = p284102 := by rw [he284219]; rfl
      refine Gw_callV (As := []) (gV_ok D I) (cp_222403_Row_usesA l hl0 D I P284039 F284214 q284042 p284097 p284098 p284099 p284100 p284101 p284102 p284103 hm284095 he284219 bp284097 bp284098 bp284101 bp284102 bp284103) dr_cX17_stand_42 ⟨wr_10_192, wr_1_39, wr_10_195, by decide, rfl, (Nat.le_of_ble_eq_true rfl), (Nat.le_of_ble_eq_true rfl)⟩ wr_10_193 wr_10_194 hm284095 he284219 rfl (show 0 + 0 ≤ 0 by first | omega | decide) (show 0 + 0 ≤ 0 by first | omega | decide) (Nat.le_of_ble_eq_true rfl) (fun r284231 w284232 dc284228 ds284229 hp284230 => ?_) (fun _ _ _ _ _ z => z.elim)
      obtain ⟨o284233, rfl, rfl, hdc, hds, bo284233, x284234, ht284235⟩ := hp284230
      change G _ _ _ _ _ _ _ (.int o284233 :: _) _ _ _
      refine G_widen (cs' := 0) (sl' := 0) (by omega) (by omega) ?_
      refine G_if_eq 58 dr_cX17_stand_45 (by decide +kernel) (fun hc284236 => ?_) (fun hc284236 => ?_)
      · have r284237 : o284233.toInt = 0 := gj_eq hc284236 (show Int32.toInt 0 = 0 by decide)
        have bo284233' : gB o284233 0 0 := gB_t0 r284237
        refine G_aload_n 2 dr_cX17_stand_58 rfl ?_
        have fq284238 : fI (F284214 q284042) 6 = p284103 := by rw [he284219]; rfl
        refine Gw_callV (As := []) (gV_ok D I) (cp_222427_Row_usesB l hl0 D I P284039 F284214 q284042 p284097 p284098 p284099 p284100 p284101 p284102 p284103 hm284095 he284219 bp284097 bp284098 bp284101 bp284102 bp284103) dr_cX17_stand_59 ⟨wr_10_196, wr_1_39, wr_10_199, by decide, rfl, (Nat.le_of_ble_eq_true rfl), (Nat.le_of_ble_eq_true rfl)⟩ wr_10_197 wr_10_198 hm284095 he284219 rfl (show 0 + 0 ≤ 0 by first | omega | decide) (show 0 + 0 ≤ 0 by first | omega | decide) (Nat.le_of_ble_eq_true rfl) (fun r284242 w284243 dc284239 ds284240 hp284241 => ?_) (fun _ _ _ _ _ z => z.elim)
        obtain ⟨o284244, rfl, rfl, hdc, hds, bo284244, x284245, ht284246⟩ := hp284241
        change G _ _ _ _ _ _ _ (.int o284244 :: _) _ _ _
        refine G_widen (cs' := 0) (sl' := 0) (by omega) (by omega) ?_
        refine G_if_eq 75 dr_cX17_stand_62 (by decide +kernel) (fun hc284247 => ?_) (fun hc284247 => ?_)
        · have r284248 : o284244.toInt = 0 := gj_eq hc284247 (show Int32.toInt 0 = 0 by decide)
          have bo284244' : gB o284244 0 0 := gB_t0 r284248
          exact G_vretA dr_cX17_stand_75 rfl (Nat.le_of_ble_eq_true rfl) (Nat.le_of_ble_eq_true rfl) ⟨F284214, rfl, rfl, hT284225, hs284221, (Nat.le_of_ble_eq_true rfl), (Nat.le_of_ble_eq_true rfl), (fun _ n => by rw [cB_of he284220, cB_of he284093, nmS_of he284096]; exact nm_fin true false false (decide_eq_true (show (p284097.toInt ≤ 21) by omega)) (decide_eq_false (show ¬ (p284097.toInt ≠ 20 ∧ p284097.toInt ≠ 21 ∧ p284097.toInt ≠ 30 ∧ p284102.toInt = 1) by omega)) (decide_eq_false (show ¬ (0 < p284097.toInt ∧ p284097.toInt < 20 ∧ p284103.toInt = 1) by omega)) (by rw [sd_u hf284217 (by omega) (by omega), show o284117.toInt = p284098.toInt by omega]; simp)), kp284222, (fun R c1 c2 c3 c4 c5 c6 c7 c8 c9 c10 c11 c12 => c7 p284097 p284098 p284101 o284117 f284094 f284217 F284214 p284102 o284233 p284103 o284244 fq284109 fq284110 fq284111 bo284117 ht284119 r284212 fq284213 he284093 hf284217 n284216 he284220 r284224 fq284226 fq284227 bo284233 ht284235 r284237 fq284238 bo284244 ht284246 r284248)⟩
        · have r284249 : o284244.toInt ≠ 0 := gj_neq hc284247 (show Int32.toInt 0 = 0 by decide)
          have bo284244' : gB o284244 1 1 := gB_t1 bo284244 r284249
          refine G_aload_n 1 dr_cX17_stand_65 rfl ?_
          have fq284250 : fR (F284214 q284041) 3 = (γ 9 3) := by rw [he284218]; rfl
          refine Gp_get 3 hm284045 he284218 dr_cX17_stand_66 (gk_X17 D I) (Nat.le_of_ble_eq_true rfl) wr_7_77 rfl ?_
          refine G_aload_n 2 dr_cX17_stand_69 rfl ?_
          have fq284251 : fI (F284214 q284042) 3 = p284100 := by rw [he284219]; rfl
          refine Gp_get 3 hm284095 he284219 dr_cX17_stand_70 (gk_X15 D I) (Nat.le_of_ble_eq_true rfl) wr_9_190 rfl ?_
          refine G_iconst 1 dr_cX17_stand_73 (by decide +kernel) ?_
          refine Gp_zast 3 hm284092 he284220 dr_cX17_stand_74 rfl (gB_inr (by omega) (by omega)) (fun F284252 e284253 n284254 => ?_)
          obtain ⟨f284255, hf284255⟩ : ∃ z, z = upd f284217 p284100.toNatClampNeg (vp_nar .boolean 1) := ⟨_, rfl⟩
          rw [← hf284255] at e284253
          have he284256 : F284252 q284041 = .inr (22, [.ref (γ 9 0), .ref (γ 9 1), .ref (γ 9 2), .ref (γ 9 3), .ref (γ 9 4), .ref (γ 9 5), .ref (γ 9 6), .ref (γ 9 7), .ref (γ 9 8), .int p284049, .int p284050, .int p284051, .int p284052, .int p284053, .int p284054, .ref (γ 9 15), .ref (γ 9 16), .ref (γ 9 17), .ref (γ 9 18), .ref (γ 9 19), .ref (γ 9 20), .ref (γ 9 21), .ref (γ 9 22), .int p284055, .int p284056, .int p284057, .int p284058, .int p284059, .ref q284047, .ref (γ 9 29), .int p284060, .ref (γ 9 31), .int p284061, .int p284062, .int p284063, .ref q284048]) := (n284254 q284041 (rn_oa he284218 he284220)).trans he284218
          have he284257 : F284252 q284042 = .inr (20, [.int p284097, .int p284098, .int p284099, .int p284100, .int p284101, .int p284102, .int p284103]) := (n284254 q284042 (rn_oa he284219 he284220)).trans he284219
          have he284258 : F284252 (γ 9 3) = .inl (I .boolean, 2000, .inl f284255) := e284253
          have hs284259 : rStr γ [] F284040 F284252 := rStr_put hs284221 n284254 ht284069 (by decide)
          have kp284260 : F284252 q284041 = F284040 q284041 := (n284254 q284041 (rn_ty htq284041 ht284069 (by decide))).trans kp284222
          have bf284255 : gF f284255 0 1 := gF_upd hf284255 bf284217 (gB_w (gBl (show Int32.toInt 1 = 1 by decide)) (by decide) (by decide))
          have hT284261 : RS D I P284039 F284252 γ el := RS_set hT284225 n284254 ht284069 (by decide) ⟨f284255, he284258, bf284255⟩
          exact G_vretA dr_cX17_stand_75 rfl (Nat.le_of_ble_eq_true rfl) (Nat.le_of_ble_eq_true rfl) ⟨F284252, rfl, rfl, hT284261, hs284259, (Nat.le_of_ble_eq_true rfl), (Nat.le_of_ble_eq_true rfl), (fun _ n => by rw [cB_of he284258, cB_of he284093, nmS_of he284096]; exact nm_fin true false true (decide_eq_true (show (p284097.toInt ≤ 21) by omega)) (decide_eq_false (show ¬ (p284097.toInt ≠ 20 ∧ p284097.toInt ≠ 21 ∧ p284097.toInt ≠ 30 ∧ p284102.toInt = 1) by omega)) (decide_eq_true (show (0 < p284097.toInt ∧ p284097.toInt < 20 ∧ p284103.toInt = 1) by omega)) (by rw [sd_u hf284255 (by omega) (by omega), sd_u hf284217 (by omega) (by omega), show o284117.toInt = p284098.toInt by omega]; simp)), kp284260, (fun R c1 c2 c3 c4 c5 c6 c7 c8 c9 c10 c11 c12 => c8 p284097 p284098 p284101 o284117 f284094 f284217 F284214 p284102 o284233 p284103 o284244 p284100 f284255 F284252 fq284109 fq284110 fq284111 bo284117 ht284119 r284212 fq284213 he284093 hf284217 n284216 he284220 r284224 fq284226 fq284227 bo284233 ht284235 r284237 fq284238 bo284244 ht284246 r284249 fq284250 fq284251 he284220 hf284255 n284254 he284258)⟩
      · have r284262 : o284233.toInt ≠ 0 := gj_neq hc284236 (show Int32.toInt 0 = 0 by decide)
        have bo284233' : gB o284233 1 1 := gB_t1 bo284233 r284262
        refine G_aload_n 1 dr_cX17_stand_48 rfl ?_
        have fq284263 : fR (F284214 q284041) 3 = (γ 9 3) := by rw [he284218]; rfl
        refine Gp_get 3 hm284045 he284218 dr_cX17_stand_49 (gk_X17 D I) (Nat.le_of_ble_eq_true rfl) wr_7_77 rfl ?_
        refine G_aload_n 2 dr_cX17_stand_52 rfl ?_
        have fq284264 : fI (F284214 q284042) 2 = p284099 := by rw [he284219]; rfl
        refine Gp_get 2 hm284095 he284219 dr_cX17_stand_53 (gk_X15 D I) (Nat.le_of_ble_eq_true rfl) wr_9_186 rfl ?_
        refine G_iconst 1 dr_cX17_stand_56 (by decide +kernel) ?_
        refine Gp_zast 3 hm284092 he284220 dr_cX17_stand_57 rfl (gB_inr (by omega) (by omega)) (fun F284265 e284266 n284267 => ?_)
        obtain ⟨f284268, hf284268⟩ : ∃ z, z = upd f284217 p284099.toNatClampNeg (vp_nar .boolean 1) := ⟨_, rfl⟩
        rw [← hf284268] at e284266
        have he284269 : F284265 q284041 = .inr (22, [.ref (γ 9 0), .ref (γ 9 1), .ref (γ 9 2), .ref (γ 9 3), .ref (γ 9 4), .ref (γ 9 5), .ref (γ 9 6), .ref (γ 9 7), .ref (γ 9 8), .int p284049, .int p284050, .int p284051, .int p284052, .int p284053, .int p284054, .ref (γ 9 15), .ref (γ 9 16), .ref (γ 9 17), .ref (γ 9 18), .ref (γ 9 19), .ref (γ 9 20), .ref (γ 9 21), .ref (γ 9 22), .int p284055, .int p284056, .int p284057, .int p284058, .int p284059, .ref q284047, .ref (γ 9 29), .int p284060, .ref (γ 9 31), .int p284061, .int p284062, .int p284063, .ref q284048]) := (n284267 q284041 (rn_oa he284218 he284220)).trans he284218
        have he284270 : F284265 q284042 = .inr (20, [.int p284097, .int p284098, .int p284099, .int p284100, .int p284101, .int p284102, .int p284103]) := (n284267 q284042 (rn_oa he284219 he284220)).trans he284219
        have he284271 : F284265 (γ 9 3) = .inl (I .boolean, 2000, .inl f284268) := e284266
        have hs284272 : rStr γ [] F284040 F284265 := rStr_put hs284221 n284267 ht284069 (by decide)
        have kp284273 : F284265 q284041 = F284040 q284041 := (n284267 q284041 (rn_ty htq284041 ht284069 (by decide))).trans kp284222
        have bf284268 : gF f284268 0 1 := gF_upd hf284268 bf284217 (gB_w (gBl (show Int32.toInt 1 = 1 by decide)) (by decide) (by decide))
        refine G_aload_n 2 dr_cX17_stand_58 rfl ?_
        have hT284274 : RS D I P284039 F284265 γ el := RS_set hT284225 n284267 ht284069 (by decide) ⟨f284268, he284271, bf284268⟩
        have fq284275 : fI (F284265 q284042) 0 = p284097 := by rw [he284270]; rfl
        have fq284276 : fI (F284265 q284042) 6 = p284103 := by rw [he284270]; rfl
        refine Gw_callV (As := []) (gV_ok D I) (cp_222427_Row_usesB l hl0 D I P284039 F284265 q284042 p284097 p284098 p284099 p284100 p284101 p284102 p284103 hm284095 he284270 bp284097 bp284098 bp284101 bp284102 bp284103) dr_cX17_stand_59 ⟨wr_10_196, wr_1_39, wr_10_199, by decide, rfl, (Nat.le_of_ble_eq_true rfl), (Nat.le_of_ble_eq_true rfl)⟩ wr_10_197 wr_10_198 hm284095 he284270 rfl (show 0 + 0 ≤ 0 by first | omega | decide) (show 0 + 0 ≤ 0 by first | omega | decide) (Nat.le_of_ble_eq_true rfl) (fun r284280 w284281 dc284277 ds284278 hp284279 => ?_) (fun _ _ _ _ _ z => z.elim)
        obtain ⟨o284282, rfl, rfl, hdc, hds, bo284282, x284283, ht284284⟩ := hp284279
        change G _ _ _ _ _ _ _ (.int o284282 :: _) _ _ _
        refine G_widen (cs' := 0) (sl' := 0) (by omega) (by omega) ?_
        refine G_if_eq 75 dr_cX17_stand_62 (by decide +kernel) (fun hc284285 => ?_) (fun hc284285 => ?_)
        · have r284286 : o284282.toInt = 0 := gj_eq hc284285 (show Int32.toInt 0 = 0 by decide)
          have bo284282' : gB o284282 0 0 := gB_t0 r284286
          exact G_vretA dr_cX17_stand_75 rfl (Nat.le_of_ble_eq_true rfl) (Nat.le_of_ble_eq_true rfl) ⟨F284265, rfl, rfl, hT284274, hs284272, (Nat.le_of_ble_eq_true rfl), (Nat.le_of_ble_eq_true rfl), (fun _ n => by rw [cB_of he284271, cB_of he284093, nmS_of he284096]; exact nm_fin true true false (decide_eq_true (show (p284097.toInt ≤ 21) by omega)) (decide_eq_true (show (p284097.toInt ≠ 20 ∧ p284097.toInt ≠ 21 ∧ p284097.toInt ≠ 30 ∧ p284102.toInt = 1) by omega)) (decide_eq_false (show ¬ (0 < p284097.toInt ∧ p284097.toInt < 20 ∧ p284103.toInt = 1) by omega)) (by rw [sd_u hf284268 (by omega) (by omega), sd_u hf284217 (by omega) (by omega), show o284117.toInt = p284098.toInt by omega]; simp)), kp284273, (fun R c1 c2 c3 c4 c5 c6 c7 c8 c9 c10 c11 c12 => c9 p284097 p284098 p284101 o284117 f284094 f284217 F284214 p284102 o284233 p284099 f284268 F284265 p284103 o284282 fq284109 fq284110 fq284111 bo284117 ht284119 r284212 fq284213 he284093 hf284217 n284216 he284220 r284224 fq284226 fq284227 bo284233 ht284235 r284262 fq284263 fq284264 he284220 hf284268 n284267 he284271 fq284275 fq284276 bo284282 ht284284 r284286)⟩
        · have r284287 : o284282.toInt ≠ 0 := gj_neq hc284285 (show Int32.toInt 0 = 0 by decide)
          have bo284282' : gB o284282 1 1 := gB_t1 bo284282 r284287
          refine G_aload_n 1 dr_cX17_stand_65 rfl ?_
          have fq284288 : fR (F284265 q284041) 3 = (γ 9 3) := by rw [he284269]; rfl
          refine Gp_get 3 hm284045 he284269 dr_cX17_stand_66 (gk_X17 D I) (Nat.le_of_ble_eq_true rfl) wr_7_77 rfl ?_
          refine G_aload_n 2 dr_cX17_stand_69 rfl ?_
          have fq284289 : fI (F284265 q284042) 3 = p284100 := by rw [he284270]; rfl
          refine Gp_get 3 hm284095 he284270 dr_cX17_stand_70 (gk_X15 D I) (Nat.le_of_ble_eq_true rfl) wr_9_190 rfl ?_
          refine G_iconst 1 dr_cX17_stand_73 (by decide +kernel) ?_
          refine Gp_zast 3 hm284092 he284271 dr_cX17_stand_74 rfl (gB_inr (by omega) (by omega)) (fun F284290 e284291 n284292 => ?_)
          obtain ⟨f284293, hf284293⟩ : ∃ z, z = upd f284268 p284100.toNatClampNeg (vp_nar .boolean 1) := ⟨_, rfl⟩
          rw [← hf284293] at e284291
          have he284294 : F284290 q284041 = .inr (22, [.ref (γ 9 0), .ref (γ 9 1), .ref (γ 9 2), .ref (γ 9 3), .ref (γ 9 4), .ref (γ 9 5), .ref (γ 9 6), .ref (γ 9 7), .ref (γ 9 8), .int p284049, .int p284050, .int p284051, .int p284052, .int p284053, .int p284054, .ref (γ 9 15), .ref (γ 9 16), .ref (γ 9 17), .ref (γ 9 18), .ref (γ 9 19), .ref (γ 9 20), .ref (γ 9 21), .ref (γ 9 22), .int p284055, .int p284056, .int p284057, .int p284058, .int p284059, .ref q284047, .ref (γ 9 29), .int p284060, .ref (γ 9 31), .int p284061, .int p284062, .int p284063, .ref q284048]) := (n284292 q284041 (rn_oa he284269 he284271)).trans he284269
          have he284295 : F284290 q284042 = .inr (20, [.int p284097, .int p284098, .int p284099, .int p284100, .int p284101, .int p284102, .int p284103]) := (n284292 q284042 (rn_oa he284270 he284271)).trans he284270
          have he284296 : F284290 (γ 9 3) = .inl (I .boolean, 2000, .inl f284293) := e284291
          have hs284297 : rStr γ [] F284040 F284290 := rStr_put hs284272 n284292 ht284069 (by decide)
          have kp284298 : F284290 q284041 = F284040 q284041 := (n284292 q284041 (rn_ty htq284041 ht284069 (by decide))).trans kp284273
          have bf284293 : gF f284293 0 1 := gF_upd hf284293 bf284268 (gB_w (gBl (show Int32.toInt 1 = 1 by decide)) (by decide) (by decide))
          have hT284299 : RS D I P284039 F284290 γ el := RS_set hT284274 n284292 ht284069 (by decide) ⟨f284293, he284296, bf284293⟩
          exact G_vretA dr_cX17_stand_75 rfl (Nat.le_of_ble_eq_true rfl) (Nat.le_of_ble_eq_true rfl) ⟨F284290, rfl, rfl, hT284299, hs284297, (Nat.le_of_ble_eq_true rfl), (Nat.le_of_ble_eq_true rfl), (fun _ n => by rw [cB_of he284296, cB_of he284093, nmS_of he284096]; exact nm_fin true true true (decide_eq_true (show (p284097.toInt ≤ 21) by omega)) (decide_eq_true (show (p284097.toInt ≠ 20 ∧ p284097.toInt ≠ 21 ∧ p284097.toInt ≠ 30 ∧ p284102.toInt = 1) by omega)) (decide_eq_true (show (0 < p284097.toInt ∧ p284097.toInt < 20 ∧ p284103.toInt = 1) by omega)) (by rw [sd_u hf284293 (by omega) (by omega), sd_u hf284268 (by omega) (by omega), sd_u hf284217 (by omega) (by omega), show o284117.toInt = p284098.toInt by omega]; simp)), kp284298, (fun R c1 c2 c3 c4 c5 c6 c7 c8 c9 c10 c11 c12 => c10 p284097 p284098 p284101 o284117 f284094 f284217 F284214 p284102 o284233 p284099 f284268 F284265 p284103 o284282 p284100 f284293 F284290 fq284109 fq284110 fq284111 bo284117 ht284119 r284212 fq284213 he284093 hf284217 n284216 he284220 r284224 fq284226 fq284227 bo284233 ht284235 r284262 fq284263 fq284264 he284220 hf284268 n284267 he284271 fq284275 fq284276 bo284282 ht284284 r284287 fq284288 fq284289 he284271 hf284293 n284292 he284296)⟩
    · have r284300 : p284043.toInt ≠ 0 := gj_neq hc284223 (show Int32.toInt 0 = 0 by decide)
      have bp284043' : gB p284043 1 1 := gB_t1 bp284043 r284300
      refine G_aload_n 2 dr_cX17_stand_21 rfl ?_
      have fq284301 : fI (F284214 q284042) 0 = p284097 := by rw [he284219]; rfl
      refine Gp_get 0 hm284095 he284219 dr_cX17_stand_22 (gk_X15 D I) (Nat.le_of_ble_eq_true rfl) wr_9_177 rfl ?_
      refine G_bipush 21 dr_cX17_stand_25 (by decide +kernel) ?_
      refine G_icmp_ne 40 dr_cX17_stand_27 (by decide +kernel) (fun hc284302 => ?_) (fun hc284302 => ?_)
      · have r284303 : p284097.toInt ≠ 21 := gj_neq hc284302 (show Int32.toInt 21 = 21 by decide)
        have hT284304 : RS D I P284039 F284214 γ el := RS_set hT n284216 ht284069 (by decide) ⟨f284217, he284220, bf284217⟩
        exact G_vretA dr_cX17_stand_40 rfl (Nat.le_of_ble_eq_true rfl) (Nat.le_of_ble_eq_true rfl) ⟨F284214, rfl, rfl, hT284304, hs284221, (Nat.le_of_ble_eq_true rfl), (Nat.le_of_ble_eq_true rfl), (fun h => absurd h (by omega)), kp284222, (fun R c1 c2 c3 c4 c5 c6 c7 c8 c9 c10 c11 c12 => c11 p284097 p284098 p284101 o284117 f284094 f284217 F284214 fq284109 fq284110 fq284111 bo284117 ht284119 r284212 fq284213 he284093 hf284217 n284216 he284220 r284300 fq284301 r284303)⟩
      · have r284305 : p284097.toInt = 21 := gj_eq hc284302 (show Int32.toInt 21 = 21 by decide)
        have bp284097' : gB p284097 21 21 := ⟨by omega, by omega⟩
        refine G_aload_n 1 dr_cX17_stand_30 rfl ?_
        have fq284306 : fR (F284214 q284041) 3 = (γ 9 3) := by rw [he284218]; rfl
        refine Gp_get 3 hm284045 he284218 dr_cX17_stand_31 (gk_X17 D I) (Nat.le_of_ble_eq_true rfl) wr_7_77 rfl ?_
        refine G_aload_n 2 dr_cX17_stand_34 rfl ?_
        have fq284307 : fI (F284214 q284042) 4 = p284101 := by rw [he284219]; rfl
        refine Gp_get 4 hm284095 he284219 dr_cX17_stand_35 (gk_X15 D I) (Nat.le_of_ble_eq_true rfl) wr_9_193 rfl ?_
        refine G_iconst 1 dr_cX17_stand_38 (by decide +kernel) ?_
        refine Gp_zast 3 hm284092 he284220 dr_cX17_stand_39 rfl (gB_in bp284101 (by decide) (by decide)) (fun F284308 e284309 n284310 => ?_)
        obtain ⟨f284311, hf284311⟩ : ∃ z, z = upd f284217 p284101.toNatClampNeg (vp_nar .boolean 1) := ⟨_, rfl⟩
        rw [← hf284311] at e284309
        have he284312 : F284308 q284041 = .inr (22, [.ref (γ 9 0), .ref (γ 9 1), .ref (γ 9 2), .ref (γ 9 3), .ref (γ 9 4), .ref (γ 9 5), .ref (γ 9 6), .ref (γ 9 7), .ref (γ 9 8), .int p284049, .int p284050, .int p284051, .int p284052, .int p284053, .int p284054, .ref (γ 9 15), .ref (γ 9 16), .ref (γ 9 17), .ref (γ 9 18), .ref (γ 9 19), .ref (γ 9 20), .ref (γ 9 21), .ref (γ 9 22), .int p284055, .int p284056, .int p284057, .int p284058, .int p284059, .ref q284047, .ref (γ 9 29), .int p284060, .ref (γ 9 31), .int p284061, .int p284062, .int p284063, .ref q284048]) := (n284310 q284041 (rn_oa he284218 he284220)).trans he284218
        have he284313 : F284308 q284042 = .inr (20, [.int p284097, .int p284098, .int p284099, .int p284100, .int p284101, .int p284102, .int p284103]) := (n284310 q284042 (rn_oa he284219 he284220)).trans he284219
        have he284314 : F284308 (γ 9 3) = .inl (I .boolean, 2000, .inl f284311) := e284309
        have hs284315 : rStr γ [] F284040 F284308 := rStr_put hs284221 n284310 ht284069 (by decide)
        have n284316 : ∀ b, b ≠ (γ 9 3) → F284308 b = F284040 b := fun b hb => (n284310 b hb).trans (n284216 b hb)
        have kp284317 : F284308 q284041 = F284040 q284041 := (n284310 q284041 (rn_ty htq284041 ht284069 (by decide))).trans kp284222
        have bf284311 : gF f284311 0 1 := gF_upd hf284311 bf284217 (gB_w (gBl (show Int32.toInt 1 = 1 by decide)) (by decide) (by decide))
        have hT284318 : RS D I P284039 F284308 γ el := RS_set hT n284316 ht284069 (by decide) ⟨f284311, he284314, bf284311⟩
        exact G_vretA dr_cX17_stand_40 rfl (Nat.le_of_ble_eq_true rfl) (Nat.le_of_ble_eq_true rfl) ⟨F284308, rfl, rfl, hT284318, hs284315, (Nat.le_of_ble_eq_true rfl), (Nat.le_of_ble_eq_true rfl), (fun h => absurd h (by omega)), kp284317, (fun R c1 c2 c3 c4 c5 c6 c7 c8 c9 c10 c11 c12 => c12 p284097 p284098 p284101 o284117 f284094 f284217 F284214 f284311 F284308 fq284109 fq284110 fq284111 bo284117 ht284119 r284212 fq284213 he284093 hf284217 n284216 he284220 r284300 fq284301 r284305 fq284306 fq284307 he284220 hf284311 n284310 he284314)⟩
/- tr_RModel_back3: F -/
def tr_RModel_back3 (D : va_G) (I : FieldType → ClassId) (γ el : Nat → Nat → Nat) (P : List Nat) (F : Nat → va_E) (q0 : Nat) (q1 : Nat) (a2 : Int32) (o1 : Nat → va_E) : Prop := ∀ R : (Nat → va_E) → Prop,
  (∀ (x1 : Int32) (x2 : Int32) (x3 : Int32) (x4 : Int32) (x5 : Int32) (x6 : Int32) (x7 : Int32) (x8 : Int32), fI (F q1) 0 = x1 → fI (F q1) 1 = x2 → fI (F q1) 4 = x3 → gB x4 (-1) 1999 → tr_RModel_setOf a2 x1 x2 x3 x4 → x4.toInt < 0 → a2.toInt = 0 → fI (F q1) 5 = x5 → gB x6 0 1 → tr_RRow_usesA x1 x5 x6 → x6.toInt = 0 → fI (F q1) 6 = x7 → gB x8 0 1 → tr_RRow_usesB x1 x7 x8 → x8.toInt = 0 → R F) →
  (∀ (x1 : Int32) (x2 : Int32) (x3 : Int32) (x4 : Int32) (x5 : Int32) (x6 : Int32) (x7 : Int32) (x8 : Int32) (x9 : Int32) (x10 : Nat → Int64) (x11 : Nat → Int64) (x12 : Nat → va_E), fI (F q1) 0 = x1 → fI (F q1) 1 = x2 → fI (F q1) 4 = x3 → gB x4 (-1) 1999 → tr_RModel_setOf a2 x1 x2 x3 x4 → x4.toInt < 0 → a2.toInt = 0 → fI (F q1) 5 = x5 → gB x6 0 1 → tr_RRow_usesA x1 x5 x6 → x6.toInt = 0 → fI (F q1) 6 = x7 → gB x8 0 1 → tr_RRow_usesB x1 x7 x8 → x8.toInt ≠ 0 → fR (F q0) 2 = (γ 9 2) → fI (F q1) 3 = x9 → F (γ 9 2) = .inl (I .long, 32, .inr (.inl x10)) → tr_RModel_set x9 x10 x11 → rFr [(γ 9 2)] P F x12 → x12 (γ 9 2) = .inl (I .long, 32, .inr (.inl x11)) → RS D I P x12 γ el → R x12) →
  (∀ (x1 : Int32) (x2 : Int32) (x3 : Int32) (x4 : Int32) (x5 : Int32) (x6 : Int32) (x7 : Int32) (x8 : Nat → Int64) (x9 : Nat → Int64) (x10 : Nat → va_E) (x11 : Int32) (x12 : Int32), fI (F q1) 0 = x1 → fI (F q1) 1 = x2 → fI (F q1) 4 = x3 → gB x4 (-1) 1999 → tr_RModel_setOf a2 x1 x2 x3 x4 → x4.toInt < 0 → a2.toInt = 0 → fI (F q1) 5 = x5 → gB x6 0 1 → tr_RRow_usesA x1 x5 x6 → x6.toInt ≠ 0 → fR (F q0) 2 = (γ 9 2) → fI (F q1) 2 = x7 → F (γ 9 2) = .inl (I .long, 32, .inr (.inl x8)) → tr_RModel_set x7 x8 x9 → rFr [(γ 9 2)] P F x10 → x10 (γ 9 2) = .inl (I .long, 32, .inr (.inl x9)) → RS D I P x10 γ el → fI (x10 q1) 0 = x1 → fI (x10 q1) 6 = x11 → gB x12 0 1 → tr_RRow_usesB x1 x11 x12 → x12.toInt = 0 → R x10) →
  (∀ (x1 : Int32) (x2 : Int32) (x3 : Int32) (x4 : Int32) (x5 : Int32) (x6 : Int32) (x7 : Int32) (x8 : Nat → Int64) (x9 : Nat → Int64) (x10 : Nat → va_E) (x11 : Int32) (x12 : Int32) (x13 : Int32) (x14 : Nat → Int64) (x15 : Nat → va_E), fI (F q1) 0 = x1 → fI (F q1) 1 = x2 → fI (F q1) 4 = x3 → gB x4 (-1) 1999 → tr_RModel_setOf a2 x1 x2 x3 x4 → x4.toInt < 0 → a2.toInt = 0 → fI (F q1) 5 = x5 → gB x6 0 1 → tr_RRow_usesA x1 x5 x6 → x6.toInt ≠ 0 → fR (F q0) 2 = (γ 9 2) → fI (F q1) 2 = x7 → F (γ 9 2) = .inl (I .long, 32, .inr (.inl x8)) → tr_RModel_set x7 x8 x9 → rFr [(γ 9 2)] P F x10 → x10 (γ 9 2) = .inl (I .long, 32, .inr (.inl x9)) → RS D I P x10 γ el → fI (x10 q1) 0 = x1 → fI (x10 q1) 6 = x11 → gB x12 0 1 → tr_RRow_usesB x1 x11 x12 → x12.toInt ≠ 0 → fR (x10 q0) 2 = (γ 9 2) → fI (x10 q1) 3 = x13 → x10 (γ 9 2) = .inl (I .long, 32, .inr (.inl x9)) → tr_RModel_set x13 x9 x14 → rFr [(γ 9 2)] P x10 x15 → x15 (γ 9 2) = .inl (I .long, 32, .inr (.inl x14)) → RS D I P x15 γ el → R x15) →
  (∀ (x1 : Int32) (x2 : Int32) (x3 : Int32) (x4 : Int32), fI (F q1) 0 = x1 → fI (F q1) 1 = x2 → fI (F q1) 4 = x3 → gB x4 (-1) 1999 → tr_RModel_setOf a2 x1 x2 x3 x4 → x4.toInt < 0 → a2.toInt ≠ 0 → x1.toInt ≠ 21 → R F) →
  (∀ (x1 : Int32) (x2 : Int32) (x3 : Int32) (x4 : Int32) (x5 : Nat → Int64) (x6 : Nat → Int64) (x7 : Nat → va_E), fI (F q1) 0 = x1 → fI (F q1) 1 = x2 → fI (F q1) 4 = x3 → gB x4 (-1) 1999 → tr_RModel_setOf a2 x1 x2 x3 x4 → x4.toInt < 0 → a2.toInt ≠ 0 → x1.toInt = 21 → fR (F q0) 2 = (γ 9 2) → F (γ 9 2) = .inl (I .long, 32, .inr (.inl x5)) → tr_RModel_set x3 x5 x6 → rFr [(γ 9 2)] P F x7 → x7 (γ 9 2) = .inl (I .long, 32, .inr (.inl x6)) → RS D I P x7 γ el → R x7) →
  (∀ (x1 : Int32) (x2 : Int32) (x3 : Int32) (x4 : Int32) (x5 : Nat → Int64) (x6 : Nat → Int64) (x7 : Nat → va_E) (x8 : Int32) (x9 : Int32) (x10 : Int32) (x11 : Int32), fI (F q1) 0 = x1 → fI (F q1) 1 = x2 → fI (F q1) 4 = x3 → gB x4 (-1) 1999 → tr_RModel_setOf a2 x1 x2 x3 x4 → 0 ≤ x4.toInt → fR (F q0) 2 = (γ 9 2) → F (γ 9 2) = .inl (I .long, 32, .inr (.inl x5)) → tr_RModel_clear x4 x5 x6 → rFr [(γ 9 2)] P F x7 → x7 (γ 9 2) = .inl (I .long, 32, .inr (.inl x6)) → RS D I P x7 γ el → a2.toInt = 0 → fI (x7 q1) 0 = x1 → fI (x7 q1) 5 = x8 → gB x9 0 1 → tr_RRow_usesA x1 x8 x9 → x9.toInt = 0 → fI (x7 q1) 6 = x10 → gB x11 0 1 → tr_RRow_usesB x1 x10 x11 → x11.toInt = 0 → R x7) →
  (∀ (x1 : Int32) (x2 : Int32) (x3 : Int32) (x4 : Int32) (x5 : Nat → Int64) (x6 : Nat → Int64) (x7 : Nat → va_E) (x8 : Int32) (x9 : Int32) (x10 : Int32) (x11 : Int32) (x12 : Int32) (x13 : Nat → Int64) (x14 : Nat → va_E), fI (F q1) 0 = x1 → fI (F q1) 1 = x2 → fI (F q1) 4 = x3 → gB x4 (-1) 1999 → tr_RModel_setOf a2 x1 x2 x3 x4 → 0 ≤ x4.toInt → fR (F q0) 2 = (γ 9 2) → F (γ 9 2) = .inl (I .long, 32, .inr (.inl x5)) → tr_RModel_clear x4 x5 x6 → rFr [(γ 9 2)] P F x7 → x7 (γ 9 2) = .inl (I .long, 32, .inr (.inl x6)) → RS D I P x7 γ el → a2.toInt = 0 → fI (x7 q1) 0 = x1 → fI (x7 q1) 5 = x8 → gB x9 0 1 → tr_RRow_usesA x1 x8 x9 → x9.toInt = 0 → fI (x7 q1) 6 = x10 → gB x11 0 1 → tr_RRow_usesB x1 x10 x11 → x11.toInt ≠ 0 → fR (x7 q0) 2 = (γ 9 2) → fI (x7 q1) 3 = x12 → x7 (γ 9 2) = .inl (I .long, 32, .inr (.inl x6)) → tr_RModel_set x12 x6 x13 → rFr [(γ 9 2)] P x7 x14 → x14 (γ 9 2) = .inl (I .long, 32, .inr (.inl x13)) → RS D I P x14 γ el → R x14) →
  (∀ (x1 : Int32) (x2 : Int32) (x3 : Int32) (x4 : Int32) (x5 : Nat → Int64) (x6 : Nat → Int64) (x7 : Nat → va_E) (x8 : Int32) (x9 : Int32) (x10 : Int32) (x11 : Nat → Int64) (x12 : Nat → va_E) (x13 : Int32) (x14 : Int32), fI (F q1) 0 = x1 → fI (F q1) 1 = x2 → fI (F q1) 4 = x3 → gB x4 (-1) 1999 → tr_RModel_setOf a2 x1 x2 x3 x4 → 0 ≤ x4.toInt → fR (F q0) 2 = (γ 9 2) → F (γ 9 2) = .inl (I .long, 32, .inr (.inl x5)) → tr_RModel_clear x4 x5 x6 → rFr [(γ 9 2)] P F x7 → x7 (γ 9 2) = .inl (I .long, 32, .inr (.inl x6)) → RS D I P x7 γ el → a2.toInt = 0 → fI (x7 q1) 0 = x1 → fI (x7 q1) 5 = x8 → gB x9 0 1 → tr_RRow_usesA x1 x8 x9 → x9.toInt ≠ 0 → fR (x7 q0) 2 = (γ 9 2) → fI (x7 q1) 2 = x10 → x7 (γ 9 2) = .inl (I .long, 32, .inr (.inl x6)) → tr_RModel_set x10 x6 x11 → rFr [(γ 9 2)] P x7 x12 → x12 (γ 9 2) = .inl (I .long, 32, .inr (.inl x11)) → RS D I P x12 γ el → fI (x12 q1) 0 = x1 → fI (x12 q1) 6 = x13 → gB x14 0 1 → tr_RRow_usesB x1 x13 x14 → x14.toInt = 0 → R x12) →
  (∀ (x1 : Int32) (x2 : Int32) (x3 : Int32) (x4 : Int32) (x5 : Nat → Int64) (x6 : Nat → Int64) (x7 : Nat → va_E) (x8 : Int32) (x9 : Int32) (x10 : Int32) (x11 : Nat → Int64) (x12 : Nat → va_E) (x13 : Int32) (x14 : Int32) (x15 : Int32) (x16 : Nat → Int64) (x17 : Nat → va_E), fI (F q1) 0 = x1 → fI (F q1) 1 = x2 → fI (F q1) 4 = x3 → gB x4 (-1) 1999 → tr_RModel_setOf a2 x1 x2 x3 x4 → 0 ≤ x4.toInt → fR (F q0) 2 = (γ 9 2) → F (γ 9 2) = .inl (I .long, 32, .inr (.inl x5)) → tr_RModel_clear x4 x5 x6 → rFr [(γ 9 2)] P F x7 → x7 (γ 9 2) = .inl (I .long, 32, .inr (.inl x6)) → RS D I P x7 γ el → a2.toInt = 0 → fI (x7 q1) 0 = x1 → fI (x7 q1) 5 = x8 → gB x9 0 1 → tr_RRow_usesA x1 x8 x9 → x9.toInt ≠ 0 → fR (x7 q0) 2 = (γ 9 2) → fI (x7 q1) 2 = x10 → x7 (γ 9 2) = .inl (I .long, 32, .inr (.inl x6)) → tr_RModel_set x10 x6 x11 → rFr [(γ 9 2)] P x7 x12 → x12 (γ 9 2) = .inl (I .long, 32, .inr (.inl x11)) → RS D I P x12 γ el → fI (x12 q1) 0 = x1 → fI (x12 q1) 6 = x13 → gB x14 0 1 → tr_RRow_usesB x1 x13 x14 → x14.toInt ≠ 0 → fR (x12 q0) 2 = (γ 9 2) → fI (x12 q1) 3 = x15 → x12 (γ 9 2) = .inl (I .long, 32, .inr (.inl x11)) → tr_RModel_set x15 x11 x16 → rFr [(γ 9 2)] P x12 x17 → x17 (γ 9 2) = .inl (I .long, 32, .inr (.inl x16)) → RS D I P x17 γ el → R x17) →
  (∀ (x1 : Int32) (x2 : Int32) (x3 : Int32) (x4 : Int32) (x5 : Nat → Int64) (x6 : Nat → Int64) (x7 : Nat → va_E), fI (F q1) 0 = x1 → fI (F q1) 1 = x2 → fI (F q1) 4 = x3 → gB x4 (-1) 1999 → tr_RModel_setOf a2 x1 x2 x3 x4 → 0 ≤ x4.toInt → fR (F q0) 2 = (γ 9 2) → F (γ 9 2) = .inl (I .long, 32, .inr (.inl x5)) → tr_RModel_clear x4 x5 x6 → rFr [(γ 9 2)] P F x7 → x7 (γ 9 2) = .inl (I .long, 32, .inr (.inl x6)) → RS D I P x7 γ el → a2.toInt ≠ 0 → fI (x7 q1) 0 = x1 → x1.toInt ≠ 21 → R x7) →
  (∀ (x1 : Int32) (x2 : Int32) (x3 : Int32) (x4 : Int32) (x5 : Nat → Int64) (x6 : Nat → Int64) (x7 : Nat → va_E) (x8 : Nat → Int64) (x9 : Nat → va_E), fI (F q1) 0 = x1 → fI (F q1) 1 = x2 → fI (F q1) 4 = x3 → gB x4 (-1) 1999 → tr_RModel_setOf a2 x1 x2 x3 x4 → 0 ≤ x4.toInt → fR (F q0) 2 = (γ 9 2) → F (γ 9 2) = .inl (I .long, 32, .inr (.inl x5)) → tr_RModel_clear x4 x5 x6 → rFr [(γ 9 2)] P F x7 → x7 (γ 9 2) = .inl (I .long, 32, .inr (.inl x6)) → RS D I P x7 γ el → a2.toInt ≠ 0 → fI (x7 q1) 0 = x1 → x1.toInt = 21 → fR (x7 q0) 2 = (γ 9 2) → fI (x7 q1) 4 = x3 → x7 (γ 9 2) = .inl (I .long, 32, .inr (.inl x6)) → tr_RModel_set x3 x6 x8 → rFr [(γ 9 2)] P x7 x9 → x9 (γ 9 2) = .inl (I .long, 32, .inr (.inl x8)) → RS D I P x9 γ el → R x9) →
  R o1
