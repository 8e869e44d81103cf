abbrev ky_281342_SpillForgeModel_behind : gKey := (cX17_behind, 4, "SpillForgeModel", none, [], "behind", fun _ _ => True)
def pt_281342_SpillForgeModel_behind (D : va_G) (I : FieldType → ClassId) (γ el : Nat → Nat → Nat) (P281338 : List Nat) (F281339 : Nat → va_E) (q281340 : Nat) (q281341 : Nat) : Option Value → va_W → Nat → Nat → Prop := fun r w dc ds => ∃ (F284066 : Nat → va_E), r = none ∧ w = va_pl P281338 F284066 ∧ RS D I P281338 F284066 γ el ∧ rStr γ [] F281339 F284066 ∧ dc ≤ 0 ∧ ds ≤ 0 ∧ (F284066 q281340 = F281339 q281340) ∧ (F284066 (γ 9 3) = F281339 (γ 9 3)) ∧ tr_RModel_behind3 D I γ el P281338 F281339 q281340 q281341 F284066
set_option maxRecDepth 100000 in
set_option maxHeartbeats 4000000 in
theorem ct_281342_SpillForgeModel_behind (l : Launch) (hl0 : l.stackTraces = false) (D : va_G) (I : FieldType → ClassId) (γ el : Nat → Nat → Nat) (P281338 : List Nat) (F281339 : Nat → va_E) (q281340 : Nat) (q281341 : Nat) (hT : RS D I P281338 F281339 γ el) (htq281340 : rKd γ q281340 10) (htq281341 : rKd γ q281341 2) : CtA (gV D I) l yX17_behind cX17_behind 4 none 1 21 0 0 [.ref q281340, .ref q281341] (va_pl P281338 F281339) (pt_281342_SpillForgeModel_behind D I γ el P281338 F281339 q281340 q281341) gNA := by
  refine CtA_of hl0 (by decide) (Nat.le_of_ble_eq_true rfl) ?_
  refine G_iconst 0 dr_cX17_behind_0 (by decide +kernel) ?_
  refine G_istore_n (L' := [(2, .int 0), (0, .ref q281340), (1, .ref q281341)]) dr_cX17_behind_1 (Nat.le_of_ble_eq_true rfl) rfl ?_
  have hlp2_283498 : ∀ (n2_283498 : Nat) (F283494 : Nat → va_E) (g283493 : Int32), gB g283493 0 32 → RS D I P281338 F283494 γ el → rStr γ [] F281339 F283494 → (F283494 q281340 = F281339 q281340) → (F283494 (γ 9 3) = F281339 (γ 9 3)) → (∀ (k : Nat) (e1 : Nat → va_E), tl_RModel_behind3_2 D I γ el P281338 F281339 q281340 F283494 g283493 k e1 → tl_RModel_behind3_2 D I γ el P281338 F281339 q281340 F281339 (0 : Int32) k e1) → ((33 : Int) - g283493.toInt).toNat < n2_283498 → G (gV D I) l (gRm 1 21 0 0) (gMA (gV D I) (pt_281342_SpillForgeModel_behind D I γ el P281338 F281339 q281340 q281341) gNA 0 0) ky_281342_SpillForgeModel_behind 2 [(2, .int g283493), (0, .ref q281340), (1, .ref q281341)] [] (va_pl P281338 F283494) 0 0 := by
    intro n2_283498
    induction n2_283498 with
    | zero => intro F283494 g283493 bg283493 hT283495 hs283496 x283497 x283498 kt2_283499 hm2_283498; exact absurd hm2_283498 (Nat.not_lt_zero _)
    | succ n2_283498 ih2_283498 =>
      intro F283494 g283493 bg283493 hT283495 hs283496 x283497 x283498 kt2_283499 hm2_283498
      have hs283500 : rStr γ [] F281339 F283494 := fun b h0 hb hw => (hs283496 b h0 hb hw).trans ((rStr_rf (γ := γ) (W := []) (F := F281339)) b h0 hb hw).symm
      have hs283501 : rStr γ [] F281339 F283494 := rStr_tr (rStr_rf (γ := γ) (W := []) (F := F281339)) hs283500
      refine G_iload_n 0 dr_cX17_behind_2 rfl ?_
      refine G_bipush 32 dr_cX17_behind_3 (by decide +kernel) ?_
      refine G_icmp_ge 21 dr_cX17_behind_5 (by decide +kernel) (fun hc283502 => ?_) (fun hc283502 => ?_)
      · have r283503 : 32 ≤ g283493.toInt := gj_leL hc283502 (show Int32.toInt 32 = 32 by decide)
        have bg283493' : gB g283493 32 32 := ⟨by omega, by omega⟩
        have hx283504 : tl_RModel_behind3_2 D I γ el P281338 F281339 q281340 F281339 (0 : Int32) 21 F283494 := kt2_283499 21 F283494 (fun R c1 c2 => c1 F283494 g283493 bg283493 hT283495 hs283496 x283497 x283498 r283503)
        refine G_iconst 0 dr_cX17_behind_21 (by decide +kernel) ?_
        refine G_istore_n (L' := [(2, .int 0), (0, .ref q281340), (1, .ref q281341)]) dr_cX17_behind_22 (Nat.le_of_ble_eq_true rfl) rfl ?_
        have hlp23_283752 : ∀ (n23_283752 : Nat) (F283748 : Nat → va_E) (g283747 : Int32), gB g283747 0 2 → RS D I P281338 F283748 γ el → rStr γ [] F281339 F283748 → (F283748 q281340 = F281339 q281340) → (F283748 (γ 9 3) = F281339 (γ 9 3)) → (∀ (k : Nat) (e1 : Nat → va_E), tl_RModel_behind3_23 D I γ el P281338 F281339 q281340 q281341 F283748 g283747 k e1 → tl_RModel_behind3_23 D I γ el P281338 F281339 q281340 q281341 F283494 (0 : Int32) k e1) → ((3 : Int) - g283747.toInt).toNat < n23_283752 → G (gV D I) l (gRm 1 21 0 0) (gMA (gV D I) (pt_281342_SpillForgeModel_behind D I γ el P281338 F281339 q281340 q281341) gNA 0 0) ky_281342_SpillForgeModel_behind 23 [(2, .int g283747), (0, .ref q281340), (1, .ref q281341)] [] (va_pl P281338 F283748) 0 0 := by
          intro n23_283752
          induction n23_283752 with
          | zero => intro F283748 g283747 bg283747 hT283749 hs283750 x283751 x283752 kt23_283753 hm23_283752; exact absurd hm23_283752 (Nat.not_lt_zero _)
          | succ n23_283752 ih23_283752 =>
            intro F283748 g283747 bg283747 hT283749 hs283750 x283751 x283752 kt23_283753 hm23_283752
            have hs283754 : rStr γ [] F283494 F283748 := fun b h0 hb hw => (hs283750 b h0 hb hw).trans (hs283496 b h0 hb hw).symm
            have hs283755 : rStr γ [] F281339 F283748 := rStr_tr hs283496 hs283754
            refine G_iload_n 0 dr_cX17_behind_23 rfl ?_
            refine G_aload_n 2 dr_cX17_behind_24 rfl ?_
            have hm283756 : q281341 ∈ P281338 := RS_m hT283749 htq281341 (by decide)
            obtain ⟨q283758, q283759, p283760, p283761, he283757, ht283768, ht283762, ht283763, ht283764, ht283765, ht283766, bp283760, bp283761, r283767, r283769, r283770⟩ := show rk_2 γ q281341 (F283748 q281341) from RS_o hT283749 htq281341
            have hm283771 : q283759 ∈ P281338 := RS_m hT283749 ht283764 (by decide)
            obtain ⟨p283773, p283774, p283775, p283776, p283777, p283778, p283779, he283772, bp283773, bp283774, bp283777, bp283778, bp283779, r283780, r283781, r283782, r283783, r283784⟩ := show rk_1 γ q283759 (F283748 q283759) from RS_o hT283749 ht283764
            have bp283775 := gB_any p283775
            have bp283776 := gB_any p283776
            have fq283785 : fI (F283748 q281341) 2 = p283760 := by rw [he283757]; rfl
            have fq283786 : fI (F283748 q281341) 3 = p283761 := by rw [he283757]; rfl
            have fq283787 : fR (F283748 q281341) 1 = q283759 := by rw [he283757]; rfl
            have fq283788 : fI (F283748 q283759) 0 = p283773 := by rw [he283772]; rfl
            refine Gw_callV (As := []) (gV_ok D I) (cp_1816_Block_ways l hl0 D I P281338 F283748 q281341 q283759 q283758 p283760 p283761 p283773 p283774 p283775 p283776 p283777 p283778 p283779 hm283756 hm283771 he283757 he283772 bp283760 bp283761 bp283773 bp283774 bp283777 bp283778 bp283779) dr_cX17_behind_25 ⟨wr_10_166, wr_1_38, wr_10_169, by decide, rfl, (Nat.le_of_ble_eq_true rfl), (Nat.le_of_ble_eq_true rfl)⟩ wr_10_167 wr_10_168 hm283756 he283757 rfl (show 0 + 0 ≤ 0 by first | omega | decide) (show 0 + 0 ≤ 0 by first | omega | decide) (Nat.le_of_ble_eq_true rfl) (fun r283792 w283793 dc283789 ds283790 hp283791 => ?_) (fun _ _ _ _ _ z => z.elim)
            obtain ⟨o283794, rfl, rfl, hdc, hds, bo283794, ht283795⟩ := hp283791
            change G _ _ _ _ _ _ _ (.int o283794 :: _) _ _ _
            refine G_widen (cs' := 0) (sl' := 0) (by omega) (by omega) ?_
            refine G_icmp_ge 72 dr_cX17_behind_28 (by decide +kernel) (fun hc283796 => ?_) (fun hc283796 => ?_)
            · have r283797 : o283794.toInt ≤ g283747.toInt := gC_le hc283796
              have hx283798 : tl_RModel_behind3_23 D I γ el P281338 F281339 q281340 q281341 F283494 (0 : Int32) 72 F283748 := kt23_283753 72 F283748 (fun R c1 c2 => c1 F283748 g283747 p283760 p283761 q283759 p283773 o283794 bg283747 hT283749 hs283750 x283751 x283752 fq283785 fq283786 fq283787 fq283788 bo283794 ht283795 r283797)
              exact G_vretA dr_cX17_behind_72 rfl (Nat.le_of_ble_eq_true rfl) (Nat.le_of_ble_eq_true rfl) ⟨F283748, rfl, rfl, hT283749, hs283750, (Nat.le_of_ble_eq_true rfl), (Nat.le_of_ble_eq_true rfl), x283751, x283752, (fun R c1 => c1 F283494 F283748 hx283504 hx283798)⟩
            · have r283799 : g283747.toInt < o283794.toInt := gC_nle hc283796
              have bg283747' : gB g283747 0 1 := ⟨by omega, by omega⟩
              have bo283794' : gB o283794 1 2 := ⟨by omega, by omega⟩
              refine G_iconst 0 dr_cX17_behind_31 (by decide +kernel) ?_
              refine G_istore_n (L' := [(3, .int 0), (2, .int g283747), (0, .ref q281340), (1, .ref q281341)]) dr_cX17_behind_32 (Nat.le_of_ble_eq_true rfl) rfl ?_
              have hlp33_283902 : ∀ (n33_283902 : Nat) (F283898 : Nat → va_E) (g283897 : Int32), gB g283897 0 32 → RS D I P281338 F283898 γ el → rStr γ [] F281339 F283898 → (F283898 q281340 = F281339 q281340) → (F283898 (γ 9 3) = F281339 (γ 9 3)) → (∀ (k : Nat) (e1 : Nat → va_E), tl_RModel_behind3_33 D I γ el P281338 F281339 q281340 q281341 g283747 F283898 g283897 k e1 → tl_RModel_behind3_33 D I γ el P281338 F281339 q281340 q281341 g283747 F283748 (0 : Int32) k e1) → ((33 : Int) - g283897.toInt).toNat < n33_283902 → G (gV D I) l (gRm 1 21 0 0) (gMA (gV D I) (pt_281342_SpillForgeModel_behind D I γ el P281338 F281339 q281340 q281341) gNA 0 0) ky_281342_SpillForgeModel_behind 33 [(3, .int g283897), (2, .int g283747), (0, .ref q281340), (1, .ref q281341)] [] (va_pl P281338 F283898) 0 0 := by
                intro n33_283902
                induction n33_283902 with
                | zero => intro F283898 g283897 bg283897 hT283899 hs283900 x283901 x283902 kt33_283903 hm33_283902; exact absurd hm33_283902 (Nat.not_lt_zero _)
                | succ n33_283902 ih33_283902 =>
                  intro F283898 g283897 bg283897 hT283899 hs283900 x283901 x283902 kt33_283903 hm33_283902
                  have hs283904 : rStr γ [] F283748 F283898 := fun b h0 hb hw => (hs283900 b h0 hb hw).trans (hs283750 b h0 hb hw).symm
                  have he283905 : F283898 q281341 = .inr (17, [.ref q283758, .ref q283759, .int p283760, .int p283761]) := (hs283904 q281341 (rT0 htq281341 (by decide)) (rT1 htq281341 (by decide)) (rT2 htq281341 (by decide))).trans he283757
                  have he283906 : F283898 q283759 = .inr (20, [.int p283773, .int p283774, .int p283775, .int p283776, .int p283777, .int p283778, .int p283779]) := (hs283904 q283759 (rT0 ht283764 (by decide)) (rT1 ht283764 (by decide)) (rT2 ht283764 (by decide))).trans he283772
                  have hs283907 : rStr γ [] F281339 F283898 := rStr_tr hs283750 hs283904
                  refine G_iload_n 0 dr_cX17_behind_33 rfl ?_
                  refine G_bipush 32 dr_cX17_behind_34 (by decide +kernel) ?_
                  refine G_icmp_ge 66 dr_cX17_behind_36 (by decide +kernel) (fun hc283908 => ?_) (fun hc283908 => ?_)
                  · have r283909 : 32 ≤ g283897.toInt := gj_leL hc283908 (show Int32.toInt 32 = 32 by decide)
                    have bg283897' : gB g283897 32 32 := ⟨by omega, by omega⟩
                    have hx283910 : tl_RModel_behind3_33 D I γ el P281338 F281339 q281340 q281341 g283747 F283748 (0 : Int32) 66 F283898 := kt33_283903 66 F283898 (fun R c1 c2 => c1 F283898 g283897 bg283897 hT283899 hs283900 x283901 x283902 r283909)
                    obtain ⟨z283911, hz283911⟩ : ∃ z : Int32, z = g283747 + Int32.ofInt 1 := ⟨_, rfl⟩
                    have ez283911 : z283911.toInt = g283747.toInt + 1 := gI_inc hz283911 (by decide) bg283747' (by decide) (by decide)
                    have bz283911 : gB z283911 1 2 := ⟨by omega, by omega⟩
                    refine G_iinc (L' := [(2, .int z283911), (3, .int g283897), (0, .ref q281340), (1, .ref q281341)]) z283911 1 dr_cX17_behind_66 rfl hz283911.symm (Nat.le_of_ble_eq_true rfl) rfl ?_
                    refine G_goto 23 dr_cX17_behind_69 (by decide +kernel) ?_
                    refine G_lv (L' := [(2, .int z283911), (0, .ref q281340), (1, .ref q281341)]) [0, 2, 3] rfl ?_
                    exact ih23_283752 F283898 z283911 (gB_w bz283911 (by decide) (by decide)) hT283899 hs283900 x283901 x283902 (fun k e1 ht => kt23_283753 k e1 (fun R c1 c2 => c2 F283748 g283747 p283760 p283761 q283759 p283773 o283794 F283898 z283911 k e1 bg283747 hT283749 hs283750 x283751 x283752 fq283785 fq283786 fq283787 fq283788 bo283794 ht283795 r283799 hx283910 ez283911 (ht R c1 c2))) (mz_up ez283911 (Int.le_trans bg283747'.2 (by decide)) hm23_283752)
                  · have r283912 : g283897.toInt < 32 := gj_nleL hc283908 (show Int32.toInt 32 = 32 by decide)
                    have bg283897' : gB g283897 0 31 := ⟨by omega, by omega⟩
                    refine G_aload_n 2 dr_cX17_behind_39 rfl ?_
                    have hm283913 : q281340 ∈ P281338 := RS_m hT283899 htq281340 (by decide)
                    refine rk10_e (show rk_10 γ (F283898 q281340) from RS_o hT283899 htq281340) (fun q283915 q283916 p283917 p283918 p283919 p283920 p283921 p283922 p283923 p283924 p283925 p283926 p283927 p283928 p283929 p283930 p283931 he283914 hB283958 ht283932 ht283933 ht283934 ht283935 ht283936 ht283937 ht283938 ht283939 ht283940 ht283941 ht283942 ht283943 ht283944 ht283945 ht283946 ht283947 ht283948 ht283949 ht283950 ht283951 ht283952 ht283953 ht283954 ht283955 hB283959 => ?_)
                    have fq283960 : fR (F283898 q281340) 2 = (γ 9 2) := by rw [he283914]; rfl
                    refine Gp_get 2 hm283913 he283914 dr_cX17_behind_40 (gk_X17 D I) (Nat.le_of_ble_eq_true rfl) wr_7_76 rfl ?_
                    refine G_iload_n 0 dr_cX17_behind_43 rfl ?_
                    refine G_dup2_11 dr_cX17_behind_44 rfl rfl ?_
                    have hm283961 : (γ 9 2) ∈ P281338 := RS_m hT283899 ht283936 (by decide)
                    obtain ⟨f283963, he283962, wf283963⟩ := show rk_35 I (F283898 (γ 9 2)) from RS_o hT283899 ht283936
                    refine Gp_lald 2 hm283961 he283962 dr_cX17_behind_45 rfl (gB_in bg283897' (by decide) (by decide)) (G_namL fun u283964 hu283964 => ?_)
                    have qu283964 : lb_Q u283964 (2000 - 64 * g283897.toInt) := lb_Wld hu283964 wf283963 (by omega) (by omega) (lb_Mod0 (by omega) (by omega))
                    refine G_aload_n 2 dr_cX17_behind_46 rfl ?_
                    have fq283965 : fR (F283898 q281340) 0 = (γ 9 0) := by rw [he283914]; rfl
                    refine Gp_get 0 hm283913 he283914 dr_cX17_behind_47 (gk_X17 D I) (Nat.le_of_ble_eq_true rfl) wr_7_74 rfl ?_
                    refine G_aload_n 3 dr_cX17_behind_50 rfl ?_
                    refine G_iload_n 1 dr_cX17_behind_51 rfl ?_
                    have fq283966 : fI (F283898 q281341) 2 = p283760 := by rw [he283905]; rfl
                    have fq283967 : fI (F283898 q281341) 3 = p283761 := by rw [he283905]; rfl
                    have fq283968 : fR (F283898 q281341) 1 = q283759 := by rw [he283905]; rfl
                    refine Gw_callV (As := [.int g283747]) (gV_ok D I) (cp_5159_Block_way l hl0 D I P281338 F283898 q281341 q283759 g283747 q283758 p283760 p283761 p283773 p283774 p283775 p283776 p283777 p283778 p283779 hm283756 hm283771 he283905 he283906 bp283760 bp283761 bp283773 bp283774 bp283777 bp283778 bp283779) dr_cX17_behind_52 ⟨wr_10_170, wr_1_38, wr_10_173, by decide, rfl, (Nat.le_of_ble_eq_true rfl), (Nat.le_of_ble_eq_true rfl)⟩ wr_10_171 wr_10_172 hm283756 he283905 rfl (show 0 + 0 ≤ 0 by first | omega | decide) (show 0 + 0 ≤ 0 by first | omega | decide) (Nat.le_of_ble_eq_true rfl) (fun r283972 w283973 dc283969 ds283970 hp283971 => ?_) (fun _ _ _ _ _ z => z.elim)
                    obtain ⟨o283974, rfl, rfl, hdc, hds, bo283974, ht283975⟩ := hp283971
                    change G _ _ _ _ _ _ _ (.int o283974 :: _) _ _ _
                    refine G_widen (cs' := 0) (sl' := 0) (by omega) (by omega) ?_
                    have hm283976 : (γ 9 0) ∈ P281338 := RS_m hT283899 ht283934 (by decide)
                    obtain ⟨f283978, he283977, hg283979⟩ := show rk_12 I γ (F283898 (γ 9 0)) from RS_o hT283899 ht283934
                    obtain ⟨q283980, hx283982⟩ : ∃ x, x = γ 10 o283974.toInt.toNat := ⟨_, rfl⟩
                    have ht283981 : rKd γ q283980 11 := by rw [hx283982]; exact (hg283979 _ (show o283974.toInt.toNat < 40 by omega)).2.1
                    refine Gp_aald 5 hm283976 he283977 dr_cX17_behind_55 rfl rfl (gB_in bo283974 (by decide) (by decide)) ?_
                    rw [show f283978 o283974.toNatClampNeg = some q283980 from (hg283979 _ (show o283974.toInt.toNat < 40 by omega)).1.trans (by rw [hx283982])]
                    change G _ _ _ _ _ _ _ (.ref q283980 :: _) _ _ _
                    refine G_iload_n 0 dr_cX17_behind_56 rfl ?_
                    have hm283983 : q283980 ∈ P281338 := RS_m hT283899 ht283981 (by decide)
                    obtain ⟨f283985, he283984, wf283985⟩ := show rk_11 I (F283898 q283980) from RS_o hT283899 ht283981
                    refine Gp_lald 2 hm283983 he283984 dr_cX17_behind_57 rfl (gB_in bg283897' (by decide) (by decide)) (G_namL fun u283986 hu283986 => ?_)
                    have qu283986 : lb_Q u283986 (2000 - 64 * g283897.toInt) := lb_Wld hu283986 wf283985 (by omega) (by omega) (lb_Mod0 (by omega) (by omega))
                    refine G_lor dr_cX17_behind_58 (G_namL fun u283987 hu283987 => ?_)
                    have qu283987 : lb_Q u283987 (2000 - 64 * g283897.toInt) := lb_Qor hu283987 qu283964 qu283986
                    refine Gp_last 2 hm283961 he283962 dr_cX17_behind_59 rfl (gB_in bg283897' (by decide) (by decide)) (fun F283988 e283989 n283990 => ?_)
                    obtain ⟨f283991, hf283991⟩ : ∃ z, z = vp_updL f283963 g283897.toNatClampNeg u283987 := ⟨_, rfl⟩
                    rw [← hf283991] at e283989
                    have he283992 : F283988 q281341 = .inr (17, [.ref q283758, .ref q283759, .int p283760, .int p283761]) := (n283990 q281341 (rn_oa he283905 he283962)).trans he283905
                    have he283993 : F283988 q283759 = .inr (20, [.int p283773, .int p283774, .int p283775, .int p283776, .int p283777, .int p283778, .int p283779]) := (n283990 q283759 (rn_oa he283906 he283962)).trans he283906
                    have he283994 : F283988 q281340 = .inr (22, [.ref (γ 9 0), .ref (γ 9 1), .ref (γ 9 2), .ref (γ 9 3), .ref (γ 9 4), .ref (γ 9 5), .ref (γ 9 6), .ref (γ 9 7), .ref (γ 9 8), .int p283917, .int p283918, .int p283919, .int p283920, .int p283921, .int p283922, .ref (γ 9 15), .ref (γ 9 16), .ref (γ 9 17), .ref (γ 9 18), .ref (γ 9 19), .ref (γ 9 20), .ref (γ 9 21), .ref (γ 9 22), .int p283923, .int p283924, .int p283925, .int p283926, .int p283927, .ref q283915, .ref (γ 9 29), .int p283928, .ref (γ 9 31), .int p283929, .int p283930, .int p283931, .ref q283916]) := (n283990 q281340 (rn_oa he283914 he283962)).trans he283914
                    have he283995 : F283988 (γ 9 0) = .inl (I (.array .long), 40, .inr (.inr (.inr (.inr f283978)))) := (n283990 (γ 9 0) (rn_ref_long he283977 he283962)).trans he283977
                    have he283996 : F283988 q283980 = .inl (I .long, 32, .inr (.inl f283985)) := (n283990 q283980 (rn_ty ht283981 ht283936 (by decide))).trans he283984
                    have he283997 : F283988 (γ 9 2) = .inl (I .long, 32, .inr (.inl f283991)) := e283989
                    have hs283998 : rStr γ [] F281339 F283988 := rStr_put hs283900 n283990 ht283936 (by decide)
                    have kp283999 : F283988 q281340 = F281339 q281340 := (n283990 q281340 (rn_ty htq281340 ht283936 (by decide))).trans x283901
                    have kp284000 : F283988 (γ 9 3) = F281339 (γ 9 3) := (n283990 (γ 9 3) (rn_ty ht283937 ht283936 (by decide))).trans x283902
                    have wf283991 : lb_W f283991 (32) (32) (2000) := lb_Wst hf283991 wf283963 (by omega) (lb_Mod0 (by omega) (by omega)) qu283987
                    obtain ⟨z284001, hz284001⟩ : ∃ z : Int32, z = g283897 + Int32.ofInt 1 := ⟨_, rfl⟩
                    have ez284001 : z284001.toInt = g283897.toInt + 1 := gI_inc hz284001 (by decide) bg283897' (by decide) (by decide)
                    have bz284001 : gB z284001 1 32 := ⟨by omega, by omega⟩
                    refine G_iinc (L' := [(3, .int z284001), (2, .int g283747), (0, .ref q281340), (1, .ref q281341)]) z284001 0 dr_cX17_behind_60 rfl hz284001.symm (Nat.le_of_ble_eq_true rfl) rfl ?_
                    refine G_goto 33 dr_cX17_behind_63 (by decide +kernel) ?_
                    have hT284002 : RS D I P281338 F283988 γ el := RS_set hT283899 n283990 ht283936 (by decide) ⟨f283991, he283997, wf283991⟩
                    exact ih33_283902 F283988 z284001 (gB_w bz284001 (by decide) (by decide)) hT284002 hs283998 kp283999 kp284000 (fun k e1 ht => kt33_283903 k e1 (fun R c1 c2 => c2 F283898 g283897 f283963 u283964 p283760 p283761 o283974 q283980 f283985 u283986 u283987 f283991 F283988 z284001 k e1 bg283897 hT283899 hs283900 x283901 x283902 r283912 fq283960 he283962 hu283964 fq283965 fq283966 fq283967 bo283974 ht283975 hx283982 he283984 hu283986 hu283987 hf283991 n283990 he283997 ez284001 (ht R c1 c2))) (mz_up ez284001 (Int.le_trans bg283897'.2 (by decide)) hm33_283902)
              exact hlp33_283902 (((33 : Int) - 0).toNat + 1) F283748 0 (gB_w (gBl (show Int32.toInt 0 = 0 by decide)) (by decide) (by decide)) hT283749 hs283750 x283751 x283752 (fun k e1 ht => ht) (Nat.lt_succ_self _)
        exact hlp23_283752 (((3 : Int) - 0).toNat + 1) F283494 0 (gB_w (gBl (show Int32.toInt 0 = 0 by decide)) (by decide) (by decide)) hT283495 hs283496 x283497 x283498 (fun k e1 ht => ht) (Nat.lt_succ_self _)
      · have r284003 : g283493.toInt < 32 := gj_nleL hc283502 (show Int32.toInt 32 = 32 by decide)
        have bg283493' : gB g283493 0 31 := ⟨by omega, by omega⟩
        refine G_aload_n 1 dr_cX17_behind_8 rfl ?_
        have hm284004 : q281340 ∈ P281338 := RS_m hT283495 htq281340 (by decide)
        refine rk10_e (show rk_10 γ (F283494 q281340) from RS_o hT283495 htq281340) (fun q284006 q284007 p284008 p284009 p284010 p284011 p284012 p284013 p284014 p284015 p284016 p284017 p284018 p284019 p284020 p284021 p284022 he284005 hB284049 ht284023 ht284024 ht284025 ht284026 ht284027 ht284028 ht284029 ht284030 ht284031 ht284032 ht284033 ht284034 ht284035 ht284036 ht284037 ht284038 ht284039 ht284040 ht284041 ht284042 ht284043 ht284044 ht284045 ht284046 hB284050 => ?_)
        have fq284051 : fR (F283494 q281340) 2 = (γ 9 2) := by rw [he284005]; rfl
        refine Gp_get 2 hm284004 he284005 dr_cX17_behind_9 (gk_X17 D I) (Nat.le_of_ble_eq_true rfl) wr_7_76 rfl ?_
        refine G_iload_n 0 dr_cX17_behind_12 rfl ?_
        refine G_lconst 0 dr_cX17_behind_13 rfl ?_
        have hm284052 : (γ 9 2) ∈ P281338 := RS_m hT283495 ht284027 (by decide)
        obtain ⟨f284054, he284053, wf284054⟩ := show rk_35 I (F283494 (γ 9 2)) from RS_o hT283495 ht284027
        refine Gp_last 2 hm284052 he284053 dr_cX17_behind_14 rfl (gB_in bg283493' (by decide) (by decide)) (fun F284055 e284056 n284057 => ?_)
        obtain ⟨f284058, hf284058⟩ : ∃ z, z = vp_updL f284054 g283493.toNatClampNeg 0 := ⟨_, rfl⟩
        rw [← hf284058] at e284056
        have he284059 : F284055 q281340 = .inr (22, [.ref (γ 9 0), .ref (γ 9 1), .ref (γ 9 2), .ref (γ 9 3), .ref (γ 9 4), .ref (γ 9 5), .ref (γ 9 6), .ref (γ 9 7), .ref (γ 9 8), .int p284008, .int p284009, .int p284010, .int p284011, .int p284012, .int p284013, .ref (γ 9 15), .ref (γ 9 16), .ref (γ 9 17), .ref (γ 9 18), .ref (γ 9 19), .ref (γ 9 20), .ref (γ 9 21), .ref (γ 9 22), .int p284014, .int p284015, .int p284016, .int p284017, .int p284018, .ref q284006, .ref (γ 9 29), .int p284019, .ref (γ 9 31), .int p284020, .int p284021, .int p284022, .ref q284007]) := (n284057 q281340 (rn_oa he284005 he284053)).trans he284005
        have he284060 : F284055 (γ 9 2) = .inl (I .long, 32, .inr (.inl f284058)) := e284056
        have hs284061 : rStr γ [] F281339 F284055 := rStr_put hs283496 n284057 ht284027 (by decide)
        have kp284062 : F284055 q281340 = F281339 q281340 := (n284057 q281340 (rn_ty htq281340 ht284027 (by decide))).trans x283497
        have kp284063 : F284055 (γ 9 3) = F281339 (γ 9 3) := (n284057 (γ 9 3) (rn_ty ht284028 ht284027 (by decide))).trans x283498
        have wf284058 : lb_W f284058 (32) (32) (2000) := lb_Wst hf284058 wf284054 (by omega) (lb_Mod0 (by omega) (by omega)) lb_Q0
        obtain ⟨z284064, hz284064⟩ : ∃ z : Int32, z = g283493 + Int32.ofInt 1 := ⟨_, rfl⟩
        have ez284064 : z284064.toInt = g283493.toInt + 1 := gI_inc hz284064 (by decide) bg283493' (by decide) (by decide)
        have bz284064 : gB z284064 1 32 := ⟨by omega, by omega⟩
        refine G_iinc (L' := [(2, .int z284064), (0, .ref q281340), (1, .ref q281341)]) z284064 0 dr_cX17_behind_15 rfl hz284064.symm (Nat.le_of_ble_eq_true rfl) rfl ?_
        refine G_goto 2 dr_cX17_behind_18 (by decide +kernel) ?_
        have hT284065 : RS D I P281338 F284055 γ el := RS_set hT283495 n284057 ht284027 (by decide) ⟨f284058, he284060, wf284058⟩
        exact ih2_283498 F284055 z284064 (gB_w bz284064 (by decide) (by decide)) hT284065 hs284061 kp284062 kp284063 (fun k e1 ht => kt2_283499 k e1 (fun R c1 c2 => c2 F283494 g283493 f284054 f284058 F284055 z284064 k e1 bg283493 hT283495 hs283496 x283497 x283498 r284003 fq284051 he284053 hf284058 n284057 he284060 ez284064 (ht R c1 c2))) (mz_up ez284064 (Int.le_trans bg283493'.2 (by decide)) hm2_283498)
  exact hlp2_283498 (((33 : Int) - 0).toNat + 1) F281339 0 (gB_w (gBl (show Int32.toInt 0 = 0 by decide)) (by decide) (by decide)) hT (rStr_rf (γ := γ) (W := []) (F := F281339)) rfl rfl (fun k e1 ht => ht) (Nat.lt_succ_self _)
/- tr_RModel_stand2: F -/
def tr_RModel_stand2 (D : va_G) (I : FieldType → ClassId) (γ el : Nat → Nat → Nat) (F : Nat → va_E) (q0 : Nat) (q1 : Nat) (a2 : Int32) (o1 : Nat → va_E) : Prop := ∀ R : (Nat → va_E) → Prop,
  (∀ (x1 : Int32) (x2 : Int32) (x3 : Int32) (x4 : Int32) (x5 : Int32) (x6 : Int32) (x7 : Int32) (x8 : Int32), fI (F q1) 0 = x1 → fI (F q1) 1 = x2 → fI (F q1) 4 = x3 → gB x4 (-1) 1999 → tr_RModel_setOf2 a2 x1 x2 x3 x4 → x4.toInt < 0 → a2.toInt = 0 → fI (F q1) 5 = x5 → gB x6 0 1 → tr_RRow_usesA2 x1 x5 x6 → x6.toInt = 0 → fI (F q1) 6 = x7 → gB x8 0 1 → tr_RRow_usesB2 x1 x7 x8 → x8.toInt = 0 → R F) →
  (∀ (x1 : Int32) (x2 : Int32) (x3 : Int32) (x4 : Int32) (x5 : Int32) (x6 : Int32) (x7 : Int32) (x8 : Int32) (x9 : Int32) (x10 : Nat → Int32) (x11 : Nat → Int32) (x12 : Nat → va_E), fI (F q1) 0 = x1 → fI (F q1) 1 = x2 → fI (F q1) 4 = x3 → gB x4 (-1) 1999 → tr_RModel_setOf2 a2 x1 x2 x3 x4 → x4.toInt < 0 → a2.toInt = 0 → fI (F q1) 5 = x5 → gB x6 0 1 → tr_RRow_usesA2 x1 x5 x6 → x6.toInt = 0 → fI (F q1) 6 = x7 → gB x8 0 1 → tr_RRow_usesB2 x1 x7 x8 → x8.toInt ≠ 0 → fR (F q0) 3 = (γ 9 3) → fI (F q1) 3 = x9 → F (γ 9 3) = .inl (I .boolean, 2000, .inl x10) → x11 = upd x10 x9.toNatClampNeg (vp_nar .boolean 1) → (∀ b, b ≠ (γ 9 3) → x12 b = F b) → x12 (γ 9 3) = .inl (I .boolean, 2000, .inl x11) → R x12) →
  (∀ (x1 : Int32) (x2 : Int32) (x3 : Int32) (x4 : Int32) (x5 : Int32) (x6 : Int32) (x7 : Int32) (x8 : Nat → Int32) (x9 : Nat → Int32) (x10 : Nat → va_E) (x11 : Int32) (x12 : Int32), fI (F q1) 0 = x1 → fI (F q1) 1 = x2 → fI (F q1) 4 = x3 → gB x4 (-1) 1999 → tr_RModel_setOf2 a2 x1 x2 x3 x4 → x4.toInt < 0 → a2.toInt = 0 → fI (F q1) 5 = x5 → gB x6 0 1 → tr_RRow_usesA2 x1 x5 x6 → x6.toInt ≠ 0 → fR (F q0) 3 = (γ 9 3) → fI (F q1) 2 = x7 → F (γ 9 3) = .inl (I .boolean, 2000, .inl x8) → x9 = upd x8 x7.toNatClampNeg (vp_nar .boolean 1) → (∀ b, b ≠ (γ 9 3) → x10 b = F b) → x10 (γ 9 3) = .inl (I .boolean, 2000, .inl x9) → fI (x10 q1) 0 = x1 → fI (x10 q1) 6 = x11 → gB x12 0 1 → tr_RRow_usesB2 x1 x11 x12 → x12.toInt = 0 → R x10) →
  (∀ (x1 : Int32) (x2 : Int32) (x3 : Int32) (x4 : Int32) (x5 : Int32) (x6 : Int32) (x7 : Int32) (x8 : Nat → Int32) (x9 : Nat → Int32) (x10 : Nat → va_E) (x11 : Int32) (x12 : Int32) (x13 : Int32) (x14 : Nat → Int32) (x15 : Nat → va_E), fI (F q1) 0 = x1 → fI (F q1) 1 = x2 → fI (F q1) 4 = x3 → gB x4 (-1) 1999 → tr_RModel_setOf2 a2 x1 x2 x3 x4 → x4.toInt < 0 → a2.toInt = 0 → fI (F q1) 5 = x5 → gB x6 0 1 → tr_RRow_usesA2 x1 x5 x6 → x6.toInt ≠ 0 → fR (F q0) 3 = (γ 9 3) → fI (F q1) 2 = x7 → F (γ 9 3) = .inl (I .boolean, 2000, .inl x8) → x9 = upd x8 x7.toNatClampNeg (vp_nar .boolean 1) → (∀ b, b ≠ (γ 9 3) → x10 b = F b) → x10 (γ 9 3) = .inl (I .boolean, 2000, .inl x9) → fI (x10 q1) 0 = x1 → fI (x10 q1) 6 = x11 → gB x12 0 1 → tr_RRow_usesB2 x1 x11 x12 → x12.toInt ≠ 0 → fR (x10 q0) 3 = (γ 9 3) → fI (x10 q1) 3 = x13 → x10 (γ 9 3) = .inl (I .boolean, 2000, .inl x9) → x14 = upd x9 x13.toNatClampNeg (vp_nar .boolean 1) → (∀ b, b ≠ (γ 9 3) → x15 b = x10 b) → x15 (γ 9 3) = .inl (I .boolean, 2000, .inl x14) → R x15) →
  (∀ (x1 : Int32) (x2 : Int32) (x3 : Int32) (x4 : Int32), fI (F q1) 0 = x1 → fI (F q1) 1 = x2 → fI (F q1) 4 = x3 → gB x4 (-1) 1999 → tr_RModel_setOf2 a2 x1 x2 x3 x4 → x4.toInt < 0 → a2.toInt ≠ 0 → x1.toInt ≠ 21 → R F) →
  (∀ (x1 : Int32) (x2 : Int32) (x3 : Int32) (x4 : Int32) (x5 : Nat → Int32) (x6 : Nat → Int32) (x7 : Nat → va_E), fI (F q1) 0 = x1 → fI (F q1) 1 = x2 → fI (F q1) 4 = x3 → gB x4 (-1) 1999 → tr_RModel_setOf2 a2 x1 x2 x3 x4 → x4.toInt < 0 → a2.toInt ≠ 0 → x1.toInt = 21 → fR (F q0) 3 = (γ 9 3) → F (γ 9 3) = .inl (I .boolean, 2000, .inl x5) → x6 = upd x5 x3.toNatClampNeg (vp_nar .boolean 1) → (∀ b, b ≠ (γ 9 3) → x7 b = F b) → x7 (γ 9 3) = .inl (I .boolean, 2000, .inl x6) → R x7) →
  (∀ (x1 : Int32) (x2 : Int32) (x3 : Int32) (x4 : Int32) (x5 : Nat → Int32) (x6 : Nat → Int32) (x7 : Nat → va_E) (x8 : Int32) (x9 : Int32) (x10 : Int32) (x11 : Int32), fI (F q1) 0 = x1 → fI (F q1) 1 = x2 → fI (F q1) 4 = x3 → gB x4 (-1) 1999 → tr_RModel_setOf2 a2 x1 x2 x3 x4 → 0 ≤ x4.toInt → fR (F q0) 3 = (γ 9 3) → F (γ 9 3) = .inl (I .boolean, 2000, .inl x5) → x6 = upd x5 x4.toNatClampNeg (vp_nar .boolean 1) → (∀ b, b ≠ (γ 9 3) → x7 b = F b) → x7 (γ 9 3) = .inl (I .boolean, 2000, .inl x6) → a2.toInt = 0 → fI (x7 q1) 0 = x1 → fI (x7 q1) 5 = x8 → gB x9 0 1 → tr_RRow_usesA2 x1 x8 x9 → x9.toInt = 0 → fI (x7 q1) 6 = x10 → gB x11 0 1 → tr_RRow_usesB2 x1 x10 x11 → x11.toInt = 0 → R x7) →
  (∀ (x1 : Int32) (x2 : Int32) (x3 : Int32) (x4 : Int32) (x5 : Nat → Int32) (x6 : Nat → Int32) (x7 : Nat → va_E) (x8 : Int32) (x9 : Int32) (x10 : Int32) (x11 : Int32) (x12 : Int32) (x13 : Nat → Int32) (x14 : Nat → va_E), fI (F q1) 0 = x1 → fI (F q1) 1 = x2 → fI (F q1) 4 = x3 → gB x4 (-1) 1999 → tr_RModel_setOf2 a2 x1 x2 x3 x4 → 0 ≤ x4.toInt → fR (F q0) 3 = (γ 9 3) → F (γ 9 3) = .inl (I .boolean, 2000, .inl x5) → x6 = upd x5 x4.toNatClampNeg (vp_nar .boolean 1) → (∀ b, b ≠ (γ 9 3) → x7 b = F b) → x7 (γ 9 3) = .inl (I .boolean, 2000, .inl x6) → a2.toInt = 0 → fI (x7 q1) 0 = x1 → fI (x7 q1) 5 = x8 → gB x9 0 1 → tr_RRow_usesA2 x1 x8 x9 → x9.toInt = 0 → fI (x7 q1) 6 = x10 → gB x11 0 1 → tr_RRow_usesB2 x1 x10 x11 → x11.toInt ≠ 0 → fR (x7 q0) 3 = (γ 9 3) → fI (x7 q1) 3 = x12 → x7 (γ 9 3) = .inl (I .boolean, 2000, .inl x6) → x13 = upd x6 x12.toNatClampNeg (vp_nar .boolean 1) → (∀ b, b ≠ (γ 9 3) → x14 b = x7 b) → x14 (γ 9 3) = .inl (I .boolean, 2000, .inl x13) → R x14) →
  (∀ (x1 : Int32) (x2 : Int32) (x3 : Int32) (x4 : Int32) (x5 : Nat → Int32) (x6 : Nat → Int32) (x7 : Nat → va_E) (x8 : Int32) (x9 : Int32) (x10 : Int32) (x11 : Nat → Int32) (x12 : Nat → va_E) (x13 : Int32) (x14 : Int32), fI (F q1) 0 = x1 → fI (F q1) 1 = x2 → fI (F q1) 4 = x3 → gB x4 (-1) 1999 → tr_RModel_setOf2 a2 x1 x2 x3 x4 → 0 ≤ x4.toInt → fR (F q0) 3 = (γ 9 3) → F (γ 9 3) = .inl (I .boolean, 2000, .inl x5) → x6 = upd x5 x4.toNatClampNeg (vp_nar .boolean 1) → (∀ b, b ≠ (γ 9 3) → x7 b = F b) → x7 (γ 9 3) = .inl (I .boolean, 2000, .inl x6) → a2.toInt = 0 → fI (x7 q1) 0 = x1 → fI (x7 q1) 5 = x8 → gB x9 0 1 → tr_RRow_usesA2 x1 x8 x9 → x9.toInt ≠ 0 → fR (x7 q0) 3 = (γ 9 3) → fI (x7 q1) 2 = x10 → x7 (γ 9 3) = .inl (I .boolean, 2000, .inl x6) → x11 = upd x6 x10.toNatClampNeg (vp_nar .boolean 1) → (∀ b, b ≠ (γ 9 3) → x12 b = x7 b) → x12 (γ 9 3) = .inl (I .boolean, 2000, .inl x11) → fI (x12 q1) 0 = x1 → fI (x12 q1) 6 = x13 → gB x14 0 1 → tr_RRow_usesB2 x1 x13 x14 → x14.toInt = 0 → R x12) →
  (∀ (x1 : Int32) (x2 : Int32) (x3 : Int32) (x4 : Int32) (x5 : Nat → Int32) (x6 : Nat → Int32) (x7 : Nat → va_E) (x8 : Int32) (x9 : Int32) (x10 : Int32) (x11 : Nat → Int32) (x12 : Nat → va_E) (x13 : Int32) (x14 : Int32) (x15 : Int32) (x16 : Nat → Int32) (x17 : Nat → va_E), fI (F q1) 0 = x1 → fI (F q1) 1 = x2 → fI (F q1) 4 = x3 → gB x4 (-1) 1999 → tr_RModel_setOf2 a2 x1 x2 x3 x4 → 0 ≤ x4.toInt → fR (F q0) 3 = (γ 9 3) → F (γ 9 3) = .inl (I .boolean, 2000, .inl x5) → x6 = upd x5 x4.toNatClampNeg (vp_nar .boolean 1) → (∀ b, b ≠ (γ 9 3) → x7 b = F b) → x7 (γ 9 3) = .inl (I .boolean, 2000, .inl x6) → a2.toInt = 0 → fI (x7 q1) 0 = x1 → fI (x7 q1) 5 = x8 → gB x9 0 1 → tr_RRow_usesA2 x1 x8 x9 → x9.toInt ≠ 0 → fR (x7 q0) 3 = (γ 9 3) → fI (x7 q1) 2 = x10 → x7 (γ 9 3) = .inl (I .boolean, 2000, .inl x6) → x11 = upd x6 x10.toNatClampNeg (vp_nar .boolean 1) → (∀ b, b ≠ (γ 9 3) → x12 b = x7 b) → x12 (γ 9 3) = .inl (I .boolean, 2000, .inl x11) → fI (x12 q1) 0 = x1 → fI (x12 q1) 6 = x13 → gB x14 0 1 → tr_RRow_usesB2 x1 x13 x14 → x14.toInt ≠ 0 → fR (x12 q0) 3 = (γ 9 3) → fI (x12 q1) 3 = x15 → x12 (γ 9 3) = .inl (I .boolean, 2000, .inl x11) → x16 = upd x11 x15.toNatClampNeg (vp_nar .boolean 1) → (∀ b, b ≠ (γ 9 3) → x17 b = x12 b) → x17 (γ 9 3) = .inl (I .boolean, 2000, .inl x16) → R x17) →
  (∀ (x1 : Int32) (x2 : Int32) (x3 : Int32) (x4 : Int32) (x5 : Nat → Int32) (x6 : Nat → Int32) (x7 : Nat → va_E), fI (F q1) 0 = x1 → fI (F q1) 1 = x2 → fI (F q1) 4 = x3 → gB x4 (-1) 1999 → tr_RModel_setOf2 a2 x1 x2 x3 x4 → 0 ≤ x4.toInt → fR (F q0) 3 = (γ 9 3) → F (γ 9 3) = .inl (I .boolean, 2000, .inl x5) → x6 = upd x5 x4.toNatClampNeg (vp_nar .boolean 1) → (∀ b, b ≠ (γ 9 3) → x7 b = F b) → x7 (γ 9 3) = .inl (I .boolean, 2000, .inl x6) → a2.toInt ≠ 0 → fI (x7 q1) 0 = x1 → x1.toInt ≠ 21 → R x7) →
  (∀ (x1 : Int32) (x2 : Int32) (x3 : Int32) (x4 : Int32) (x5 : Nat → Int32) (x6 : Nat → Int32) (x7 : Nat → va_E) (x8 : Nat → Int32) (x9 : Nat → va_E), fI (F q1) 0 = x1 → fI (F q1) 1 = x2 → fI (F q1) 4 = x3 → gB x4 (-1) 1999 → tr_RModel_setOf2 a2 x1 x2 x3 x4 → 0 ≤ x4.toInt → fR (F q0) 3 = (γ 9 3) → F (γ 9 3) = .inl (I .boolean, 2000, .inl x5) → x6 = upd x5 x4.toNatClampNeg (vp_nar .boolean 1) → (∀ b, b ≠ (γ 9 3) → x7 b = F b) → x7 (γ 9 3) = .inl (I .boolean, 2000, .inl x6) → a2.toInt ≠ 0 → fI (x7 q1) 0 = x1 → x1.toInt = 21 → fR (x7 q0) 3 = (γ 9 3) → fI (x7 q1) 4 = x3 → x7 (γ 9 3) = .inl (I .boolean, 2000, .inl x6) → x8 = upd x6 x3.toNatClampNeg (vp_nar .boolean 1) → (∀ b, b ≠ (γ 9 3) → x9 b = x7 b) → x9 (γ 9 3) = .inl (I .boolean, 2000, .inl x8) → R x9) →
  R o1
abbrev ky_284091_SpillForgeModel_stand : gKey := (cX17_stand, 4, "SpillForgeModel", none, [], "stand", fun _ _ => True)
def pt_284091_SpillForgeModel_stand (D : va_G) (I : FieldType → ClassId) (γ el : Nat → Nat → Nat) (P284086 : List Nat) (F284087 : Nat → va_E) (q284088 : Nat) (q284089 : Nat) (p284090 : Int32) : Option Value → va_W → Nat → Nat → Prop := fun r w dc ds => ∃ (F284366 : Nat → va_E), r = none ∧ w = va_pl P284086 F284366 ∧ RS D I P284086 F284366 γ el ∧ rStr γ [] F284087 F284366 ∧ dc ≤ 0 ∧ ds ≤ 0 ∧ (gIp (p284090.toInt = 0) (∀ n : Nat, rSd (cB (F284366 (γ 9 3))) n ↔ (rSd (cB (F284087 (γ 9 3))) n ∨ nmS (F284087 q284089) n))) ∧ (F284366 q284088 = F284087 q284088) ∧ tr_RModel_stand2 D I γ el F284087 q284088 q284089 p284090 F284366
set_option maxRecDepth 100000 in
set_option maxHeartbeats 4000000 in
theorem ct_284091_SpillForgeModel_stand (l : Launch) (hl0 : l.stackTraces = false) (D : va_G) (I : FieldType → ClassId) (γ el : Nat → Nat → Nat) (P284086 : List Nat) (F284087 : Nat → va_E) (q284088 : Nat) (q284089 : Nat) (p284090 : Int32) (hT : RS D I P284086 F284087 γ el) (htq284088 : rKd γ q284088 10) (htq284089 : rKd γ q284089 1) (bp284090 : gB p284090 0 1) : CtA (gV D I) l yX17_stand cX17_stand 4 none 2 41 0 0 [.ref q284088, .ref q284089, .int p284090] (va_pl P284086 F284087) (pt_284091_SpillForgeModel_stand D I γ el P284086 F284087 q284088 q284089 p284090) gNA := by
  refine CtA_of hl0 (by decide) (Nat.le_of_ble_eq_true rfl) ?_
  have hm284092 : q284088 ∈ P284086 := RS_m hT htq284088 (by decide)
  refine rk10_e (show rk_10 γ (F284087 q284088) from RS_o hT htq284088) (fun q284094 q284095 p284096 p284097 p284098 p284099 p284100 p284101 p284102 p284103 p284104 p284105 p284106 p284107 p284108 p284109 p284110 he284093 hB284137 ht284111 ht284112 ht284113 ht284114 ht284115 ht284116 ht284117 ht284118 ht284119 ht284120 ht284121 ht284122 ht284123 ht284124 ht284125 ht284126 ht284127 ht284128 ht284129 ht284130 ht284131 ht284132 ht284133 ht284134 hB284138 => ?_)
  have hm284139 : (γ 9 3) ∈ P284086 := RS_m hT ht284116 (by decide)
  obtain ⟨f284141, he284140, bf284141⟩ := show rk_14 I (F284087 (γ 9 3)) from RS_o hT ht284116
  have hm284142 : q284089 ∈ P284086 := RS_m hT htq284089 (by decide)
  obtain ⟨p284144, p284145, p284146, p284147, p284148, p284149, p284150, he284143, bp284144, bp284145, bp284148, bp284149, bp284150, r284151, r284152, r284153, r284154, r284155⟩ := show rk_1 γ q284089 (F284087 q284089) from RS_o hT htq284089
  have bp284146 := gB_any p284146
  have bp284147 := gB_any p284147
  refine G_aload_n 1 dr_cX17_stand_0 rfl ?_
  refine G_iload_n 2 dr_cX17_stand_1 rfl ?_
  have fq284156 : fI (F284087 q284089) 0 = p284144 := by rw [he284143]; rfl
  have fq284157 : fI (F284087 q284089) 1 = p284145 := by rw [he284143]; rfl
  have fq284158 : fI (F284087 q284089) 4 = p284148 := by rw [he284143]; rfl
  refine Gw_callS (As := [.ref q284089, .int p284090]) (gV_ok D I) (cp_222511_SpillForgeModel_setOf l hl0 D I P284086 F284087 q284089 p284090 p284144 p284145 p284146 p284147 p284148 p284149 p284150 hm284142 he284143 bp284090 bp284144 bp284145 bp284148 bp284149 bp284150) dr_cX17_stand_2 ⟨wr_10_178, wr_1_14, wr_10_180, by decide, rfl, (Nat.le_of_ble_eq_true rfl), (Nat.le_of_ble_eq_true rfl)⟩ wr_10_179 (show 0 + 0 ≤ 0 by first | omega | decide) (show 0 + 0 ≤ 0 by first | omega | decide) (Nat.le_of_ble_eq_true rfl) (fun r284162 w284163 dc284159 ds284160 hp284161 => ?_) (fun _ _ _ _ _ z => z.elim)
  obtain ⟨o284164, rfl, rfl, hdc, hds, bo284164, x284165, ht284166⟩ := hp284161
  change G _ _ _ _ _ _ _ (.int o284164 :: _) _ _ _
  refine G_widen (cs' := 0) (sl' := 0) (by omega) (by omega) ?_
  refine G_istore_n (L' := [(3, .int o284164), (0, .ref q284088), (1, .ref q284089), (2, .int p284090)]) dr_cX17_stand_5 (Nat.le_of_ble_eq_true rfl) rfl ?_
  refine G_iload_n 0 dr_cX17_stand_6 rfl ?_
  refine G_if_lt 17 dr_cX17_stand_7 (by decide +kernel) (fun hc284167 => ?_) (fun hc284167 => ?_)
  · have r284168 : o284164.toInt < 0 := gj_lt hc284167 (show Int32.toInt 0 = 0 by decide)
    have bo284164' : gB o284164 (-1) (-1) := ⟨by omega, by omega⟩
    refine G_iload_n 3 dr_cX17_stand_17 rfl ?_
    refine G_if_eq 41 dr_cX17_stand_18 (by decide +kernel) (fun hc284169 => ?_) (fun hc284169 => ?_)
    · have r284170 : p284090.toInt = 0 := gj_eq hc284169 (show Int32.toInt 0 = 0 by decide)
      have bp284090' : gB p284090 0 0 := gB_t0 r284170
      refine G_aload_n 2 dr_cX17_stand_41 rfl ?_
      have fq284171 : fI (F284087 q284089) 5 = p284149 := by rw [he284143]; rfl
      refine Gw_callV (As := []) (gV_ok D I) (cp_222450_Row_usesA l hl0 D I P284086 F284087 q284089 p284144 p284145 p284146 p284147 p284148 p284149 p284150 hm284142 he284143 bp284144 bp284145 bp284148 bp284149 bp284150) dr_cX17_stand_42 ⟨wr_10_192, wr_1_39, wr_10_195, by decide, rfl, (Nat.le_of_ble_eq_true rfl), (Nat.le_of_ble_eq_true rfl)⟩ wr_10_193 wr_10_194 hm284142 he284143 rfl (show 0 + 0 ≤ 0 by first | omega | decide) (show 0 + 0 ≤ 0 by first | omega | decide) (Nat.le_of_ble_eq_true rfl) (fun r284175 w284176 dc284172 ds284173 hp284174 => ?_) (fun _ _ _ _ _ z => z.elim)
      obtain ⟨o284177, rfl, rfl, hdc, hds, bo284177, x284178, ht284179⟩ := hp284174
      change G _ _ _ _ _ _ _ (.int o284177 :: _) _ _ _
      refine G_widen (cs' := 0) (sl' := 0) (by omega) (by omega) ?_
      refine G_if_eq 58 dr_cX17_stand_45 (by decide +kernel) (fun hc284180 => ?_) (fun hc284180 => ?_)
      · have r284181 : o284177.toInt = 0 := gj_eq hc284180 (show Int32.toInt 0 = 0 by decide)
        have bo284177' : gB o284177 0 0 := gB_t0 r284181
        refine G_aload_n 2 dr_cX17_stand_58 rfl ?_
        have fq284182 : fI (F284087 q284089) 6 = p284150 := by rw [he284143]; rfl
        refine Gw_callV (As := []) (gV_ok D I) (cp_222474_Row_usesB l hl0 D I P284086 F284087 q284089 p284144 p284145 p284146 p284147 p284148 p284149 p284150 hm284142 he284143 bp284144 bp284145 bp284148 bp284149 bp284150) dr_cX17_stand_59 ⟨wr_10_196, wr_1_39, wr_10_199, by decide, rfl, (Nat.le_of_ble_eq_true rfl), (Nat.le_of_ble_eq_true rfl)⟩ wr_10_197 wr_10_198 hm284142 he284143 rfl (show 0 + 0 ≤ 0 by first | omega | decide) (show 0 + 0 ≤ 0 by first | omega | decide) (Nat.le_of_ble_eq_true rfl) (fun r284186 w284187 dc284183 ds284184 hp284185 => ?_) (fun _ _ _ _ _ z => z.elim)
        obtain ⟨o284188, rfl, rfl, hdc, hds, bo284188, x284189, ht284190⟩ := hp284185
        change G _ _ _ _ _ _ _ (.int o284188 :: _) _ _ _
        refine G_widen (cs' := 0) (sl' := 0) (by omega) (by omega) ?_
        refine G_if_eq 75 dr_cX17_stand_62 (by decide +kernel) (fun hc284191 => ?_) (fun hc284191 => ?_)
        · have r284192 : o284188.toInt = 0 := gj_eq hc284191 (show Int32.toInt 0 = 0 by decide)
          have bo284188' : gB o284188 0 0 := gB_t0 r284192
          exact G_vretA dr_cX17_stand_75 rfl (Nat.le_of_ble_eq_true rfl) (Nat.le_of_ble_eq_true rfl) ⟨F284087, rfl, rfl, hT, (rStr_rf (γ := γ) (W := []) (F := F284087)), (Nat.le_of_ble_eq_true rfl), (Nat.le_of_ble_eq_true rfl), (fun _ n => by rw [cB_of he284140, nmS_of he284143]; exact nm_fin false false false (decide_eq_false (show ¬ (p284144.toInt ≤ 21) by omega)) (decide_eq_false (show ¬ (p284144.toInt ≠ 20 ∧ p284144.toInt ≠ 21 ∧ p284144.toInt ≠ 30 ∧ p284149.toInt = 1) by omega)) (decide_eq_false (show ¬ (0 < p284144.toInt ∧ p284144.toInt < 20 ∧ p284150.toInt = 1) by omega)) (by simp)), rfl, (fun R c1 c2 c3 c4 c5 c6 c7 c8 c9 c10 c11 c12 => c1 p284144 p284145 p284148 o284164 p284149 o284177 p284150 o284188 fq284156 fq284157 fq284158 bo284164 ht284166 r284168 r284170 fq284171 bo284177 ht284179 r284181 fq284182 bo284188 ht284190 r284192)⟩
        · have r284193 : o284188.toInt ≠ 0 := gj_neq hc284191 (show Int32.toInt 0 = 0 by decide)
          have bo284188' : gB o284188 1 1 := gB_t1 bo284188 r284193
          refine G_aload_n 1 dr_cX17_stand_65 rfl ?_
          have fq284194 : fR (F284087 q284088) 3 = (γ 9 3) := by rw [he284093]; rfl
          refine Gp_get 3 hm284092 he284093 dr_cX17_stand_66 (gk_X17 D I) (Nat.le_of_ble_eq_true rfl) wr_7_77 rfl ?_
          refine G_aload_n 2 dr_cX17_stand_69 rfl ?_
          have fq284195 : fI (F284087 q284089) 3 = p284147 := by rw [he284143]; rfl
          refine Gp_get 3 hm284142 he284143 dr_cX17_stand_70 (gk_X15 D I) (Nat.le_of_ble_eq_true rfl) wr_9_190 rfl ?_
          refine G_iconst 1 dr_cX17_stand_73 (by decide +kernel) ?_
          refine Gp_zast 3 hm284139 he284140 dr_cX17_stand_74 rfl (gB_inr (by omega) (by omega)) (fun F284196 e284197 n284198 => ?_)
          obtain ⟨f284199, hf284199⟩ : ∃ z, z = upd f284141 p284147.toNatClampNeg (vp_nar .boolean 1) := ⟨_, rfl⟩
          rw [← hf284199] at e284197
          have he284200 : F284196 q284088 = .inr (22, [.ref (γ 9 0), .ref (γ 9 1), .ref (γ 9 2), .ref (γ 9 3), .ref (γ 9 4), .ref (γ 9 5), .ref (γ 9 6), .ref (γ 9 7), .ref (γ 9 8), .int p284096, .int p284097, .int p284098, .int p284099, .int p284100, .int p284101, .ref (γ 9 15), .ref (γ 9 16), .ref (γ 9 17), .ref (γ 9 18), .ref (γ 9 19), .ref (γ 9 20), .ref (γ 9 21), .ref (γ 9 22), .int p284102, .int p284103, .int p284104, .int p284105, .int p284106, .ref q284094, .ref (γ 9 29), .int p284107, .ref (γ 9 31), .int p284108, .int p284109, .int p284110, .ref q284095]) := (n284198 q284088 (rn_oa he284093 he284140)).trans he284093
          have he284201 : F284196 q284089 = .inr (20, [.int p284144, .int p284145, .int p284146, .int p284147, .int p284148, .int p284149, .int p284150]) := (n284198 q284089 (rn_oa he284143 he284140)).trans he284143
          have he284202 : F284196 (γ 9 3) = .inl (I .boolean, 2000, .inl f284199) := e284197
          have hs284203 : rStr γ [] F284087 F284196 := rStr_put (rStr_rf (γ := γ) (W := []) (F := F284087)) n284198 ht284116 (by decide)
          have kp284204 : F284196 q284088 = F284087 q284088 := n284198 q284088 (rn_ty htq284088 ht284116 (by decide))
          have bf284199 : gF f284199 0 1 := gF_upd hf284199 bf284141 (gB_w (gBl (show Int32.toInt 1 = 1 by decide)) (by decide) (by decide))
          have hT284205 : RS D I P284086 F284196 γ el := RS_set hT n284198 ht284116 (by decide) ⟨f284199, he284202, bf284199⟩
          exact G_vretA dr_cX17_stand_75 rfl (Nat.le_of_ble_eq_true rfl) (Nat.le_of_ble_eq_true rfl) ⟨F284196, rfl, rfl, hT284205, hs284203, (Nat.le_of_ble_eq_true rfl), (Nat.le_of_ble_eq_true rfl), (fun _ n => by rw [cB_of he284202, cB_of he284140, nmS_of he284143]; exact nm_fin false false true (decide_eq_false (show ¬ (p284144.toInt ≤ 21) by omega)) (decide_eq_false (show ¬ (p284144.toInt ≠ 20 ∧ p284144.toInt ≠ 21 ∧ p284144.toInt ≠ 30 ∧ p284149.toInt = 1) by omega)) (decide_eq_true (show (0 < p284144.toInt ∧ p284144.toInt < 20 ∧ p284150.toInt = 1) by omega)) (by rw [sd_u hf284199 (by omega) (by omega)]; simp)), kp284204, (fun R c1 c2 c3 c4 c5 c6 c7 c8 c9 c10 c11 c12 => c2 p284144 p284145 p284148 o284164 p284149 o284177 p284150 o284188 p284147 f284141 f284199 F284196 fq284156 fq284157 fq284158 bo284164 ht284166 r284168 r284170 fq284171 bo284177 ht284179 r284181 fq284182 bo284188 ht284190 r284193 fq284194 fq284195 he284140 hf284199 n284198 he284202)⟩
      · have r284206 : o284177.toInt ≠ 0 := gj_neq hc284180 (show Int32.toInt 0 = 0 by decide)
        have bo284177' : gB o284177 1 1 := gB_t1 bo284177 r284206
        refine G_aload_n 1 dr_cX17_stand_48 rfl ?_
        have fq284207 : fR (F284087 q284088) 3 = (γ 9 3) := by rw [he284093]; rfl
        refine Gp_get 3 hm284092 he284093 dr_cX17_stand_49 (gk_X17 D I) (Nat.le_of_ble_eq_true rfl) wr_7_77 rfl ?_
        refine G_aload_n 2 dr_cX17_stand_52 rfl ?_
        have fq284208 : fI (F284087 q284089) 2 = p284146 := by rw [he284143]; rfl
        refine Gp_get 2 hm284142 he284143 dr_cX17_stand_53 (gk_X15 D I) (Nat.le_of_ble_eq_true rfl) wr_9_186 rfl ?_
        refine G_iconst 1 dr_cX17_stand_56 (by decide +kernel) ?_
        refine Gp_zast 3 hm284139 he284140 dr_cX17_stand_57 rfl (gB_inr (by omega) (by omega)) (fun F284209 e284210 n284211 => ?_)
        obtain ⟨f284212, hf284212⟩ : ∃ z, z = upd f284141 p284146.toNatClampNeg (vp_nar .boolean 1) := ⟨_, rfl⟩
        rw [← hf284212] at e284210
        have he284213 : F284209 q284088 = .inr (22, [.ref (γ 9 0), .ref (γ 9 1), .ref (γ 9 2), .ref (γ 9 3), .ref (γ 9 4), .ref (γ 9 5), .ref (γ 9 6), .ref (γ 9 7), .ref (γ 9 8), .int p284096, .int p284097, .int p284098, .int p284099, .int p284100, .int p284101, .ref (γ 9 15), .ref (γ 9 16), .ref (γ 9 17), .ref (γ 9 18), .ref (γ 9 19), .ref (γ 9 20), .ref (γ 9 21), .ref (γ 9 22), .int p284102, .int p284103, .int p284104, .int p284105, .int p284106, .ref q284094, .ref (γ 9 29), .int p284107, .ref (γ 9 31), .int p284108, .int p284109, .int p284110, .ref q284095]) := (n284211 q284088 (rn_oa he284093 he284140)).trans he284093
        have he284214 : F284209 q284089 = .inr (20, [.int p284144, .int p284145, .int p284146, .int p284147, .int p284148, .int p284149, .int p284150]) := (n284211 q284089 (rn_oa he284143 he284140)).trans he284143
        have he284215 : F284209 (γ 9 3) = .inl (I .boolean, 2000, .inl f284212) := e284210
        have hs284216 : rStr γ [] F284087 F284209 := rStr_put (rStr_rf (γ := γ) (W := []) (F := F284087)) n284211 ht284116 (by decide)
        have kp284217 : F284209 q284088 = F284087 q284088 := n284211 q284088 (rn_ty htq284088 ht284116 (by decide))
        have bf284212 : gF f284212 0 1 := gF_upd hf284212 bf284141 (gB_w (gBl (show Int32.toInt 1 = 1 by decide)) (by decide) (by decide))
        refine G_aload_n 2 dr_cX17_stand_58 rfl ?_
        have hT284218 : RS D I P284086 F284209 γ el := RS_set hT n284211 ht284116 (by decide) ⟨f284212, he284215, bf284212⟩
        have fq284219 : fI (F284209 q284089) 0 = p284144 := by rw [he284214]; rfl
        have fq284220 : fI (F284209 q284089) 6 = p284150 := by rw [he284214]; rfl
        refine Gw_callV (As := []) (gV_ok D I) (cp_222474_Row_usesB l hl0 D I P284086 F284209 q284089 p284144 p284145 p284146 p284147 p284148 p284149 p284150 hm284142 he284214 bp284144 bp284145 bp284148 bp284149 bp284150) dr_cX17_stand_59 ⟨wr_10_196, wr_1_39, wr_10_199, by decide, rfl, (Nat.le_of_ble_eq_true rfl), (Nat.le_of_ble_eq_true rfl)⟩ wr_10_197 wr_10_198 hm284142 he284214 rfl (show 0 + 0 ≤ 0 by first | omega | decide) (show 0 + 0 ≤ 0 by first | omega | decide) (Nat.le_of_ble_eq_true rfl) (fun r284224 w284225 dc284221 ds284222 hp284223 => ?_) (fun _ _ _ _ _ z => z.elim)
        obtain ⟨o284226, rfl, rfl, hdc, hds, bo284226, x284227, ht284228⟩ := hp284223
        change G _ _ _ _ _ _ _ (.int o284226 :: _) _ _ _
        refine G_widen (cs' := 0) (sl' := 0) (by omega) (by omega) ?_
        refine G_if_eq 75 dr_cX17_stand_62 (by decide +kernel) (fun hc284229 => ?_) (fun hc284229 => ?_)
        · have r284230 : o284226.toInt = 0 := gj_eq hc284229 (show Int32.toInt 0 = 0 by decide)
          have bo284226' : gB o284226 0 0 := gB_t0 r284230
          exact G_vretA dr_cX17_stand_75 rfl (Nat.le_of_ble_eq_true rfl) (Nat.le_of_ble_eq_true rfl) ⟨F284209, rfl, rfl, hT284218, hs284216, (Nat.le_of_ble_eq_true rfl), (Nat.le_of_ble_eq_true rfl), (fun _ n => by rw [cB_of he284215, cB_of he284140, nmS_of he284143]; exact nm_fin false true false (decide_eq_false (show ¬ (p284144.toInt ≤ 21) by omega)) (decide_eq_true (show (p284144.toInt ≠ 20 ∧ p284144.toInt ≠ 21 ∧ p284144.toInt ≠ 30 ∧ p284149.toInt = 1) by omega)) (decide_eq_false (show ¬ (0 < p284144.toInt ∧ p284144.toInt < 20 ∧ p284150.toInt = 1) by omega)) (by rw [sd_u hf284212 (by omega) (by omega)]; simp)), kp284217, (fun R c1 c2 c3 c4 c5 c6 c7 c8 c9 c10 c11 c12 => c3 p284144 p284145 p284148 o284164 p284149 o284177 p284146 f284141 f284212 F284209 p284150 o284226 fq284156 fq284157 fq284158 bo284164 ht284166 r284168 r284170 fq284171 bo284177 ht284179 r284206 fq284207 fq284208 he284140 hf284212 n284211 he284215 fq284219 fq284220 bo284226 ht284228 r284230)⟩
        · have r284231 : o284226.toInt ≠ 0 := gj_neq hc284229 (show Int32.toInt 0 = 0 by decide)
          have bo284226' : gB o284226 1 1 := gB_t1 bo284226 r284231
          refine G_aload_n 1 dr_cX17_stand_65 rfl ?_
          have fq284232 : fR (F284209 q284088) 3 = (γ 9 3) := by rw [he284213]; rfl
          refine Gp_get 3 hm284092 he284213 dr_cX17_stand_66 (gk_X17 D I) (Nat.le_of_ble_eq_true rfl) wr_7_77 rfl ?_
          refine G_aload_n 2 dr_cX17_stand_69 rfl ?_
          have fq284233 : fI (F284209 q284089) 3 = p284147 := by rw [he284214]; rfl
          refine Gp_get 3 hm284142 he284214 dr_cX17_stand_70 (gk_X15 D I) (Nat.le_of_ble_eq_true rfl) wr_9_190 rfl ?_
          refine G_iconst 1 dr_cX17_stand_73 (by decide +kernel) ?_
          refine Gp_zast 3 hm284139 he284215 dr_cX17_stand_74 rfl (gB_inr (by omega) (by omega)) (fun F284234 e284235 n284236 => ?_)
          obtain ⟨f284237, hf284237⟩ : ∃ z, z = upd f284212 p284147.toNatClampNeg (vp_nar .boolean 1) := ⟨_, rfl⟩
          rw [← hf284237] at e284235
          have he284238 : F284234 q284088 = .inr (22, [.ref (γ 9 0), .ref (γ 9 1), .ref (γ 9 2), .ref (γ 9 3), .ref (γ 9 4), .ref (γ 9 5), .ref (γ 9 6), .ref (γ 9 7), .ref (γ 9 8), .int p284096, .int p284097, .int p284098, .int p284099, .int p284100, .int p284101, .ref (γ 9 15), .ref (γ 9 16), .ref (γ 9 17), .ref (γ 9 18), .ref (γ 9 19), .ref (γ 9 20), .ref (γ 9 21), .ref (γ 9 22), .int p284102, .int p284103, .int p284104, .int p284105, .int p284106, .ref q284094, .ref (γ 9 29), .int p284107, .ref (γ 9 31), .int p284108, .int p284109, .int p284110, .ref q284095]) := (n284236 q284088 (rn_oa he284213 he284215)).trans he284213
          have he284239 : F284234 q284089 = .inr (20, [.int p284144, .int p284145, .int p284146, .int p284147, .int p284148, .int p284149, .int p284150]) := (n284236 q284089 (rn_oa he284214 he284215)).trans he284214
          have he284240 : F284234 (γ 9 3) = .inl (I .boolean, 2000, .inl f284237) := e284235
          have hs284241 : rStr γ [] F284087 F284234 := rStr_put hs284216 n284236 ht284116 (by decide)
          have kp284242 : F284234 q284088 = F284087 q284088 := (n284236 q284088 (rn_ty htq284088 ht284116 (by decide))).trans kp284217
          have bf284237 : gF f284237 0 1 := gF_upd hf284237 bf284212 (gB_w (gBl (show Int32.toInt 1 = 1 by decide)) (by decide) (by decide))
          have hT284243 : RS D I P284086 F284234 γ el := RS_set hT284218 n284236 ht284116 (by decide) ⟨f284237, he284240, bf284237⟩
          exact G_vretA dr_cX17_stand_75 rfl (Nat.le_of_ble_eq_true rfl) (Nat.le_of_ble_eq_true rfl) ⟨F284234, rfl, rfl, hT284243, hs284241, (Nat.le_of_ble_eq_true rfl), (Nat.le_of_ble_eq_true rfl), (fun _ n => by rw [cB_of he284240, cB_of he284140, nmS_of he284143]; exact nm_fin false true true (decide_eq_false (show ¬ (p284144.toInt ≤ 21) by omega)) (decide_eq_true (show (p284144.toInt ≠ 20 ∧ p284144.toInt ≠ 21 ∧ p284144.toInt ≠ 30 ∧ p284149.toInt = 1) by omega)) (decide_eq_true (show (0 < p284144.toInt ∧ p284144.toInt < 20 ∧ p284150.toInt = 1) by omega)) (by rw [sd_u hf284237 (by omega) (by omega), sd_u hf284212 (by omega) (by omega)]; simp)), kp284242, (fun R c1 c2 c3 c4 c5 c6 c7 c8 c9 c10 c11 c12 => c4 p284144 p284145 p284148 o284164 p284149 o284177 p284146 f284141 f284212 F284209 p284150 o284226 p284147 f284237 F284234 fq284156 fq284157 fq284158 bo284164 ht284166 r284168 r284170 fq284171 bo284177 ht284179 r284206 fq284207 fq284208 he284140 hf284212 n284211 he284215 fq284219 fq284220 bo284226 ht284228 r284231 fq284232 fq284233 he284215 hf284237 n284236 he284240)⟩
    · have r284244 : p284090.toInt ≠ 0 := gj_neq hc284169 (show Int32.toInt 0 = 0 by decide)
      have bp284090' : gB p284090 1 1 := gB_t1 bp284090 r284244
      refine G_aload_n 2 dr_cX17_stand_21 rfl ?_
      refine Gp_get 0 hm284142 he284143 dr_cX17_stand_22 (gk_X15 D I) (Nat.le_of_ble_eq_true rfl) wr_9_177 rfl ?_
      refine G_bipush 21 dr_cX17_stand_25 (by decide +kernel) ?_
      refine G_icmp_ne 40 dr_cX17_stand_27 (by decide +kernel) (fun hc284245 => ?_) (fun hc284245 => ?_)
      · have r284246 : p284144.toInt ≠ 21 := gj_neq hc284245 (show Int32.toInt 21 = 21 by decide)
        exact G_vretA dr_cX17_stand_40 rfl (Nat.le_of_ble_eq_true rfl) (Nat.le_of_ble_eq_true rfl) ⟨F284087, rfl, rfl, hT, (rStr_rf (γ := γ) (W := []) (F := F284087)), (Nat.le_of_ble_eq_true rfl), (Nat.le_of_ble_eq_true rfl), (fun h => absurd h (by omega)), rfl, (fun R c1 c2 c3 c4 c5 c6 c7 c8 c9 c10 c11 c12 => c5 p284144 p284145 p284148 o284164 fq284156 fq284157 fq284158 bo284164 ht284166 r284168 r284244 r284246)⟩
      · have r284247 : p284144.toInt = 21 := gj_eq hc284245 (show Int32.toInt 21 = 21 by decide)
        have bp284144' : gB p284144 21 21 := ⟨by omega, by omega⟩
        refine G_aload_n 1 dr_cX17_stand_30 rfl ?_
        have fq284248 : fR (F284087 q284088) 3 = (γ 9 3) := by rw [he284093]; rfl
        refine Gp_get 3 hm284092 he284093 dr_cX17_stand_31 (gk_X17 D I) (Nat.le_of_ble_eq_true rfl) wr_7_77 rfl ?_
        refine G_aload_n 2 dr_cX17_stand_34 rfl ?_
        refine Gp_get 4 hm284142 he284143 dr_cX17_stand_35 (gk_X15 D I) (Nat.le_of_ble_eq_true rfl) wr_9_193 rfl ?_
        refine G_iconst 1 dr_cX17_stand_38 (by decide +kernel) ?_
        refine Gp_zast 3 hm284139 he284140 dr_cX17_stand_39 rfl (gB_in bp284148 (by decide) (by decide)) (fun F284249 e284250 n284251 => ?_)
        obtain ⟨f284252, hf284252⟩ : ∃ z, z = upd f284141 p284148.toNatClampNeg (vp_nar .boolean 1) := ⟨_, rfl⟩
        rw [← hf284252] at e284250
        have he284253 : F284249 q284088 = .inr (22, [.ref (γ 9 0), .ref (γ 9 1), .ref (γ 9 2), .ref (γ 9 3), .ref (γ 9 4), .ref (γ 9 5), .ref (γ 9 6), .ref (γ 9 7), .ref (γ 9 8), .int p284096, .int p284097, .int p284098, .int p284099, .int p284100, .int p284101, .ref (γ 9 15), .ref (γ 9 16), .ref (γ 9 17), .ref (γ 9 18), .ref (γ 9 19), .ref (γ 9 20), .ref (γ 9 21), .ref (γ 9 22), .int p284102, .int p284103, .int p284104, .int p284105, .int p284106, .ref q284094, .ref (γ 9 29), .int p284107, .ref (γ 9 31), .int p284108, .int p284109, .int p284110, .ref q284095]) := (n284251 q284088 (rn_oa he284093 he284140)).trans he284093
        have he284254 : F284249 q284089 = .inr (20, [.int p284144, .int p284145, .int p284146, .int p284147, .int p284148, .int p284149, .int p284150]) := (n284251 q284089 (rn_oa he284143 he284140)).trans he284143
        have he284255 : F284249 (γ 9 3) = .inl (I .boolean, 2000, .inl f284252) := e284250
        have hs284256 : rStr γ [] F284087 F284249 := rStr_put (rStr_rf (γ := γ) (W := []) (F := F284087)) n284251 ht284116 (by decide)
        have kp284257 : F284249 q284088 = F284087 q284088 := n284251 q284088 (rn_ty htq284088 ht284116 (by decide))
        have bf284252 : gF f284252 0 1 := gF_upd hf284252 bf284141 (gB_w (gBl (show Int32.toInt 1 = 1 by decide)) (by decide) (by decide))
        have hT284258 : RS D I P284086 F284249 γ el := RS_set hT n284251 ht284116 (by decide) ⟨f284252, he284255, bf284252⟩
        exact G_vretA dr_cX17_stand_40 rfl (Nat.le_of_ble_eq_true rfl) (Nat.le_of_ble_eq_true rfl) ⟨F284249, rfl, rfl, hT284258, hs284256, (Nat.le_of_ble_eq_true rfl), (Nat.le_of_ble_eq_true rfl), (fun h => absurd h (by omega)), kp284257, (fun R c1 c2 c3 c4 c5 c6 c7 c8 c9 c10 c11 c12 => c6 p284144 p284145 p284148 o284164 f284141 f284252 F284249 fq284156 fq284157 fq284158 bo284164 ht284166 r284168 r284244 r284247 fq284248 he284140 hf284252 n284251 he284255)⟩
  · have r284259 : 0 ≤ o284164.toInt := gj_nlt hc284167 (show Int32.toInt 0 = 0 by decide)
    have bo284164' : gB o284164 0 1999 := ⟨by omega, by omega⟩
    refine G_aload_n 1 dr_cX17_stand_10 rfl ?_
    have fq284260 : fR (F284087 q284088) 3 = (γ 9 3) := by rw [he284093]; rfl
    refine Gp_get 3 hm284092 he284093 dr_cX17_stand_11 (gk_X17 D I) (Nat.le_of_ble_eq_true rfl) wr_7_77 rfl ?_
    refine G_iload_n 0 dr_cX17_stand_14 rfl ?_
    refine G_iconst 1 dr_cX17_stand_15 (by decide +kernel) ?_
    refine Gp_zast 3 hm284139 he284140 dr_cX17_stand_16 rfl (gB_in bo284164' (by decide) (by decide)) (fun F284261 e284262 n284263 => ?_)
    obtain ⟨f284264, hf284264⟩ : ∃ z, z = upd f284141 o284164.toNatClampNeg (vp_nar .boolean 1) := ⟨_, rfl⟩
    rw [← hf284264] at e284262
    have he284265 : F284261 q284088 = .inr (22, [.ref (γ 9 0), .ref (γ 9 1), .ref (γ 9 2), .ref (γ 9 3), .ref (γ 9 4), .ref (γ 9 5), .ref (γ 9 6), .ref (γ 9 7), .ref (γ 9 8), .int p284096, .int p284097, .int p284098, .int p284099, .int p284100, .int p284101, .ref (γ 9 15), .ref (γ 9 16), .ref (γ 9 17), .ref (γ 9 18), .ref (γ 9 19), .ref (γ 9 20), .ref (γ 9 21), .ref (γ 9 22), .int p284102, .int p284103, .int p284104, .int p284105, .int p284106, .ref q284094, .ref (γ 9 29), .int p284107, .ref (γ 9 31), .int p284108, .int p284109, .int p284110, .ref q284095]) := (n284263 q284088 (rn_oa he284093 he284140)).trans he284093
    have he284266 : F284261 q284089 = .inr (20, [.int p284144, .int p284145, .int p284146, .int p284147, .int p284148, .int p284149, .int p284150]) := (n284263 q284089 (rn_oa he284143 he284140)).trans he284143
    have he284267 : F284261 (γ 9 3) = .inl (I .boolean, 2000, .inl f284264) := e284262
    have hs284268 : rStr γ [] F284087 F284261 := rStr_put (rStr_rf (γ := γ) (W := []) (F := F284087)) n284263 ht284116 (by decide)
    have kp284269 : F284261 q284088 = F284087 q284088 := n284263 q284088 (rn_ty htq284088 ht284116 (by decide))
    have bf284264 : gF f284264 0 1 := gF_upd hf284264 bf284141 (gB_w (gBl (show Int32.toInt 1 = 1 by decide)) (by decide) (by decide))
    refine G_iload_n 3 dr_cX17_stand_17 rfl ?_
    refine G_if_eq 41 dr_cX17_stand_18 (by decide +kernel) (fun hc284270 => ?_) (fun hc284270 => ?_)
    · have r284271 : p284090.toInt = 0 := gj_eq hc284270 (show Int32.toInt 0 = 0 by decide)
      have bp284090' : gB p284090 0 0 := gB_t0 r284271
      refine G_aload_n 2 dr_cX17_stand_41 rfl ?_
      have hT284272 : RS D I P284086 F284261 γ el := RS_set hT n284263 ht284116 (by decide) ⟨f284264, he284267, bf284264⟩
      have fq284273 : fI (F284261 q284089) 0 = p284144 := by rw [he284266]; rfl
      have fq284274 : fI (F284261 q284089) 5 = p284149 := by rw [he284266]; rfl
      refine Gw_callV (As := []) (gV_ok D I) (cp_222450_Row_usesA l hl0 D I P284086 F284261 q284089 p284144 p284145 p284146 p284147 p284148 p284149 p284150 hm284142 he284266 bp284144 bp284145 bp284148 bp284149 bp284150) dr_cX17_stand_42 ⟨wr_10_192, wr_1_39, wr_10_195, by decide, rfl, (Nat.le_of_ble_eq_true rfl), (Nat.le_of_ble_eq_true rfl)⟩ wr_10_193 wr_10_194 hm284142 he284266 rfl (show 0 + 0 ≤ 0 by first | omega | decide) (show 0 + 0 ≤ 0 by first | omega | decide) (Nat.le_of_ble_eq_true rfl) (fun r284278 w284279 dc284275 ds284276 hp284277 => ?_) (fun _ _ _ _ _ z => z.elim)
      obtain ⟨o284280, rfl, rfl, hdc, hds, bo284280, x284281, ht284282⟩ := hp284277
      change G _ _ _ _ _ _ _ (.int o284280 :: _) _ _ _
      refine G_widen (cs' := 0) (sl' := 0) (by omega) (by omega) ?_
      refine G_if_eq 58 dr_cX17_stand_45 (by decide +kernel) (fun hc284283 => ?_) (fun hc284283 => ?_)
      · have r284284 : o284280.toInt = 0 := gj_eq hc284283 (show Int32.toInt 0 = 0 by decide)
        have bo284280' : gB o284280 0 0 := gB_t0 r284284
        refine G_aload_n 2 dr_cX17_stand_58 rfl ?_
        have fq284285 : fI (F284261 q284089) 6 = p284150 := by rw [he284266]; rfl
        refine Gw_callV (As := []) (gV_ok D I) (cp_222474_Row_usesB l hl0 D I P284086 F284261 q284089 p284144 p284145 p284146 p284147 p284148 p284149 p284150 hm284142 he284266 bp284144 bp284145 bp284148 bp284149 bp284150) dr_cX17_stand_59 ⟨wr_10_196, wr_1_39, wr_10_199, by decide, rfl, (Nat.le_of_ble_eq_true rfl), (Nat.le_of_ble_eq_true rfl)⟩ wr_10_197 wr_10_198 hm284142 he284266 rfl (show 0 + 0 ≤ 0 by first | omega | decide) (show 0 + 0 ≤ 0 by first | omega | decide) (Nat.le_of_ble_eq_true rfl) (fun r284289 w284290 dc284286 ds284287 hp284288 => ?_) (fun _ _ _ _ _ z => z.elim)
        obtain ⟨o284291, rfl, rfl, hdc, hds, bo284291, x284292, ht284293⟩ := hp284288
        change G _ _ _ _ _ _ _ (.int o284291 :: _) _ _ _
        refine G_widen (cs' := 0) (sl' := 0) (by omega) (by omega) ?_
        refine G_if_eq 75 dr_cX17_stand_62 (by decide +kernel) (fun hc284294 => ?_) (fun hc284294 => ?_)
        · have r284295 : o284291.toInt = 0 := gj_eq hc284294 (show Int32.toInt 0 = 0 by decide)
          have bo284291' : gB o284291 0 0 := gB_t0 r284295
          exact G_vretA dr_cX17_stand_75 rfl (Nat.le_of_ble_eq_true rfl) (Nat.le_of_ble_eq_true rfl) ⟨F284261, rfl, rfl, hT284272, hs284268, (Nat.le_of_ble_eq_true rfl), (Nat.le_of_ble_eq_true rfl), (fun _ n => by rw [cB_of he284267, cB_of he284140, nmS_of he284143]; exact nm_fin true false false (decide_eq_true (show (p284144.toInt ≤ 21) by omega)) (decide_eq_false (show ¬ (p284144.toInt ≠ 20 ∧ p284144.toInt ≠ 21 ∧ p284144.toInt ≠ 30 ∧ p284149.toInt = 1) by omega)) (decide_eq_false (show ¬ (0 < p284144.toInt ∧ p284144.toInt < 20 ∧ p284150.toInt = 1) by omega)) (by rw [sd_u hf284264 (by omega) (by omega), show o284164.toInt = p284145.toInt by omega]; simp)), kp284269, (fun R c1 c2 c3 c4 c5 c6 c7 c8 c9 c10 c11 c12 => c7 p284144 p284145 p284148 o284164 f284141 f284264 F284261 p284149 o284280 p284150 o284291 fq284156 fq284157 fq284158 bo284164 ht284166 r284259 fq284260 he284140 hf284264 n284263 he284267 r284271 fq284273 fq284274 bo284280 ht284282 r284284 fq284285 bo284291 ht284293 r284295)⟩
        · have r284296 : o284291.toInt ≠ 0 := gj_neq hc284294 (show Int32.toInt 0 = 0 by decide)
          have bo284291' : gB o284291 1 1 := gB_t1 bo284291 r284296
          refine G_aload_n 1 dr_cX17_stand_65 rfl ?_
          have fq284297 : fR (F284261 q284088) 3 = (γ 9 3) := by rw [he284265]; rfl
          refine Gp_get 3 hm284092 he284265 dr_cX17_stand_66 (gk_X17 D I) (Nat.le_of_ble_eq_true rfl) wr_7_77 rfl ?_
          refine G_aload_n 2 dr_cX17_stand_69 rfl ?_
          have fq284298 : fI (F284261 q284089) 3 = p284147 := by rw [he284266]; rfl
          refine Gp_get 3 hm284142 he284266 dr_cX17_stand_70 (gk_X15 D I) (Nat.le_of_ble_eq_true rfl) wr_9_190 rfl ?_
          refine G_iconst 1 dr_cX17_stand_73 (by decide +kernel) ?_
          refine Gp_zast 3 hm284139 he284267 dr_cX17_stand_74 rfl (gB_inr (by omega) (by omega)) (fun F284299 e284300 n284301 => ?_)
          obtain ⟨f284302, hf284302⟩ : ∃ z, z = upd f284264 p284147.toNatClampNeg (vp_nar .boolean 1) := ⟨_, rfl⟩
          rw [← hf284302] at e284300
          have he284303 : F284299 q284088 = .inr (22, [.ref (γ 9 0), .ref (γ 9 1), .ref (γ 9 2), .ref (γ 9 3), .ref (γ 9 4), .ref (γ 9 5), .ref (γ 9 6), .ref (γ 9 7), .ref (γ 9 8), .int p284096, .int p284097, .int p284098, .int p284099, .int p284100, .int p284101, .ref (γ 9 15), .ref (γ 9 16), .ref (γ 9 17), .ref (γ 9 18), .ref (γ 9 19), .ref (γ 9 20), .ref (γ 9 21), .ref (γ 9 22), .int p284102, .int p284103, .int p284104, .int p284105, .int p284106, .ref q284094, .ref (γ 9 29), .int p284107, .ref (γ 9 31), .int p284108, .int p284109, .int p284110, .ref q284095]) := (n284301 q284088 (rn_oa he284265 he284267)).trans he284265
          have he284304 : F284299 q284089 = .inr (20, [.int p284144, .int p284145, .int p284146, .int p284147, .int p284148, .int p284149, .int p284150]) := (n284301 q284089 (rn_oa he284266 he284267)).trans he284266
          have he284305 : F284299 (γ 9 3) = .inl (I .boolean, 2000, .inl f284302) := e284300
          have hs284306 : rStr γ [] F284087 F284299 := rStr_put hs284268 n284301 ht284116 (by decide)
          have kp284307 : F284299 q284088 = F284087 q284088 := (n284301 q284088 (rn_ty htq284088 ht284116 (by decide))).trans kp284269
          have bf284302 : gF f284302 0 1 := gF_upd hf284302 bf284264 (gB_w (gBl (show Int32.toInt 1 = 1 by decide)) (by decide) (by decide))
          have hT284308 : RS D I P284086 F284299 γ el := RS_set hT284272 n284301 ht284116 (by decide) ⟨f284302, he284305, bf284302⟩
          exact G_vretA dr_cX17_stand_75 rfl (Nat.le_of_ble_eq_true rfl) (Nat.le_of_ble_eq_true rfl) ⟨F284299, rfl, rfl, hT284308, hs284306, (Nat.le_of_ble_eq_true rfl), (Nat.le_of_ble_eq_true rfl), (fun _ n => by rw [cB_of he284305, cB_of he284140, nmS_of he284143]; exact nm_fin true false true (decide_eq_true (show (p284144.toInt ≤ 21) by omega)) (decide_eq_false (show ¬ (p284144.toInt ≠ 20 ∧ p284144.toInt ≠ 21 ∧ p284144.toInt ≠ 30 ∧ p284149.toInt = 1) by omega)) (decide_eq_true (show (0 < p284144.toInt ∧ p284144.toInt < 20 ∧ p284150.toInt = 1) by omega)) (by rw [sd_u hf284302 (by omega) (by omega), sd_u hf284264 (by omega) (by omega), show o284164.toInt = p284145.toInt by omega]; simp)), kp284307, (fun R c1 c2 c3 c4 c5 c6 c7 c8 c9 c10 c11 c12 => c8 p284144 p284145 p284148 o284164 f284141 f284264 F284261 p284149 o284280 p284150 o284291 p284147 f284302 F284299 fq284156 fq284157 fq284158 bo284164 ht284166 r284259 fq284260 he284140 hf284264 n284263 he284267 r284271 fq284273 fq284274 bo284280 ht284282 r284284 fq284285 bo284291 ht284293 r284296 fq284297 fq284298 he284267 hf284302 n284301 he284305)⟩
      · have r284309 : o284280.toInt ≠ 0 := gj_neq hc284283 (show Int32.toInt 0 = 0 by decide)
        have bo284280' : gB o284280 1 1 := gB_t1 bo284280 r284309
        refine G_aload_n 1 dr_cX17_stand_48 rfl ?_
        have fq284310 : fR (F284261 q284088) 3 = (γ 9 3) := by rw [he284265]; rfl
        refine Gp_get 3 hm284092 he284265 dr_cX17_stand_49 (gk_X17 D I) (Nat.le_of_ble_eq_true rfl) wr_7_77 rfl ?_
        refine G_aload_n 2 dr_cX17_stand_52 rfl ?_
        have fq284311 : fI (F284261 q284089) 2 = p284146 := by rw [he284266]; rfl
        refine Gp_get 2 hm284142 he284266 dr_cX17_stand_53 (gk_X15 D I) (Nat.le_of_ble_eq_true rfl) wr_9_186 rfl ?_
        refine G_iconst 1 dr_cX17_stand_56 (by decide +kernel) ?_
        refine Gp_zast 3 hm284139 he284267 dr_cX17_stand_57 rfl (gB_inr (by omega) (by omega)) (fun F284312 e284313 n284314 => ?_)
        obtain ⟨f284315, hf284315⟩ : ∃ z, z = upd f284264 p284146.toNatClampNeg (vp_nar .boolean 1) := ⟨_, rfl⟩
        rw [← hf284315] at e284313
        have he284316 : F284312 q284088 = .inr (22, [.ref (γ 9 0), .ref (γ 9 1), .ref (γ 9 2), .ref (γ 9 3), .ref (γ 9 4), .ref (γ 9 5), .ref (γ 9 6), .ref (γ 9 7), .ref (γ 9 8), .int p284096, .int p284097, .int p284098, .int p284099, .int p284100, .int p284101, .ref (γ 9 15), .ref (γ 9 16), .ref (γ 9 17), .ref (γ 9 18), .ref (γ 9 19), .ref (γ 9 20), .ref (γ 9 21), .ref (γ 9 22), .int p284102, .int p284103, .int p284104, .int p284105, .int p284106, .ref q284094, .ref (γ 9 29), .int p284107, .ref (γ 9 31), .int p284108, .int p284109, .int p284110, .ref q284095]) := (n284314 q284088 (rn_oa he284265 he284267)).trans he284265
        have he284317 : F284312 q284089 = .inr (20, [.int p284144, .int p284145, .int p284146, .int p284147, .int p284148, .int p284149, .int p284150]) := (n284314 q284089 (rn_oa he284266 he284267)).trans he284266
        have he284318 : F284312 (γ 9 3) = .inl (I .boolean, 2000, .inl f284315) := e284313
        have hs284319 : rStr γ [] F284087 F284312 := rStr_put hs284268 n284314 ht284116 (by decide)
        have kp284320 : F284312 q284088 = F284087 q284088 := (n284314 q284088 (rn_ty htq284088 ht284116 (by decide))).trans kp284269
        have bf284315 : gF f284315 0 1 := gF_upd hf284315 bf284264 (gB_w (gBl (show Int32.toInt 1 = 1 by decide)) (by decide) (by decide))
        refine G_aload_n 2 dr_cX17_stand_58 rfl ?_
        have hT284321 : RS D I P284086 F284312 γ el := RS_set hT284272 n284314 ht284116 (by decide) ⟨f284315, he284318, bf284315⟩
        have fq284322 : fI (F284312 q284089) 0 = p284144 := by rw [he284317]; rfl
        have fq284323 : fI (F284312 q284089) 6 = p284150 := by rw [he284317]; rfl
        refine Gw_callV (As := []) (gV_ok D I) (cp_222474_Row_usesB l hl0 D I P284086 F284312 q284089 p284144 p284145 p284146 p284147 p284148 p284149 p284150 hm284142 he284317 bp284144 bp284145 bp284148 bp284149 bp284150) dr_cX17_stand_59 ⟨wr_10_196, wr_1_39, wr_10_199, by decide, rfl, (Nat.le_of_ble_eq_true rfl), (Nat.le_of_ble_eq_true rfl)⟩ wr_10_197 wr_10_198 hm284142 he284317 rfl (show 0 + 0 ≤ 0 by first | omega | decide) (show 0 + 0 ≤ 0 by first | omega | decide) (Nat.le_of_ble_eq_true rfl) (fun r284327 w284328 dc284324 ds284325 hp284326 => ?_) (fun _ _ _ _ _ z => z.elim)
        obtain ⟨o284329, rfl, rfl, hdc, hds, bo284329, x284330, ht284331⟩ := hp284326
        change G _ _ _ _ _ _ _ (.int o284329 :: _) _ _ _
        refine G_widen (cs' := 0) (sl' := 0) (by omega) (by omega) ?_
        refine G_if_eq 75 dr_cX17_stand_62 (by decide +kernel) (fun hc284332 => ?_) (fun hc284332 => ?_)
        · have r284333 : o284329.toInt = 0 := gj_eq hc284332 (show Int32.toInt 0 = 0 by decide)
          have bo284329' : gB o284329 0 0 := gB_t0 r284333
          exact G_vretA dr_cX17_stand_75 rfl (Nat.le_of_ble_eq_true rfl) (Nat.le_of_ble_eq_true rfl) ⟨F284312, rfl, rfl, hT284321, hs284319, (Nat.le_of_ble_eq_true rfl), (Nat.le_of_ble_eq_true rfl), (fun _ n => by rw [cB_of he284318, cB_of he284140, nmS_of he284143]; exact nm_fin true true false (decide_eq_true (show (p284144.toInt ≤ 21) by omega)) (decide_eq_true (show (p284144.toInt ≠ 20 ∧ p284144.toInt ≠ 21 ∧ p284144.toInt ≠ 30 ∧ p284149.toInt = 1) by omega)) (decide_eq_false (show ¬ (0 < p284144.toInt ∧ p284144.toInt < 20 ∧ p284150.toInt = 1) by omega)) (by rw [sd_u hf284315 (by omega) (by omega), sd_u hf284264 (by omega) (by omega), show o284164.toInt = p284145.toInt by omega]; simp)), kp284320, (fun R c1 c2 c3 c4 c5 c6 c7 c8 c9 c10 c11 c12 => c9 p284144 p284145 p284148 o284164 f284141 f284264 F284261 p284149 o284280 p284146 f284315 F284312 p284150 o284329 fq284156 fq284157 fq284158 bo284164 ht284166 r284259 fq284260 he284140 hf284264 n284263 he284267 r284271 fq284273 fq284274 bo284280 ht284282 r284309 fq284310 fq284311 he284267 hf284315 n284314 he284318 fq284322 fq284323 bo284329 ht284331 r284333)⟩
        · have r284334 : o284329.toInt ≠ 0 := gj_neq hc284332 (show Int32.toInt 0 = 0 by decide)
          have bo284329' : gB o284329 1 1 := gB_t1 bo284329 r284334
          refine G_aload_n 1 dr_cX17_stand_65 rfl ?_
          have fq284335 : fR (F284312 q284088) 3 = (γ 9 3) := by rw [he284316]; rfl
          refine Gp_get 3 hm284092 he284316 dr_cX17_stand_66 (gk_X17 D I) (Nat.le_of_ble_eq_true rfl) wr_7_77 rfl ?_
          refine G_aload_n 2 dr_cX17_stand_69 rfl ?_
          have fq284336 : fI (F284312 q284089) 3 = p284147 := by rw [he284317]; rfl
          refine Gp_get 3 hm284142 he284317 dr_cX17_stand_70 (gk_X15 D I) (Nat.le_of_ble_eq_true rfl) wr_9_190 rfl ?_
          refine G_iconst 1 dr_cX17_stand_73 (by decide +kernel) ?_
          refine Gp_zast 3 hm284139 he284318 dr_cX17_stand_74 rfl (gB_inr (by omega) (by omega)) (fun F284337 e284338 n284339 => ?_)
          obtain ⟨f284340, hf284340⟩ : ∃ z, z = upd f284315 p284147.toNatClampNeg (vp_nar .boolean 1) := ⟨_, rfl⟩
          rw [← hf284340] at e284338
          have he284341 : F284337 q284088 = .inr (22, [.ref (γ 9 0), .ref (γ 9 1), .ref (γ 9 2), .ref (γ 9 3), .ref (γ 9 4), .ref (γ 9 5), .ref (γ 9 6), .ref (γ 9 7), .ref (γ 9 8), .int p284096, .int p284097, .int p284098, .int p284099, .int p284100, .int p284101, .ref (γ 9 15), .ref (γ 9 16), .ref (γ 9 17), .ref (γ 9 18), .ref (γ 9 19), .ref (γ 9 20), .ref (γ 9 21), .ref (γ 9 22), .int p284102, .int p284103, .int p284104, .int p284105, .int p284106, .ref q284094, .ref (γ 9 29), .int p284107, .ref (γ 9 31), .int p284108, .int p284109, .int p284110, .ref q284095]) := (n284339 q284088 (rn_oa he284316 he284318)).trans he284316
          have he284342 : F284337 q284089 = .inr (20, [.int p284144, .int p284145, .int p284146, .int p284147, .int p284148, .int p284149, .int p284150]) := (n284339 q284089 (rn_oa he284317 he284318)).trans he284317
          have he284343 : F284337 (γ 9 3) = .inl (I .boolean, 2000, .inl f284340) := e284338
          have hs284344 : rStr γ [] F284087 F284337 := rStr_put hs284319 n284339 ht284116 (by decide)
          have kp284345 : F284337 q284088 = F284087 q284088 := (n284339 q284088 (rn_ty htq284088 ht284116 (by decide))).trans kp284320
          have bf284340 : gF f284340 0 1 := gF_upd hf284340 bf284315 (gB_w (gBl (show Int32.toInt 1 = 1 by decide)) (by decide) (by decide))
          have hT284346 : RS D I P284086 F284337 γ el := RS_set hT284321 n284339 ht284116 (by decide) ⟨f284340, he284343, bf284340⟩
          exact G_vretA dr_cX17_stand_75 rfl (Nat.le_of_ble_eq_true rfl) (Nat.le_of_ble_eq_true rfl) ⟨F284337, rfl, rfl, hT284346, hs284344, (Nat.le_of_ble_eq_true rfl), (Nat.le_of_ble_eq_true rfl), (fun _ n => by rw [cB_of he284343, cB_of he284140, nmS_of he284143]; exact nm_fin true true true (decide_eq_true (show (p284144.toInt ≤ 21) by omega)) (decide_eq_true (show (p284144.toInt ≠ 20 ∧ p284144.toInt ≠ 21 ∧ p284144.toInt ≠ 30 ∧ p284149.toInt = 1) by omega)) (decide_eq_true (show (0 < p284144.toInt ∧ p284144.toInt < 20 ∧ p284150.toInt = 1) by omega)) (by rw [sd_u hf284340 (by omega) (by omega), sd_u hf284315 (by omega) (by omega), sd_u hf284264 (by omega) (by omega), show o284164.toInt = p284145.toInt by omega]; simp)), kp284345, (fun R c1 c2 c3 c4 c5 c6 c7 c8 c9 c10 c11 c12 => c10 p284144 p284145 p284148 o284164 f284141 f284264 F284261 p284149 o284280 p284146 f284315 F284312 p284150 o284329 p284147 f284340 F284337 fq284156 fq284157 fq284158 bo284164 ht284166 r284259 fq284260 he284140 hf284264 n284263 he284267 r284271 fq284273 fq284274 bo284280 ht284282 r284309 fq284310 fq284311 he284267 hf284315 n284314 he284318 fq284322 fq284323 bo284329 ht284331 r284334 fq284335 fq284336 he284318 hf284340 n284339 he284343)⟩
    · have r284347 : p284090.toInt ≠ 0 := gj_neq hc284270 (show Int32.toInt 0 = 0 by decide)
      have bp284090' : gB p284090 1 1 := gB_t1 bp284090 r284347
      refine G_aload_n 2 dr_cX17_stand_21 rfl ?_
      have fq284348 : fI (F284261 q284089) 0 = p284144 := by rw [he284266]; rfl
      refine Gp_get 0 hm284142 he284266 dr_cX17_stand_22 (gk_X15 D I) (Nat.le_of_ble_eq_true rfl) wr_9_177 rfl ?_
      refine G_bipush 21 dr_cX17_stand_25 (by decide +kernel) ?_
      refine G_icmp_ne 40 dr_cX17_stand_27 (by decide +kernel) (fun hc284349 => ?_) (fun hc284349 => ?_)
      · have r284350 : p284144.toInt ≠ 21 := gj_neq hc284349 (show Int32.toInt 21 = 21 by decide)
        have hT284351 : RS D I P284086 F284261 γ el := RS_set hT n284263 ht284116 (by decide) ⟨f284264, he284267, bf284264⟩
        exact G_vretA dr_cX17_stand_40 rfl (Nat.le_of_ble_eq_true rfl) (Nat.le_of_ble_eq_true rfl) ⟨F284261, rfl, rfl, hT284351, hs284268, (Nat.le_of_ble_eq_true rfl), (Nat.le_of_ble_eq_true rfl), (fun h => absurd h (by omega)), kp284269, (fun R c1 c2 c3 c4 c5 c6 c7 c8 c9 c10 c11 c12 => c11 p284144 p284145 p284148 o284164 f284141 f284264 F284261 fq284156 fq284157 fq284158 bo284164 ht284166 r284259 fq284260 he284140 hf284264 n284263 he284267 r284347 fq284348 r284350)⟩
      · have r284352 : p284144.toInt = 21 := gj_eq hc284349 (show Int32.toInt 21 = 21 by decide)
        have bp284144' : gB p284144 21 21 := ⟨by omega, by omega⟩
        refine G_aload_n 1 dr_cX17_stand_30 rfl ?_
        have fq284353 : fR (F284261 q284088) 3 = (γ 9 3) := by rw [he284265]; rfl
        refine Gp_get 3 hm284092 he284265 dr_cX17_stand_31 (gk_X17 D I) (Nat.le_of_ble_eq_true rfl) wr_7_77 rfl ?_
        refine G_aload_n 2 dr_cX17_stand_34 rfl ?_
        have fq284354 : fI (F284261 q284089) 4 = p284148 := by rw [he284266]; rfl
        refine Gp_get 4 hm284142 he284266 dr_cX17_stand_35 (gk_X15 D I) (Nat.le_of_ble_eq_true rfl) wr_9_193 rfl ?_
        refine G_iconst 1 dr_cX17_stand_38 (by decide +kernel) ?_
        refine Gp_zast 3 hm284139 he284267 dr_cX17_stand_39 rfl (gB_in bp284148 (by decide) (by decide)) (fun F284355 e284356 n284357 => ?_)
        obtain ⟨f284358, hf284358⟩ : ∃ z, z = upd f284264 p284148.toNatClampNeg (vp_nar .boolean 1) := ⟨_, rfl⟩
        rw [← hf284358] at e284356
        have he284359 : F284355 q284088 = .inr (22, [.ref (γ 9 0), .ref (γ 9 1), .ref (γ 9 2), .ref (γ 9 3), .ref (γ 9 4), .ref (γ 9 5), .ref (γ 9 6), .ref (γ 9 7), .ref (γ 9 8), .int p284096, .int p284097, .int p284098, .int p284099, .int p284100, .int p284101, .ref (γ 9 15), .ref (γ 9 16), .ref (γ 9 17), .ref (γ 9 18), .ref (γ 9 19), .ref (γ 9 20), .ref (γ 9 21), .ref (γ 9 22), .int p284102, .int p284103, .int p284104, .int p284105, .int p284106, .ref q284094, .ref (γ 9 29), .int p284107, .ref (γ 9 31), .int p284108, .int p284109, .int p284110, .ref q284095]) := (n284357 q284088 (rn_oa he284265 he284267)).trans he284265
        have he284360 : F284355 q284089 = .inr (20, [.int p284144, .int p284145, .int p284146, .int p284147, .int p284148, .int p284149, .int p284150]) := (n284357 q284089 (rn_oa he284266 he284267)).trans he284266
        have he284361 : F284355 (γ 9 3) = .inl (I .boolean, 2000, .inl f284358) := e284356
        have hs284362 : rStr γ [] F284087 F284355 := rStr_put hs284268 n284357 ht284116 (by decide)
        have n284363 : ∀ b, b ≠ (γ 9 3) → F284355 b = F284087 b := fun b hb => (n284357 b hb).trans (n284263 b hb)
        have kp284364 : F284355 q284088 = F284087 q284088 := (n284357 q284088 (rn_ty htq284088 ht284116 (by decide))).trans kp284269
        have bf284358 : gF f284358 0 1 := gF_upd hf284358 bf284264 (gB_w (gBl (show Int32.toInt 1 = 1 by decide)) (by decide) (by decide))
        have hT284365 : RS D I P284086 F284355 γ el := RS_set hT n284363 ht284116 (by decide) ⟨f284358, he284361, bf284358⟩
        exact G_vretA dr_cX17_stand_40 rfl (Nat.le_of_ble_eq_true rfl) (Nat.le_of_ble_eq_true rfl) ⟨F284355, rfl, rfl, hT284365, hs284362, (Nat.le_of_ble_eq_true rfl), (Nat.le_of_ble_eq_true rfl), (fun h => absurd h (by omega)), kp284364, (fun R c1 c2 c3 c4 c5 c6 c7 c8 c9 c10 c11 c12 => c12 p284144 p284145 p284148 o284164 f284141 f284264 F284261 f284358 F284355 fq284156 fq284157 fq284158 bo284164 ht284166 r284259 fq284260 he284140 hf284264 n284263 he284267 r284347 fq284348 r284352 fq284353 fq284354 he284267 hf284358 n284357 he284361)⟩
/- tr_RModel_back3: F -/
def tr_RModel_back3 (D : va_G) (I : FieldType → ClassId) (γ el : Nat → Nat → Nat) (P : List Nat) (F : Nat → va_E) (q0 : Nat) (q1 : Nat) (a2 : Int32) (o1 : Nat → va_E) : Prop := ∀ R : (Nat → va_E) → Prop,
  (∀ (x1 : Int32) (x2 : Int32) (x3 : Int32) (x4 : Int32) (x5 : Int32) (x6 : Int32) (x7 : Int32) (x8 : Int32), fI (F q1) 0 = x1 → fI (F q1) 1 = x2 → fI (F q1) 4 = x3 → gB x4 (-1) 1999 → tr_RModel_setOf a2 x1 x2 x3 x4 → x4.toInt < 0 → a2.toInt = 0 → fI (F q1) 5 = x5 → gB x6 0 1 → tr_RRow_usesA x1 x5 x6 → x6.toInt = 0 → fI (F q1) 6 = x7 → gB x8 0 1 → tr_RRow_usesB x1 x7 x8 → x8.toInt = 0 → R F) →
  (∀ (x1 : Int32) (x2 : Int32) (x3 : Int32) (x4 : Int32) (x5 : Int32) (x6 : Int32) (x7 : Int32) (x8 : Int32) (x9 : Int32) (x10 : Nat → Int64) (x11 : Nat → Int64) (x12 : Nat → va_E), fI (F q1) 0 = x1 → fI (F q1) 1 = x2 → fI (F q1) 4 = x3 → gB x4 (-1) 1999 → tr_RModel_setOf a2 x1 x2 x3 x4 → x4.toInt < 0 → a2.toInt = 0 → fI (F q1) 5 = x5 → gB x6 0 1 → tr_RRow_usesA x1 x5 x6 → x6.toInt = 0 → fI (F q1) 6 = x7 → gB x8 0 1 → tr_RRow_usesB x1 x7 x8 → x8.toInt ≠ 0 → fR (F q0) 2 = (γ 9 2) → fI (F q1) 3 = x9 → F (γ 9 2) = .inl (I .long, 32, .inr (.inl x10)) → tr_RModel_set x9 x10 x11 → rFr [(γ 9 2)] P F x12 → x12 (γ 9 2) = .inl (I .long, 32, .inr (.inl x11)) → RS D I P x12 γ el → R x12) →
  (∀ (x1 : Int32) (x2 : Int32) (x3 : Int32) (x4 : Int32) (x5 : Int32) (x6 : Int32) (x7 : Int32) (x8 : Nat → Int64) (x9 : Nat → Int64) (x10 : Nat → va_E) (x11 : Int32) (x12 : Int32), fI (F q1) 0 = x1 → fI (F q1) 1 = x2 → fI (F q1) 4 = x3 → gB x4 (-1) 1999 → tr_RModel_setOf a2 x1 x2 x3 x4 → x4.toInt < 0 → a2.toInt = 0 → fI (F q1) 5 = x5 → gB x6 0 1 → tr_RRow_usesA x1 x5 x6 → x6.toInt ≠ 0 → fR (F q0) 2 = (γ 9 2) → fI (F q1) 2 = x7 → F (γ 9 2) = .inl (I .long, 32, .inr (.inl x8)) → tr_RModel_set x7 x8 x9 → rFr [(γ 9 2)] P F x10 → x10 (γ 9 2) = .inl (I .long, 32, .inr (.inl x9)) → RS D I P x10 γ el → fI (x10 q1) 0 = x1 → fI (x10 q1) 6 = x11 → gB x12 0 1 → tr_RRow_usesB x1 x11 x12 → x12.toInt = 0 → R x10) →
  (∀ (x1 : Int32) (x2 : Int32) (x3 : Int32) (x4 : Int32) (x5 : Int32) (x6 : Int32) (x7 : Int32) (x8 : Nat → Int64) (x9 : Nat → Int64) (x10 : Nat → va_E) (x11 : Int32) (x12 : Int32) (x13 : Int32) (x14 : Nat → Int64) (x15 : Nat → va_E), fI (F q1) 0 = x1 → fI (F q1) 1 = x2 → fI (F q1) 4 = x3 → gB x4 (-1) 1999 → tr_RModel_setOf a2 x1 x2 x3 x4 → x4.toInt < 0 → a2.toInt = 0 → fI (F q1) 5 = x5 → gB x6 0 1 → tr_RRow_usesA x1 x5 x6 → x6.toInt ≠ 0 → fR (F q0) 2 = (γ 9 2) → fI (F q1) 2 = x7 → F (γ 9 2) = .inl (I .long, 32, .inr (.inl x8)) → tr_RModel_set x7 x8 x9 → rFr [(γ 9 2)] P F x10 → x10 (γ 9 2) = .inl (I .long, 32, .inr (.inl x9)) → RS D I P x10 γ el → fI (x10 q1) 0 = x1 → fI (x10 q1) 6 = x11 → gB x12 0 1 → tr_RRow_usesB x1 x11 x12 → x12.toInt ≠ 0 → fR (x10 q0) 2 = (γ 9 2) → fI (x10 q1) 3 = x13 → x10 (γ 9 2) = .inl (I .long, 32, .inr (.inl x9)) → tr_RModel_set x13 x9 x14 → rFr [(γ 9 2)] P x10 x15 → x15 (γ 9 2) = .inl (I .long, 32, .inr (.inl x14)) → RS D I P x15 γ el → R x15) →
  (∀ (x1 : Int32) (x2 : Int32) (x3 : Int32) (x4 : Int32), fI (F q1) 0 = x1 → fI (F q1) 1 = x2 → fI (F q1) 4 = x3 → gB x4 (-1) 1999 → tr_RModel_setOf a2 x1 x2 x3 x4 → x4.toInt < 0 → a2.toInt ≠ 0 → x1.toInt ≠ 21 → R F) →
  (∀ (x1 : Int32) (x2 : Int32) (x3 : Int32) (x4 : Int32) (x5 : Nat → Int64) (x6 : Nat → Int64) (x7 : Nat → va_E), fI (F q1) 0 = x1 → fI (F q1) 1 = x2 → fI (F q1) 4 = x3 → gB x4 (-1) 1999 → tr_RModel_setOf a2 x1 x2 x3 x4 → x4.toInt < 0 → a2.toInt ≠ 0 → x1.toInt = 21 → fR (F q0) 2 = (γ 9 2) → F (γ 9 2) = .inl (I .long, 32, .inr (.inl x5)) → tr_RModel_set x3 x5 x6 → rFr [(γ 9 2)] P F x7 → x7 (γ 9 2) = .inl (I .long, 32, .inr (.inl x6)) → RS D I P x7 γ el → R x7) →
  (∀ (x1 : Int32) (x2 : Int32) (x3 : Int32) (x4 : Int32) (x5 : Nat → Int64) (x6 : Nat → Int64) (x7 : Nat → va_E) (x8 : Int32) (x9 : Int32) (x10 : Int32) (x11 : Int32), fI (F q1) 0 = x1 → fI (F q1) 1 = x2 → fI (F q1) 4 = x3 → gB x4 (-1) 1999 → tr_RModel_setOf a2 x1 x2 x3 x4 → 0 ≤ x4.toInt → fR (F q0) 2 = (γ 9 2) → F (γ 9 2) = .inl (I .long, 32, .inr (.inl x5)) → tr_RModel_clear x4 x5 x6 → rFr [(γ 9 2)] P F x7 → x7 (γ 9 2) = .inl (I .long, 32, .inr (.inl x6)) → RS D I P x7 γ el → a2.toInt = 0 → fI (x7 q1) 0 = x1 → fI (x7 q1) 5 = x8 → gB x9 0 1 → tr_RRow_usesA x1 x8 x9 → x9.toInt = 0 → fI (x7 q1) 6 = x10 → gB x11 0 1 → tr_RRow_usesB x1 x10 x11 → x11.toInt = 0 → R x7) →
  (∀ (x1 : Int32) (x2 : Int32) (x3 : Int32) (x4 : Int32) (x5 : Nat → Int64) (x6 : Nat → Int64) (x7 : Nat → va_E) (x8 : Int32) (x9 : Int32) (x10 : Int32) (x11 : Int32) (x12 : Int32) (x13 : Nat → Int64) (x14 : Nat → va_E), fI (F q1) 0 = x1 → fI (F q1) 1 = x2 → fI (F q1) 4 = x3 → gB x4 (-1) 1999 → tr_RModel_setOf a2 x1 x2 x3 x4 → 0 ≤ x4.toInt → fR (F q0) 2 = (γ 9 2) → F (γ 9 2) = .inl (I .long, 32, .inr (.inl x5)) → tr_RModel_clear x4 x5 x6 → rFr [(γ 9 2)] P F x7 → x7 (γ 9 2) = .inl (I .long, 32, .inr (.inl x6)) → RS D I P x7 γ el → a2.toInt = 0 → fI (x7 q1) 0 = x1 → fI (x7 q1) 5 = x8 → gB x9 0 1 → tr_RRow_usesA x1 x8 x9 → x9.toInt = 0 → fI (x7 q1) 6 = x10 → gB x11 0 1 → tr_RRow_usesB x1 x10 x11 → x11.toInt ≠ 0 → fR (x7 q0) 2 = (γ 9 2) → fI (x7 q1) 3 = x12 → x7 (γ 9 2) = .inl (I .long, 32, .inr (.inl x6)) → tr_RModel_set x12 x6 x13 → rFr [(γ 9 2)] P x7 x14 → x14 (γ 9 2) = .inl (I .long, 32, .inr (.inl x13)) → RS D I P x14 γ el → R x14) →
  (∀ (x1 : Int32) (x2 : Int32) (x3 : Int32) (x4 : Int32) (x5 : Nat → Int64) (x6 : Nat → Int64) (x7 : Nat → va_E) (x8 : Int32) (x9 : Int32) (x10 : Int32) (x11 : Nat → Int64) (x12 : Nat → va_E) (x13 : Int32) (x14 : Int32), fI (F q1) 0 = x1 → fI (F q1) 1 = x2 → fI (F q1) 4 = x3 → gB x4 (-1) 1999 → tr_RModel_setOf a2 x1 x2 x3 x4 → 0 ≤ x4.toInt → fR (F q0) 2 = (γ 9 2) → F (γ 9 2) = .inl (I .long, 32, .inr (.inl x5)) → tr_RModel_clear x4 x5 x6 → rFr [(γ 9 2)] P F x7 → x7 (γ 9 2) = .inl (I .long, 32, .inr (.inl x6)) → RS D I P x7 γ el → a2.toInt = 0 → fI (x7 q1) 0 = x1 → fI (x7 q1) 5 = x8 → gB x9 0 1 → tr_RRow_usesA x1 x8 x9 → x9.toInt ≠ 0 → fR (x7 q0) 2 = (γ 9 2) → fI (x7 q1) 2 = x10 → x7 (γ 9 2) = .inl (I .long, 32, .inr (.inl x6)) → tr_RModel_set x10 x6 x11 → rFr [(γ 9 2)] P x7 x12 → x12 (γ 9 2) = .inl (I .long, 32, .inr (.inl x11)) → RS D I P x12 γ el → fI (x12 q1) 0 = x1 → fI (x12 q1) 6 = x13 → gB x14 0 1 → tr_RRow_usesB x1 x13 x14 → x14.toInt = 0 → R x12) →
  (∀ (x1 : Int32) (x2 : Int32) (x3 : Int32) (x4 : Int32) (x5 : Nat → Int64) (x6 : Nat → Int64) (x7 : Nat → va_E) (x8 : Int32) (x9 : Int32) (x10 : Int32) (x11 : Nat → Int64) (x12 : Nat → va_E) (x13 : Int32) (x14 : Int32) (x15 : Int32) (x16 : Nat → Int64) (x17 : Nat → va_E), fI (F q1) 0 = x1 → fI (F q1) 1 = x2 → fI (F q1) 4 = x3 → gB x4 (-1) 1999 → tr_RModel_setOf a2 x1 x2 x3 x4 → 0 ≤ x4.toInt → fR (F q0) 2 = (γ 9 2) → F (γ 9 2) = .inl (I .long, 32, .inr (.inl x5)) → tr_RModel_clear x4 x5 x6 → rFr [(γ 9 2)] P F x7 → x7 (γ 9 2) = .inl (I .long, 32, .inr (.inl x6)) → RS D I P x7 γ el → a2.toInt = 0 → fI (x7 q1) 0 = x1 → fI (x7 q1) 5 = x8 → gB x9 0 1 → tr_RRow_usesA x1 x8 x9 → x9.toInt ≠ 0 → fR (x7 q0) 2 = (γ 9 2) → fI (x7 q1) 2 = x10 → x7 (γ 9 2) = .inl (I .long, 32, .inr (.inl x6)) → tr_RModel_set x10 x6 x11 → rFr [(γ 9 2)] P x7 x12 → x12 (γ 9 2) = .inl (I .long, 32, .inr (.inl x11)) → RS D I P x12 γ el → fI (x12 q1) 0 = x1 → fI (x12 q1) 6 = x13 → gB x14 0 1 → tr_RRow_usesB x1 x13 x14 → x14.toInt ≠ 0 → fR (x12 q0) 2 = (γ 9 2) → fI (x12 q1) 3 = x15 → x12 (γ 9 2) = .inl (I .long, 32, .inr (.inl x11)) → tr_RModel_set x15 x11 x16 → rFr [(γ 9 2)] P x12 x17 → x17 (γ 9 2) = .inl (I .long, 32, .inr (.inl x16)) → RS D I P x17 γ el → R x17) →
  (∀ (x1 : Int32) (x2 : Int32) (x3 : Int32) (x4 : Int32) (x5 : Nat → Int64) (x6 : Nat → Int64) (x7 : Nat → va_E), fI (F q1) 0 = x1 → fI (F q1) 1 = x2 → fI (F q1) 4 = x3 → gB x4 (-1) 1999 → tr_RModel_setOf a2 x1 x2 x3 x4 → 0 ≤ x4.toInt → fR (F q0) 2 = (γ 9 2) → F (γ 9 2) = .inl (I .long, 32, .inr (.inl x5)) → tr_RModel_clear x4 x5 x6 → rFr [(γ 9 2)] P F x7 → x7 (γ 9 2) = .inl (I .long, 32, .inr (.inl x6)) → RS D I P x7 γ el → a2.toInt ≠ 0 → fI (x7 q1) 0 = x1 → x1.toInt ≠ 21 → R x7) →
  (∀ (x1 : Int32) (x2 : Int32) (x3 : Int32) (x4 : Int32) (x5 : Nat → Int64) (x6 : Nat → Int64) (x7 : Nat → va_E) (x8 : Nat → Int64) (x9 : Nat → va_E), fI (F q1) 0 = x1 → fI (F q1) 1 = x2 → fI (F q1) 4 = x3 → gB x4 (-1) 1999 → tr_RModel_setOf a2 x1 x2 x3 x4 → 0 ≤ x4.toInt → fR (F q0) 2 = (γ 9 2) → F (γ 9 2) = .inl (I .long, 32, .inr (.inl x5)) → tr_RModel_clear x4 x5 x6 → rFr [(γ 9 2)] P F x7 → x7 (γ 9 2) = .inl (I .long, 32, .inr (.inl x6)) → RS D I P x7 γ el → a2.toInt ≠ 0 → fI (x7 q1) 0 = x1 → x1.toInt = 21 → fR (x7 q0) 2 = (γ 9 2) → fI (x7 q1) 4 = x3 → x7 (γ 9 2) = .inl (I .long, 32, .inr (.inl x6)) → tr_RModel_set x3 x6 x8 → rFr [(γ 9 2)] P x7 x9 → x9 (γ 9 2) = .inl (I .long, 32, .inr (.inl x8)) → RS D I P x9 γ el → R x9) →
  R o1
