abbrev ky_280448_SpillForgeModel_behind : gKey := (cX17_behind, 4, "SpillForgeModel", none, [], "behind", fun _ _ => True)
def pt_280448_SpillForgeModel_behind (D : va_G) (I : FieldType → ClassId) (γ el : Nat → Nat → Nat) (P280444 : List Nat) (F280445 : Nat → va_E) (q280446 : Nat) (q280447 : Nat) : Option Value → va_W → Nat → Nat → Prop := fun r w dc ds => ∃ (F283172 : Nat → va_E), r = none ∧ w = va_pl P280444 F283172 ∧ RS D I P280444 F283172 γ el ∧ rStr γ [] F280445 F283172 ∧ dc ≤ 0 ∧ ds ≤ 0 ∧ (F283172 q280446 = F280445 q280446) ∧ (F283172 (γ 9 3) = F280445 (γ 9 3)) ∧ tr_RModel_behind3 D I γ el P280444 F280445 q280446 q280447 F283172
set_option maxRecDepth 100000 in
set_option maxHeartbeats 4000000 in
theorem ct_280448_SpillForgeModel_behind (l : Launch) (hl0 : l.stackTraces = false) (D : va_G) (I : FieldType → ClassId) (γ el : Nat → Nat → Nat) (P280444 : List Nat) (F280445 : Nat → va_E) (q280446 : Nat) (q280447 : Nat) (hT : RS D I P280444 F280445 γ el) (htq280446 : rKd γ q280446 10) (htq280447 : rKd γ q280447 2) : CtA (gV D I) l yX17_behind cX17_behind 4 none 1 21 0 0 [.ref q280446, .ref q280447] (va_pl P280444 F280445) (pt_280448_SpillForgeModel_behind D I γ el P280444 F280445 q280446 q280447) gNA := by
  refine CtA_of hl0 (by decide) (Nat.le_of_ble_eq_true rfl) ?_
  refine G_iconst 0 dr_cX17_behind_0 (by decide +kernel) ?_
  refine G_istore_n (L' := [(2, .int 0), (0, .ref q280446), (1, .ref q280447)]) dr_cX17_behind_1 (Nat.le_of_ble_eq_true rfl) rfl ?_
  have hlp2_282604 : ∀ (n2_282604 : Nat) (F282600 : Nat → va_E) (g282599 : Int32), gB g282599 0 32 → RS D I P280444 F282600 γ el → rStr γ [] F280445 F282600 → (F282600 q280446 = F280445 q280446) → (F282600 (γ 9 3) = F280445 (γ 9 3)) → (∀ (k : Nat) (e1 : Nat → va_E), tl_RModel_behind3_2 D I γ el P280444 F280445 q280446 F282600 g282599 k e1 → tl_RModel_behind3_2 D I γ el P280444 F280445 q280446 F280445 (0 : Int32) k e1) → ((33 : Int) - g282599.toInt).toNat < n2_282604 → G (gV D I) l (gRm 1 21 0 0) (gMA (gV D I) (pt_280448_SpillForgeModel_behind D I γ el P280444 F280445 q280446 q280447) gNA 0 0) ky_280448_SpillForgeModel_behind 2 [(2, .int g282599), (0, .ref q280446), (1, .ref q280447)] [] (va_pl P280444 F282600) 0 0 := by
    intro n2_282604
    induction n2_282604 with
    | zero => intro F282600 g282599 bg282599 hT282601 hs282602 x282603 x282604 kt2_282605 hm2_282604; exact absurd hm2_282604 (Nat.not_lt_zero _)
    | succ n2_282604 ih2_282604 =>
      intro F282600 g282599 bg282599 hT282601 hs282602 x282603 x282604 kt2_282605 hm2_282604
      have hs282606 : rStr γ [] F280445 F282600 := fun b h0 hb hw => (hs282602 b h0 hb hw).trans ((rStr_rf (γ := γ) (W := []) (F := F280445)) b h0 hb hw).symm
      have hs282607 : rStr γ [] F280445 F282600 := rStr_tr (rStr_rf (γ := γ) (W := []) (F := F280445)) hs282606
      refine G_iload_n 0 dr_cX17_behind_2 rfl ?_
      refine G_bipush 32 dr_cX17_behind_3 (by decide +kernel) ?_
      refine G_icmp_ge 21 dr_cX17_behind_5 (by decide +kernel) (fun hc282608 => ?_) (fun hc282608 => ?_)
      · have r282609 : 32 ≤ g282599.toInt := gj_leL hc282608 (show Int32.toInt 32 = 32 by decide)
        have bg282599' : gB g282599 32 32 := ⟨by omega, by omega⟩
        have hx282610 : tl_RModel_behind3_2 D I γ el P280444 F280445 q280446 F280445 (0 : Int32) 21 F282600 := kt2_282605 21 F282600 (fun R c1 c2 => c1 F282600 g282599 bg282599 hT282601 hs282602 x282603 x282604 r282609)
        refine G_iconst 0 dr_cX17_behind_21 (by decide +kernel) ?_
        refine G_istore_n (L' := [(2, .int 0), (0, .ref q280446), (1, .ref q280447)]) dr_cX17_behind_22 (Nat.le_of_ble_eq_true rfl) rfl ?_
        have hlp23_282858 : ∀ (n23_282858 : Nat) (F282854 : Nat → va_E) (g282853 : Int32), gB g282853 0 2 → RS D I P280444 F282854 γ el → rStr γ [] F280445 F282854 → (F282854 q280446 = F280445 q280446) → (F282854 (γ 9 3) = F280445 (γ 9 3)) → (∀ (k : Nat) (e1 : Nat → va_E), tl_RModel_behind3_23 D I γ el P280444 F280445 q280446 q280447 F282854 g282853 k e1 → tl_RModel_behind3_23 D I γ el P280444 F280445 q280446 q280447 F282600 (0 : Int32) k e1) → ((3 : Int) - g282853.toInt).toNat < n23_282858 → G (gV D I) l (gRm 1 21 0 0) (gMA (gV D I) (pt_280448_SpillForgeModel_behind D I γ el P280444 F280445 q280446 q280447) gNA 0 0) ky_280448_SpillForgeModel_behind 23 [(2, .int g282853), (0, .ref q280446), (1, .ref q280447)] [] (va_pl P280444 F282854) 0 0 := by
          intro n23_282858
          induction n23_282858 with
          | zero => intro F282854 g282853 bg282853 hT282855 hs282856 x282857 x282858 kt23_282859 hm23_282858; exact absurd hm23_282858 (Nat.not_lt_zero _)
          | succ n23_282858 ih23_282858 =>
            intro F282854 g282853 bg282853 hT282855 hs282856 x282857 x282858 kt23_282859 hm23_282858
            have hs282860 : rStr γ [] F282600 F282854 := fun b h0 hb hw => (hs282856 b h0 hb hw).trans (hs282602 b h0 hb hw).symm
            have hs282861 : rStr γ [] F280445 F282854 := rStr_tr hs282602 hs282860
            refine G_iload_n 0 dr_cX17_behind_23 rfl ?_
            refine G_aload_n 2 dr_cX17_behind_24 rfl ?_
            have hm282862 : q280447 ∈ P280444 := RS_m hT282855 htq280447 (by decide)
            obtain ⟨q282864, q282865, p282866, p282867, he282863, ht282874, ht282868, ht282869, ht282870, ht282871, ht282872, bp282866, bp282867, r282873, r282875, r282876⟩ := show rk_2 γ q280447 (F282854 q280447) from RS_o hT282855 htq280447
            have hm282877 : q282865 ∈ P280444 := RS_m hT282855 ht282870 (by decide)
            obtain ⟨p282879, p282880, p282881, p282882, p282883, p282884, p282885, he282878, bp282879, bp282880, bp282883, bp282884, bp282885, r282886, r282887, r282888, r282889, r282890⟩ := show rk_1 γ q282865 (F282854 q282865) from RS_o hT282855 ht282870
            have bp282881 := gB_any p282881
            have bp282882 := gB_any p282882
            have fq282891 : fI (F282854 q280447) 2 = p282866 := by rw [he282863]; rfl
            have fq282892 : fI (F282854 q280447) 3 = p282867 := by rw [he282863]; rfl
            have fq282893 : fR (F282854 q280447) 1 = q282865 := by rw [he282863]; rfl
            have fq282894 : fI (F282854 q282865) 0 = p282879 := by rw [he282878]; rfl
            refine Gw_callV (As := []) (gV_ok D I) (cp_1816_Block_ways l hl0 D I P280444 F282854 q280447 q282865 q282864 p282866 p282867 p282879 p282880 p282881 p282882 p282883 p282884 p282885 hm282862 hm282877 he282863 he282878 bp282866 bp282867 bp282879 bp282880 bp282883 bp282884 bp282885) dr_cX17_behind_25 ⟨wr_10_166, wr_1_38, wr_10_169, by decide, rfl, (Nat.le_of_ble_eq_true rfl), (Nat.le_of_ble_eq_true rfl)⟩ wr_10_167 wr_10_168 hm282862 he282863 rfl (show 0 + 0 ≤ 0 by first | omega | decide) (show 0 + 0 ≤ 0 by first | omega | decide) (Nat.le_of_ble_eq_true rfl) (fun r282898 w282899 dc282895 ds282896 hp282897 => ?_) (fun _ _ _ _ _ z => z.elim)
            obtain ⟨o282900, rfl, rfl, hdc, hds, bo282900, ht282901⟩ := hp282897
            change G _ _ _ _ _ _ _ (.int o282900 :: _) _ _ _
            refine G_widen (cs' := 0) (sl' := 0) (by omega) (by omega) ?_
            refine G_icmp_ge 72 dr_cX17_behind_28 (by decide +kernel) (fun hc282902 => ?_) (fun hc282902 => ?_)
            · have r282903 : o282900.toInt ≤ g282853.toInt := gC_le hc282902
              have hx282904 : tl_RModel_behind3_23 D I γ el P280444 F280445 q280446 q280447 F282600 (0 : Int32) 72 F282854 := kt23_282859 72 F282854 (fun R c1 c2 => c1 F282854 g282853 p282866 p282867 q282865 p282879 o282900 bg282853 hT282855 hs282856 x282857 x282858 fq282891 fq282892 fq282893 fq282894 bo282900 ht282901 r282903)
              exact G_vretA dr_cX17_behind_72 rfl (Nat.le_of_ble_eq_true rfl) (Nat.le_of_ble_eq_true rfl) ⟨F282854, rfl, rfl, hT282855, hs282856, (Nat.le_of_ble_eq_true rfl), (Nat.le_of_ble_eq_true rfl), x282857, x282858, (fun R c1 => c1 F282600 F282854 hx282610 hx282904)⟩
            · have r282905 : g282853.toInt < o282900.toInt := gC_nle hc282902
              have bg282853' : gB g282853 0 1 := ⟨by omega, by omega⟩
              have bo282900' : gB o282900 1 2 := ⟨by omega, by omega⟩
              refine G_iconst 0 dr_cX17_behind_31 (by decide +kernel) ?_
              refine G_istore_n (L' := [(3, .int 0), (2, .int g282853), (0, .ref q280446), (1, .ref q280447)]) dr_cX17_behind_32 (Nat.le_of_ble_eq_true rfl) rfl ?_
              have hlp33_283008 : ∀ (n33_283008 : Nat) (F283004 : Nat → va_E) (g283003 : Int32), gB g283003 0 32 → RS D I P280444 F283004 γ el → rStr γ [] F280445 F283004 → (F283004 q280446 = F280445 q280446) → (F283004 (γ 9 3) = F280445 (γ 9 3)) → (∀ (k : Nat) (e1 : Nat → va_E), tl_RModel_behind3_33 D I γ el P280444 F280445 q280446 q280447 g282853 F283004 g283003 k e1 → tl_RModel_behind3_33 D I γ el P280444 F280445 q280446 q280447 g282853 F282854 (0 : Int32) k e1) → ((33 : Int) - g283003.toInt).toNat < n33_283008 → G (gV D I) l (gRm 1 21 0 0) (gMA (gV D I) (pt_280448_SpillForgeModel_behind D I γ el P280444 F280445 q280446 q280447) gNA 0 0) ky_280448_SpillForgeModel_behind 33 [(3, .int g283003), (2, .int g282853), (0, .ref q280446), (1, .ref q280447)] [] (va_pl P280444 F283004) 0 0 := by
                intro n33_283008
                induction n33_283008 with
                | zero => intro F283004 g283003 bg283003 hT283005 hs283006 x283007 x283008 kt33_283009 hm33_283008; exact absurd hm33_283008 (Nat.not_lt_zero _)
                | succ n33_283008 ih33_283008 =>
                  intro F283004 g283003 bg283003 hT283005 hs283006 x283007 x283008 kt33_283009 hm33_283008
                  have hs283010 : rStr γ [] F282854 F283004 := fun b h0 hb hw => (hs283006 b h0 hb hw).trans (hs282856 b h0 hb hw).symm
                  have he283011 : F283004 q280447 = .inr (17, [.ref q282864, .ref q282865, .int p282866, .int p282867]) := (hs283010 q280447 (rT0 htq280447 (by decide)) (rT1 htq280447 (by decide)) (rT2 htq280447 (by decide))).trans he282863
                  have he283012 : F283004 q282865 = .inr (20, [.int p282879, .int p282880, .int p282881, .int p282882, .int p282883, .int p282884, .int p282885]) := (hs283010 q282865 (rT0 ht282870 (by decide)) (rT1 ht282870 (by decide)) (rT2 ht282870 (by decide))).trans he282878
                  have hs283013 : rStr γ [] F280445 F283004 := rStr_tr hs282856 hs283010
                  refine G_iload_n 0 dr_cX17_behind_33 rfl ?_
                  refine G_bipush 32 dr_cX17_behind_34 (by decide +kernel) ?_
                  refine G_icmp_ge 66 dr_cX17_behind_36 (by decide +kernel) (fun hc283014 => ?_) (fun hc283014 => ?_)
                  · have r283015 : 32 ≤ g283003.toInt := gj_leL hc283014 (show Int32.toInt 32 = 32 by decide)
                    have bg283003' : gB g283003 32 32 := ⟨by omega, by omega⟩
                    have hx283016 : tl_RModel_behind3_33 D I γ el P280444 F280445 q280446 q280447 g282853 F282854 (0 : Int32) 66 F283004 := kt33_283009 66 F283004 (fun R c1 c2 => c1 F283004 g283003 bg283003 hT283005 hs283006 x283007 x283008 r283015)
                    obtain ⟨z283017, hz283017⟩ : ∃ z : Int32, z = g282853 + Int32.ofInt 1 := ⟨_, rfl⟩
                    have ez283017 : z283017.toInt = g282853.toInt + 1 := gI_inc hz283017 (by decide) bg282853' (by decide) (by decide)
                    have bz283017 : gB z283017 1 2 := ⟨by omega, by omega⟩
                    refine G_iinc (L' := [(2, .int z283017), (3, .int g283003), (0, .ref q280446), (1, .ref q280447)]) z283017 1 dr_cX17_behind_66 rfl hz283017.symm (Nat.le_of_ble_eq_true rfl) rfl ?_
                    refine G_goto 23 dr_cX17_behind_69 (by decide +kernel) ?_
                    refine G_lv (L' := [(2, .int z283017), (0, .ref q280446), (1, .ref q280447)]) [0, 2, 3] rfl ?_
                    exact ih23_282858 F283004 z283017 (gB_w bz283017 (by decide) (by decide)) hT283005 hs283006 x283007 x283008 (fun k e1 ht => kt23_282859 k e1 (fun R c1 c2 => c2 F282854 g282853 p282866 p282867 q282865 p282879 o282900 F283004 z283017 k e1 bg282853 hT282855 hs282856 x282857 x282858 fq282891 fq282892 fq282893 fq282894 bo282900 ht282901 r282905 hx283016 ez283017 (ht R c1 c2))) (mz_up ez283017 (Int.le_trans bg282853'.2 (by decide)) hm23_282858)
                  · have r283018 : g283003.toInt < 32 := gj_nleL hc283014 (show Int32.toInt 32 = 32 by decide)
                    have bg283003' : gB g283003 0 31 := ⟨by omega, by omega⟩
                    refine G_aload_n 2 dr_cX17_behind_39 rfl ?_
                    have hm283019 : q280446 ∈ P280444 := RS_m hT283005 htq280446 (by decide)
                    refine rk10_e (show rk_10 γ (F283004 q280446) from RS_o hT283005 htq280446) (fun q283021 q283022 p283023 p283024 p283025 p283026 p283027 p283028 p283029 p283030 p283031 p283032 p283033 p283034 p283035 p283036 p283037 he283020 hB283064 ht283038 ht283039 ht283040 ht283041 ht283042 ht283043 ht283044 ht283045 ht283046 ht283047 ht283048 ht283049 ht283050 ht283051 ht283052 ht283053 ht283054 ht283055 ht283056 ht283057 ht283058 ht283059 ht283060 ht283061 hB283065 => ?_)
                    have fq283066 : fR (F283004 q280446) 2 = (γ 9 2) := by rw [he283020]; rfl
                    refine Gp_get 2 hm283019 he283020 dr_cX17_behind_40 (gk_X17 D I) (Nat.le_of_ble_eq_true rfl) wr_7_76 rfl ?_
                    refine G_iload_n 0 dr_cX17_behind_43 rfl ?_
                    refine G_dup2_11 dr_cX17_behind_44 rfl rfl ?_
                    have hm283067 : (γ 9 2) ∈ P280444 := RS_m hT283005 ht283042 (by decide)
                    obtain ⟨f283069, he283068, wf283069⟩ := show rk_35 I (F283004 (γ 9 2)) from RS_o hT283005 ht283042
                    refine Gp_lald 2 hm283067 he283068 dr_cX17_behind_45 rfl (gB_in bg283003' (by decide) (by decide)) (G_namL fun u283070 hu283070 => ?_)
                    have qu283070 : lb_Q u283070 (2000 - 64 * g283003.toInt) := lb_Wld hu283070 wf283069 (by omega) (by omega) (lb_Mod0 (by omega) (by omega))
                    refine G_aload_n 2 dr_cX17_behind_46 rfl ?_
                    have fq283071 : fR (F283004 q280446) 0 = (γ 9 0) := by rw [he283020]; rfl
                    refine Gp_get 0 hm283019 he283020 dr_cX17_behind_47 (gk_X17 D I) (Nat.le_of_ble_eq_true rfl) wr_7_74 rfl ?_
                    refine G_aload_n 3 dr_cX17_behind_50 rfl ?_
                    refine G_iload_n 1 dr_cX17_behind_51 rfl ?_
                    have fq283072 : fI (F283004 q280447) 2 = p282866 := by rw [he283011]; rfl
                    have fq283073 : fI (F283004 q280447) 3 = p282867 := by rw [he283011]; rfl
                    have fq283074 : fR (F283004 q280447) 1 = q282865 := by rw [he283011]; rfl
                    refine Gw_callV (As := [.int g282853]) (gV_ok D I) (cp_5159_Block_way l hl0 D I P280444 F283004 q280447 q282865 g282853 q282864 p282866 p282867 p282879 p282880 p282881 p282882 p282883 p282884 p282885 hm282862 hm282877 he283011 he283012 bp282866 bp282867 bp282879 bp282880 bp282883 bp282884 bp282885) dr_cX17_behind_52 ⟨wr_10_170, wr_1_38, wr_10_173, by decide, rfl, (Nat.le_of_ble_eq_true rfl), (Nat.le_of_ble_eq_true rfl)⟩ wr_10_171 wr_10_172 hm282862 he283011 rfl (show 0 + 0 ≤ 0 by first | omega | decide) (show 0 + 0 ≤ 0 by first | omega | decide) (Nat.le_of_ble_eq_true rfl) (fun r283078 w283079 dc283075 ds283076 hp283077 => ?_) (fun _ _ _ _ _ z => z.elim)
                    obtain ⟨o283080, rfl, rfl, hdc, hds, bo283080, ht283081⟩ := hp283077
                    change G _ _ _ _ _ _ _ (.int o283080 :: _) _ _ _
                    refine G_widen (cs' := 0) (sl' := 0) (by omega) (by omega) ?_
                    have hm283082 : (γ 9 0) ∈ P280444 := RS_m hT283005 ht283040 (by decide)
                    obtain ⟨f283084, he283083, hg283085⟩ := show rk_12 I γ (F283004 (γ 9 0)) from RS_o hT283005 ht283040
                    obtain ⟨q283086, hx283088⟩ : ∃ x, x = γ 10 o283080.toInt.toNat := ⟨_, rfl⟩
                    have ht283087 : rKd γ q283086 11 := by rw [hx283088]; exact (hg283085 _ (show o283080.toInt.toNat < 40 by omega)).2.1
                    refine Gp_aald 5 hm283082 he283083 dr_cX17_behind_55 rfl rfl (gB_in bo283080 (by decide) (by decide)) ?_
                    rw [show f283084 o283080.toNatClampNeg = some q283086 from (hg283085 _ (show o283080.toInt.toNat < 40 by omega)).1.trans (by rw [hx283088])]
                    change G _ _ _ _ _ _ _ (.ref q283086 :: _) _ _ _
                    refine G_iload_n 0 dr_cX17_behind_56 rfl ?_
                    have hm283089 : q283086 ∈ P280444 := RS_m hT283005 ht283087 (by decide)
                    obtain ⟨f283091, he283090, wf283091⟩ := show rk_11 I (F283004 q283086) from RS_o hT283005 ht283087
                    refine Gp_lald 2 hm283089 he283090 dr_cX17_behind_57 rfl (gB_in bg283003' (by decide) (by decide)) (G_namL fun u283092 hu283092 => ?_)
                    have qu283092 : lb_Q u283092 (2000 - 64 * g283003.toInt) := lb_Wld hu283092 wf283091 (by omega) (by omega) (lb_Mod0 (by omega) (by omega))
                    refine G_lor dr_cX17_behind_58 (G_namL fun u283093 hu283093 => ?_)
                    have qu283093 : lb_Q u283093 (2000 - 64 * g283003.toInt) := lb_Qor hu283093 qu283070 qu283092
                    refine Gp_last 2 hm283067 he283068 dr_cX17_behind_59 rfl (gB_in bg283003' (by decide) (by decide)) (fun F283094 e283095 n283096 => ?_)
                    obtain ⟨f283097, hf283097⟩ : ∃ z, z = vp_updL f283069 g283003.toNatClampNeg u283093 := ⟨_, rfl⟩
                    rw [← hf283097] at e283095
                    have he283098 : F283094 q280447 = .inr (17, [.ref q282864, .ref q282865, .int p282866, .int p282867]) := (n283096 q280447 (rn_oa he283011 he283068)).trans he283011
                    have he283099 : F283094 q282865 = .inr (20, [.int p282879, .int p282880, .int p282881, .int p282882, .int p282883, .int p282884, .int p282885]) := (n283096 q282865 (rn_oa he283012 he283068)).trans he283012
                    have he283100 : F283094 q280446 = .inr (22, [.ref (γ 9 0), .ref (γ 9 1), .ref (γ 9 2), .ref (γ 9 3), .ref (γ 9 4), .ref (γ 9 5), .ref (γ 9 6), .ref (γ 9 7), .ref (γ 9 8), .int p283023, .int p283024, .int p283025, .int p283026, .int p283027, .int p283028, .ref (γ 9 15), .ref (γ 9 16), .ref (γ 9 17), .ref (γ 9 18), .ref (γ 9 19), .ref (γ 9 20), .ref (γ 9 21), .ref (γ 9 22), .int p283029, .int p283030, .int p283031, .int p283032, .int p283033, .ref q283021, .ref (γ 9 29), .int p283034, .ref (γ 9 31), .int p283035, .int p283036, .int p283037, .ref q283022]) := (n283096 q280446 (rn_oa he283020 he283068)).trans he283020
                    have he283101 : F283094 (γ 9 0) = .inl (I (.array .long), 40, .inr (.inr (.inr (.inr f283084)))) := (n283096 (γ 9 0) (rn_ref_long he283083 he283068)).trans he283083
                    have he283102 : F283094 q283086 = .inl (I .long, 32, .inr (.inl f283091)) := (n283096 q283086 (rn_ty ht283087 ht283042 (by decide))).trans he283090
                    have he283103 : F283094 (γ 9 2) = .inl (I .long, 32, .inr (.inl f283097)) := e283095
                    have hs283104 : rStr γ [] F280445 F283094 := rStr_put hs283006 n283096 ht283042 (by decide)
                    have kp283105 : F283094 q280446 = F280445 q280446 := (n283096 q280446 (rn_ty htq280446 ht283042 (by decide))).trans x283007
                    have kp283106 : F283094 (γ 9 3) = F280445 (γ 9 3) := (n283096 (γ 9 3) (rn_ty ht283043 ht283042 (by decide))).trans x283008
                    have wf283097 : lb_W f283097 (32) (32) (2000) := lb_Wst hf283097 wf283069 (by omega) (lb_Mod0 (by omega) (by omega)) qu283093
                    obtain ⟨z283107, hz283107⟩ : ∃ z : Int32, z = g283003 + Int32.ofInt 1 := ⟨_, rfl⟩
                    have ez283107 : z283107.toInt = g283003.toInt + 1 := gI_inc hz283107 (by decide) bg283003' (by decide) (by decide)
                    have bz283107 : gB z283107 1 32 := ⟨by omega, by omega⟩
                    refine G_iinc (L' := [(3, .int z283107), (2, .int g282853), (0, .ref q280446), (1, .ref q280447)]) z283107 0 dr_cX17_behind_60 rfl hz283107.symm (Nat.le_of_ble_eq_true rfl) rfl ?_
                    refine G_goto 33 dr_cX17_behind_63 (by decide +kernel) ?_
                    have hT283108 : RS D I P280444 F283094 γ el := RS_set hT283005 n283096 ht283042 (by decide) ⟨f283097, he283103, wf283097⟩
                    exact ih33_283008 F283094 z283107 (gB_w bz283107 (by decide) (by decide)) hT283108 hs283104 kp283105 kp283106 (fun k e1 ht => kt33_283009 k e1 (fun R c1 c2 => c2 F283004 g283003 f283069 u283070 p282866 p282867 o283080 q283086 f283091 u283092 u283093 f283097 F283094 z283107 k e1 bg283003 hT283005 hs283006 x283007 x283008 r283018 fq283066 he283068 hu283070 fq283071 fq283072 fq283073 bo283080 ht283081 hx283088 he283090 hu283092 hu283093 hf283097 n283096 he283103 ez283107 (ht R c1 c2))) (mz_up ez283107 (Int.le_trans bg283003'.2 (by decide)) hm33_283008)
              exact hlp33_283008 (((33 : Int) - 0).toNat + 1) F282854 0 (gB_w (gBl (show Int32.toInt 0 = 0 by decide)) (by decide) (by decide)) hT282855 hs282856 x282857 x282858 (fun k e1 ht => ht) (Nat.lt_succ_self _)
        exact hlp23_282858 (((3 : Int) - 0).toNat + 1) F282600 0 (gB_w (gBl (show Int32.toInt 0 = 0 by decide)) (by decide) (by decide)) hT282601 hs282602 x282603 x282604 (fun k e1 ht => ht) (Nat.lt_succ_self _)
      · have r283109 : g282599.toInt < 32 := gj_nleL hc282608 (show Int32.toInt 32 = 32 by decide)
        have bg282599' : gB g282599 0 31 := ⟨by omega, by omega⟩
        refine G_aload_n 1 dr_cX17_behind_8 rfl ?_
        have hm283110 : q280446 ∈ P280444 := RS_m hT282601 htq280446 (by decide)
        refine rk10_e (show rk_10 γ (F282600 q280446) from RS_o hT282601 htq280446) (fun q283112 q283113 p283114 p283115 p283116 p283117 p283118 p283119 p283120 p283121 p283122 p283123 p283124 p283125 p283126 p283127 p283128 he283111 hB283155 ht283129 ht283130 ht283131 ht283132 ht283133 ht283134 ht283135 ht283136 ht283137 ht283138 ht283139 ht283140 ht283141 ht283142 ht283143 ht283144 ht283145 ht283146 ht283147 ht283148 ht283149 ht283150 ht283151 ht283152 hB283156 => ?_)
        have fq283157 : fR (F282600 q280446) 2 = (γ 9 2) := by rw [he283111]; rfl
        refine Gp_get 2 hm283110 he283111 dr_cX17_behind_9 (gk_X17 D I) (Nat.le_of_ble_eq_true rfl) wr_7_76 rfl ?_
        refine G_iload_n 0 dr_cX17_behind_12 rfl ?_
        refine G_lconst 0 dr_cX17_behind_13 rfl ?_
        have hm283158 : (γ 9 2) ∈ P280444 := RS_m hT282601 ht283133 (by decide)
        obtain ⟨f283160, he283159, wf283160⟩ := show rk_35 I (F282600 (γ 9 2)) from RS_o hT282601 ht283133
        refine Gp_last 2 hm283158 he283159 dr_cX17_behind_14 rfl (gB_in bg282599' (by decide) (by decide)) (fun F283161 e283162 n283163 => ?_)
        obtain ⟨f283164, hf283164⟩ : ∃ z, z = vp_updL f283160 g282599.toNatClampNeg 0 := ⟨_, rfl⟩
        rw [← hf283164] at e283162
        have he283165 : F283161 q280446 = .inr (22, [.ref (γ 9 0), .ref (γ 9 1), .ref (γ 9 2), .ref (γ 9 3), .ref (γ 9 4), .ref (γ 9 5), .ref (γ 9 6), .ref (γ 9 7), .ref (γ 9 8), .int p283114, .int p283115, .int p283116, .int p283117, .int p283118, .int p283119, .ref (γ 9 15), .ref (γ 9 16), .ref (γ 9 17), .ref (γ 9 18), .ref (γ 9 19), .ref (γ 9 20), .ref (γ 9 21), .ref (γ 9 22), .int p283120, .int p283121, .int p283122, .int p283123, .int p283124, .ref q283112, .ref (γ 9 29), .int p283125, .ref (γ 9 31), .int p283126, .int p283127, .int p283128, .ref q283113]) := (n283163 q280446 (rn_oa he283111 he283159)).trans he283111
        have he283166 : F283161 (γ 9 2) = .inl (I .long, 32, .inr (.inl f283164)) := e283162
        have hs283167 : rStr γ [] F280445 F283161 := rStr_put hs282602 n283163 ht283133 (by decide)
        have kp283168 : F283161 q280446 = F280445 q280446 := (n283163 q280446 (rn_ty htq280446 ht283133 (by decide))).trans x282603
        have kp283169 : F283161 (γ 9 3) = F280445 (γ 9 3) := (n283163 (γ 9 3) (rn_ty ht283134 ht283133 (by decide))).trans x282604
        have wf283164 : lb_W f283164 (32) (32) (2000) := lb_Wst hf283164 wf283160 (by omega) (lb_Mod0 (by omega) (by omega)) lb_Q0
        obtain ⟨z283170, hz283170⟩ : ∃ z : Int32, z = g282599 + Int32.ofInt 1 := ⟨_, rfl⟩
        have ez283170 : z283170.toInt = g282599.toInt + 1 := gI_inc hz283170 (by decide) bg282599' (by decide) (by decide)
        have bz283170 : gB z283170 1 32 := ⟨by omega, by omega⟩
        refine G_iinc (L' := [(2, .int z283170), (0, .ref q280446), (1, .ref q280447)]) z283170 0 dr_cX17_behind_15 rfl hz283170.symm (Nat.le_of_ble_eq_true rfl) rfl ?_
        refine G_goto 2 dr_cX17_behind_18 (by decide +kernel) ?_
        have hT283171 : RS D I P280444 F283161 γ el := RS_set hT282601 n283163 ht283133 (by decide) ⟨f283164, he283166, wf283164⟩
        exact ih2_282604 F283161 z283170 (gB_w bz283170 (by decide) (by decide)) hT283171 hs283167 kp283168 kp283169 (fun k e1 ht => kt2_282605 k e1 (fun R c1 c2 => c2 F282600 g282599 f283160 f283164 F283161 z283170 k e1 bg282599 hT282601 hs282602 x282603 x282604 r283109 fq283157 he283159 hf283164 n283163 he283166 ez283170 (ht R c1 c2))) (mz_up ez283170 (Int.le_trans bg282599'.2 (by decide)) hm2_282604)
  exact hlp2_282604 (((33 : Int) - 0).toNat + 1) F280445 0 (gB_w (gBl (show Int32.toInt 0 = 0 by decide)) (by decide) (by decide)) hT (rStr_rf (γ := γ) (W := []) (F := F280445)) rfl rfl (fun k e1 ht => ht) (Nat.lt_succ_self _)
/- tr_RModel_stand2: F -/
def tr_RModel_stand2 (D : va_G) (I : FieldType → ClassId) (γ el : Nat → Nat → Nat) (F : Nat → va_E) (q0 : Nat) (q1 : Nat) (a2 : Int32) (o1 : Nat → va_E) : Prop := ∀ R : (Nat → va_E) → Prop,
  (∀ (x1 : Int32) (x2 : Int32) (x3 : Int32) (x4 : Int32) (x5 : Int32) (x6 : Int32) (x7 : Int32) (x8 : Int32), fI (F q1) 0 = x1 → fI (F q1) 1 = x2 → fI (F q1) 4 = x3 → gB x4 (-1) 1999 → tr_RModel_setOf2 a2 x1 x2 x3 x4 → x4.toInt < 0 → a2.toInt = 0 → fI (F q1) 5 = x5 → gB x6 0 1 → tr_RRow_usesA2 x1 x5 x6 → x6.toInt = 0 → fI (F q1) 6 = x7 → gB x8 0 1 → tr_RRow_usesB2 x1 x7 x8 → x8.toInt = 0 → R F) →
  (∀ (x1 : Int32) (x2 : Int32) (x3 : Int32) (x4 : Int32) (x5 : Int32) (x6 : Int32) (x7 : Int32) (x8 : Int32) (x9 : Int32) (x10 : Nat → Int32) (x11 : Nat → Int32) (x12 : Nat → va_E), fI (F q1) 0 = x1 → fI (F q1) 1 = x2 → fI (F q1) 4 = x3 → gB x4 (-1) 1999 → tr_RModel_setOf2 a2 x1 x2 x3 x4 → x4.toInt < 0 → a2.toInt = 0 → fI (F q1) 5 = x5 → gB x6 0 1 → tr_RRow_usesA2 x1 x5 x6 → x6.toInt = 0 → fI (F q1) 6 = x7 → gB x8 0 1 → tr_RRow_usesB2 x1 x7 x8 → x8.toInt ≠ 0 → fR (F q0) 3 = (γ 9 3) → fI (F q1) 3 = x9 → F (γ 9 3) = .inl (I .boolean, 2000, .inl x10) → x11 = upd x10 x9.toNatClampNeg (vp_nar .boolean 1) → (∀ b, b ≠ (γ 9 3) → x12 b = F b) → x12 (γ 9 3) = .inl (I .boolean, 2000, .inl x11) → R x12) →
  (∀ (x1 : Int32) (x2 : Int32) (x3 : Int32) (x4 : Int32) (x5 : Int32) (x6 : Int32) (x7 : Int32) (x8 : Nat → Int32) (x9 : Nat → Int32) (x10 : Nat → va_E) (x11 : Int32) (x12 : Int32), fI (F q1) 0 = x1 → fI (F q1) 1 = x2 → fI (F q1) 4 = x3 → gB x4 (-1) 1999 → tr_RModel_setOf2 a2 x1 x2 x3 x4 → x4.toInt < 0 → a2.toInt = 0 → fI (F q1) 5 = x5 → gB x6 0 1 → tr_RRow_usesA2 x1 x5 x6 → x6.toInt ≠ 0 → fR (F q0) 3 = (γ 9 3) → fI (F q1) 2 = x7 → F (γ 9 3) = .inl (I .boolean, 2000, .inl x8) → x9 = upd x8 x7.toNatClampNeg (vp_nar .boolean 1) → (∀ b, b ≠ (γ 9 3) → x10 b = F b) → x10 (γ 9 3) = .inl (I .boolean, 2000, .inl x9) → fI (x10 q1) 0 = x1 → fI (x10 q1) 6 = x11 → gB x12 0 1 → tr_RRow_usesB2 x1 x11 x12 → x12.toInt = 0 → R x10) →
  (∀ (x1 : Int32) (x2 : Int32) (x3 : Int32) (x4 : Int32) (x5 : Int32) (x6 : Int32) (x7 : Int32) (x8 : Nat → Int32) (x9 : Nat → Int32) (x10 : Nat → va_E) (x11 : Int32) (x12 : Int32) (x13 : Int32) (x14 : Nat → Int32) (x15 : Nat → va_E), fI (F q1) 0 = x1 → fI (F q1) 1 = x2 → fI (F q1) 4 = x3 → gB x4 (-1) 1999 → tr_RModel_setOf2 a2 x1 x2 x3 x4 → x4.toInt < 0 → a2.toInt = 0 → fI (F q1) 5 = x5 → gB x6 0 1 → tr_RRow_usesA2 x1 x5 x6 → x6.toInt ≠ 0 → fR (F q0) 3 = (γ 9 3) → fI (F q1) 2 = x7 → F (γ 9 3) = .inl (I .boolean, 2000, .inl x8) → x9 = upd x8 x7.toNatClampNeg (vp_nar .boolean 1) → (∀ b, b ≠ (γ 9 3) → x10 b = F b) → x10 (γ 9 3) = .inl (I .boolean, 2000, .inl x9) → fI (x10 q1) 0 = x1 → fI (x10 q1) 6 = x11 → gB x12 0 1 → tr_RRow_usesB2 x1 x11 x12 → x12.toInt ≠ 0 → fR (x10 q0) 3 = (γ 9 3) → fI (x10 q1) 3 = x13 → x10 (γ 9 3) = .inl (I .boolean, 2000, .inl x9) → x14 = upd x9 x13.toNatClampNeg (vp_nar .boolean 1) → (∀ b, b ≠ (γ 9 3) → x15 b = x10 b) → x15 (γ 9 3) = .inl (I .boolean, 2000, .inl x14) → R x15) →
  (∀ (x1 : Int32) (x2 : Int32) (x3 : Int32) (x4 : Int32), fI (F q1) 0 = x1 → fI (F q1) 1 = x2 → fI (F q1) 4 = x3 → gB x4 (-1) 1999 → tr_RModel_setOf2 a2 x1 x2 x3 x4 → x4.toInt < 0 → a2.toInt ≠ 0 → x1.toInt ≠ 21 → R F) →
  (∀ (x1 : Int32) (x2 : Int32) (x3 : Int32) (x4 : Int32) (x5 : Nat → Int32) (x6 : Nat → Int32) (x7 : Nat → va_E), fI (F q1) 0 = x1 → fI (F q1) 1 = x2 → fI (F q1) 4 = x3 → gB x4 (-1) 1999 → tr_RModel_setOf2 a2 x1 x2 x3 x4 → x4.toInt < 0 → a2.toInt ≠ 0 → x1.toInt = 21 → fR (F q0) 3 = (γ 9 3) → F (γ 9 3) = .inl (I .boolean, 2000, .inl x5) → x6 = upd x5 x3.toNatClampNeg (vp_nar .boolean 1) → (∀ b, b ≠ (γ 9 3) → x7 b = F b) → x7 (γ 9 3) = .inl (I .boolean, 2000, .inl x6) → R x7) →
  (∀ (x1 : Int32) (x2 : Int32) (x3 : Int32) (x4 : Int32) (x5 : Nat → Int32) (x6 : Nat → Int32) (x7 : Nat → va_E) (x8 : Int32) (x9 : Int32) (x10 : Int32) (x11 : Int32), fI (F q1) 0 = x1 → fI (F q1) 1 = x2 → fI (F q1) 4 = x3 → gB x4 (-1) 1999 → tr_RModel_setOf2 a2 x1 x2 x3 x4 → 0 ≤ x4.toInt → fR (F q0) 3 = (γ 9 3) → F (γ 9 3) = .inl (I .boolean, 2000, .inl x5) → x6 = upd x5 x4.toNatClampNeg (vp_nar .boolean 1) → (∀ b, b ≠ (γ 9 3) → x7 b = F b) → x7 (γ 9 3) = .inl (I .boolean, 2000, .inl x6) → a2.toInt = 0 → fI (x7 q1) 0 = x1 → fI (x7 q1) 5 = x8 → gB x9 0 1 → tr_RRow_usesA2 x1 x8 x9 → x9.toInt = 0 → fI (x7 q1) 6 = x10 → gB x11 0 1 → tr_RRow_usesB2 x1 x10 x11 → x11.toInt = 0 → R x7) →
  (∀ (x1 : Int32) (x2 : Int32) (x3 : Int32) (x4 : Int32) (x5 : Nat → Int32) (x6 : Nat → Int32) (x7 : Nat → va_E) (x8 : Int32) (x9 : Int32) (x10 : Int32) (x11 : Int32) (x12 : Int32) (x13 : Nat → Int32) (x14 : Nat → va_E), fI (F q1) 0 = x1 → fI (F q1) 1 = x2 → fI (F q1) 4 = x3 → gB x4 (-1) 1999 → tr_RModel_setOf2 a2 x1 x2 x3 x4 → 0 ≤ x4.toInt → fR (F q0) 3 = (γ 9 3) → F (γ 9 3) = .inl (I .boolean, 2000, .inl x5) → x6 = upd x5 x4.toNatClampNeg (vp_nar .boolean 1) → (∀ b, b ≠ (γ 9 3) → x7 b = F b) → x7 (γ 9 3) = .inl (I .boolean, 2000, .inl x6) → a2.toInt = 0 → fI (x7 q1) 0 = x1 → fI (x7 q1) 5 = x8 → gB x9 0 1 → tr_RRow_usesA2 x1 x8 x9 → x9.toInt = 0 → fI (x7 q1) 6 = x10 → gB x11 0 1 → tr_RRow_usesB2 x1 x10 x11 → x11.toInt ≠ 0 → fR (x7 q0) 3 = (γ 9 3) → fI (x7 q1) 3 = x12 → x7 (γ 9 3) = .inl (I .boolean, 2000, .inl x6) → x13 = upd x6 x12.toNatClampNeg (vp_nar .boolean 1) → (∀ b, b ≠ (γ 9 3) → x14 b = x7 b) → x14 (γ 9 3) = .inl (I .boolean, 2000, .inl x13) → R x14) →
  (∀ (x1 : Int32) (x2 : Int32) (x3 : Int32) (x4 : Int32) (x5 : Nat → Int32) (x6 : Nat → Int32) (x7 : Nat → va_E) (x8 : Int32) (x9 : Int32) (x10 : Int32) (x11 : Nat → Int32) (x12 : Nat → va_E) (x13 : Int32) (x14 : Int32), fI (F q1) 0 = x1 → fI (F q1) 1 = x2 → fI (F q1) 4 = x3 → gB x4 (-1) 1999 → tr_RModel_setOf2 a2 x1 x2 x3 x4 → 0 ≤ x4.toInt → fR (F q0) 3 = (γ 9 3) → F (γ 9 3) = .inl (I .boolean, 2000, .inl x5) → x6 = upd x5 x4.toNatClampNeg (vp_nar .boolean 1) → (∀ b, b ≠ (γ 9 3) → x7 b = F b) → x7 (γ 9 3) = .inl (I .boolean, 2000, .inl x6) → a2.toInt = 0 → fI (x7 q1) 0 = x1 → fI (x7 q1) 5 = x8 → gB x9 0 1 → tr_RRow_usesA2 x1 x8 x9 → x9.toInt ≠ 0 → fR (x7 q0) 3 = (γ 9 3) → fI (x7 q1) 2 = x10 → x7 (γ 9 3) = .inl (I .boolean, 2000, .inl x6) → x11 = upd x6 x10.toNatClampNeg (vp_nar .boolean 1) → (∀ b, b ≠ (γ 9 3) → x12 b = x7 b) → x12 (γ 9 3) = .inl (I .boolean, 2000, .inl x11) → fI (x12 q1) 0 = x1 → fI (x12 q1) 6 = x13 → gB x14 0 1 → tr_RRow_usesB2 x1 x13 x14 → x14.toInt = 0 → R x12) →
  (∀ (x1 : Int32) (x2 : Int32) (x3 : Int32) (x4 : Int32) (x5 : Nat → Int32) (x6 : Nat → Int32) (x7 : Nat → va_E) (x8 : Int32) (x9 : Int32) (x10 : Int32) (x11 : Nat → Int32) (x12 : Nat → va_E) (x13 : Int32) (x14 : Int32) (x15 : Int32) (x16 : Nat → Int32) (x17 : Nat → va_E), fI (F q1) 0 = x1 → fI (F q1) 1 = x2 → fI (F q1) 4 = x3 → gB x4 (-1) 1999 → tr_RModel_setOf2 a2 x1 x2 x3 x4 → 0 ≤ x4.toInt → fR (F q0) 3 = (γ 9 3) → F (γ 9 3) = .inl (I .boolean, 2000, .inl x5) → x6 = upd x5 x4.toNatClampNeg (vp_nar .boolean 1) → (∀ b, b ≠ (γ 9 3) → x7 b = F b) → x7 (γ 9 3) = .inl (I .boolean, 2000, .inl x6) → a2.toInt = 0 → fI (x7 q1) 0 = x1 → fI (x7 q1) 5 = x8 → gB x9 0 1 → tr_RRow_usesA2 x1 x8 x9 → x9.toInt ≠ 0 → fR (x7 q0) 3 = (γ 9 3) → fI (x7 q1) 2 = x10 → x7 (γ 9 3) = .inl (I .boolean, 2000, .inl x6) → x11 = upd x6 x10.toNatClampNeg (vp_nar .boolean 1) → (∀ b, b ≠ (γ 9 3) → x12 b = x7 b) → x12 (γ 9 3) = .inl (I .boolean, 2000, .inl x11) → fI (x12 q1) 0 = x1 → fI (x12 q1) 6 = x13 → gB x14 0 1 → tr_RRow_usesB2 x1 x13 x14 → x14.toInt ≠ 0 → fR (x12 q0) 3 = (γ 9 3) → fI (x12 q1) 3 = x15 → x12 (γ 9 3) = .inl (I .boolean, 2000, .inl x11) → x16 = upd x11 x15.toNatClampNeg (vp_nar .boolean 1) → (∀ b, b ≠ (γ 9 3) → x17 b = x12 b) → x17 (γ 9 3) = .inl (I .boolean, 2000, .inl x16) → R x17) →
  (∀ (x1 : Int32) (x2 : Int32) (x3 : Int32) (x4 : Int32) (x5 : Nat → Int32) (x6 : Nat → Int32) (x7 : Nat → va_E), fI (F q1) 0 = x1 → fI (F q1) 1 = x2 → fI (F q1) 4 = x3 → gB x4 (-1) 1999 → tr_RModel_setOf2 a2 x1 x2 x3 x4 → 0 ≤ x4.toInt → fR (F q0) 3 = (γ 9 3) → F (γ 9 3) = .inl (I .boolean, 2000, .inl x5) → x6 = upd x5 x4.toNatClampNeg (vp_nar .boolean 1) → (∀ b, b ≠ (γ 9 3) → x7 b = F b) → x7 (γ 9 3) = .inl (I .boolean, 2000, .inl x6) → a2.toInt ≠ 0 → fI (x7 q1) 0 = x1 → x1.toInt ≠ 21 → R x7) →
  (∀ (x1 : Int32) (x2 : Int32) (x3 : Int32) (x4 : Int32) (x5 : Nat → Int32) (x6 : Nat → Int32) (x7 : Nat → va_E) (x8 : Nat → Int32) (x9 : Nat → va_E), fI (F q1) 0 = x1 → fI (F q1) 1 = x2 → fI (F q1) 4 = x3 → gB x4 (-1) 1999 → tr_RModel_setOf2 a2 x1 x2 x3 x4 → 0 ≤ x4.toInt → fR (F q0) 3 = (γ 9 3) → F (γ 9 3) = .inl (I .boolean, 2000, .inl x5) → x6 = upd x5 x4.toNatClampNeg (vp_nar .boolean 1) → (∀ b, b ≠ (γ 9 3) → x7 b = F b) → x7 (γ 9 3) = .inl (I .boolean, 2000, .inl x6) → a2.toInt ≠ 0 → fI (x7 q1) 0 = x1 → x1.toInt = 21 → fR (x7 q0) 3 = (γ 9 3) → fI (x7 q1) 4 = x3 → x7 (γ 9 3) = .inl (I .boolean, 2000, .inl x6) → x8 = upd x6 x3.toNatClampNeg (vp_nar .boolean 1) → (∀ b, b ≠ (γ 9 3) → x9 b = x7 b) → x9 (γ 9 3) = .inl (I .boolean, 2000, .inl x8) → R x9) →
  R o1
abbrev ky_283197_SpillForgeModel_stand : gKey := (cX17_stand, 4, "SpillForgeModel", none, [], "stand", fun _ _ => True)
def pt_283197_SpillForgeModel_stand (D : va_G) (I : FieldType → ClassId) (γ el : Nat → Nat → Nat) (P283192 : List Nat) (F283193 : Nat → va_E) (q283194 : Nat) (q283195 : Nat) (p283196 : Int32) : Option Value → va_W → Nat → Nat → Prop := fun r w dc ds => ∃ (F283472 : Nat → va_E), r = none ∧ w = va_pl P283192 F283472 ∧ RS D I P283192 F283472 γ el ∧ rStr γ [] F283193 F283472 ∧ dc ≤ 0 ∧ ds ≤ 0 ∧ (gIp (p283196.toInt = 0) (∀ n : Nat, rSd (cB (F283472 (γ 9 3))) n ↔ (rSd (cB (F283193 (γ 9 3))) n ∨ nmS (F283193 q283195) n))) ∧ (F283472 q283194 = F283193 q283194) ∧ tr_RModel_stand2 D I γ el F283193 q283194 q283195 p283196 F283472
set_option maxRecDepth 100000 in
set_option maxHeartbeats 4000000 in
theorem ct_283197_SpillForgeModel_stand (l : Launch) (hl0 : l.stackTraces = false) (D : va_G) (I : FieldType → ClassId) (γ el : Nat → Nat → Nat) (P283192 : List Nat) (F283193 : Nat → va_E) (q283194 : Nat) (q283195 : Nat) (p283196 : Int32) (hT : RS D I P283192 F283193 γ el) (htq283194 : rKd γ q283194 10) (htq283195 : rKd γ q283195 1) (bp283196 : gB p283196 0 1) : CtA (gV D I) l yX17_stand cX17_stand 4 none 2 41 0 0 [.ref q283194, .ref q283195, .int p283196] (va_pl P283192 F283193) (pt_283197_SpillForgeModel_stand D I γ el P283192 F283193 q283194 q283195 p283196) gNA := by
  refine CtA_of hl0 (by decide) (Nat.le_of_ble_eq_true rfl) ?_
  have hm283198 : q283194 ∈ P283192 := RS_m hT htq283194 (by decide)
  refine rk10_e (show rk_10 γ (F283193 q283194) from RS_o hT htq283194) (fun q283200 q283201 p283202 p283203 p283204 p283205 p283206 p283207 p283208 p283209 p283210 p283211 p283212 p283213 p283214 p283215 p283216 he283199 hB283243 ht283217 ht283218 ht283219 ht283220 ht283221 ht283222 ht283223 ht283224 ht283225 ht283226 ht283227 ht283228 ht283229 ht283230 ht283231 ht283232 ht283233 ht283234 ht283235 ht283236 ht283237 ht283238 ht283239 ht283240 hB283244 => ?_)
  have hm283245 : (γ 9 3) ∈ P283192 := RS_m hT ht283222 (by decide)
  obtain ⟨f283247, he283246, bf283247⟩ := show rk_14 I (F283193 (γ 9 3)) from RS_o hT ht283222
  have hm283248 : q283195 ∈ P283192 := RS_m hT htq283195 (by decide)
  obtain ⟨p283250, p283251, p283252, p283253, p283254, p283255, p283256, he283249, bp283250, bp283251, bp283254, bp283255, bp283256, r283257, r283258, r283259, r283260, r283261⟩ := show rk_1 γ q283195 (F283193 q283195) from RS_o hT htq283195
  have bp283252 := gB_any p283252
  have bp283253 := gB_any p283253
  refine G_aload_n 1 dr_cX17_stand_0 rfl ?_
  refine G_iload_n 2 dr_cX17_stand_1 rfl ?_
  have fq283262 : fI (F283193 q283195) 0 = p283250 := by rw [he283249]; rfl
  have fq283263 : fI (F283193 q283195) 1 = p283251 := by rw [he283249]; rfl
  have fq283264 : fI (F283193 q283195) 4 = p283254 := by rw [he283249]; rfl
  refine Gw_callS (As := [.ref q283195, .int p283196]) (gV_ok D I) (cp_221617_SpillForgeModel_setOf l hl0 D I P283192 F283193 q283195 p283196 p283250 p283251 p283252 p283253 p283254 p283255 p283256 hm283248 he283249 bp283196 bp283250 bp283251 bp283254 bp283255 bp283256) dr_cX17_stand_2 ⟨wr_10_178, wr_1_14, wr_10_180, by decide, rfl, (Nat.le_of_ble_eq_true rfl), (Nat.le_of_ble_eq_true rfl)⟩ wr_10_179 (show 0 + 0 ≤ 0 by first | omega | decide) (show 0 + 0 ≤ 0 by first | omega | decide) (Nat.le_of_ble_eq_true rfl) (fun r283268 w283269 dc283265 ds283266 hp283267 => ?_) (fun _ _ _ _ _ z => z.elim)
  obtain ⟨o283270, rfl, rfl, hdc, hds, bo283270, x283271, ht283272⟩ := hp283267
  change G _ _ _ _ _ _ _ (.int o283270 :: _) _ _ _
  refine G_widen (cs' := 0) (sl' := 0) (by omega) (by omega) ?_
  refine G_istore_n (L' := [(3, .int o283270), (0, .ref q283194), (1, .ref q283195), (2, .int p283196)]) dr_cX17_stand_5 (Nat.le_of_ble_eq_true rfl) rfl ?_
  refine G_iload_n 0 dr_cX17_stand_6 rfl ?_
  refine G_if_lt 17 dr_cX17_stand_7 (by decide +kernel) (fun hc283273 => ?_) (fun hc283273 => ?_)
  · have r283274 : o283270.toInt < 0 := gj_lt hc283273 (show Int32.toInt 0 = 0 by decide)
    have bo283270' : gB o283270 (-1) (-1) := ⟨by omega, by omega⟩
    refine G_iload_n 3 dr_cX17_stand_17 rfl ?_
    refine G_if_eq 41 dr_cX17_stand_18 (by decide +kernel) (fun hc283275 => ?_) (fun hc283275 => ?_)
    · have r283276 : p283196.toInt = 0 := gj_eq hc283275 (show Int32.toInt 0 = 0 by decide)
      have bp283196' : gB p283196 0 0 := gB_t0 r283276
      refine G_aload_n 2 dr_cX17_stand_41 rfl ?_
      have fq283277 : fI (F283193 q283195) 5 = p283255 := by rw [he283249]; rfl
      refine Gw_callV (As := []) (gV_ok D I) (cp_221556_Row_usesA l hl0 D I P283192 F283193 q283195 p283250 p283251 p283252 p283253 p283254 p283255 p283256 hm283248 he283249 bp283250 bp283251 bp283254 bp283255 bp283256) dr_cX17_stand_42 ⟨wr_10_192, wr_1_39, wr_10_195, by decide, rfl, (Nat.le_of_ble_eq_true rfl), (Nat.le_of_ble_eq_true rfl)⟩ wr_10_193 wr_10_194 hm283248 he283249 rfl (show 0 + 0 ≤ 0 by first | omega | decide) (show 0 + 0 ≤ 0 by first | omega | decide) (Nat.le_of_ble_eq_true rfl) (fun r283281 w283282 dc283278 ds283279 hp283280 => ?_) (fun _ _ _ _ _ z => z.elim)
      obtain ⟨o283283, rfl, rfl, hdc, hds, bo283283, x283284, ht283285⟩ := hp283280
      change G _ _ _ _ _ _ _ (.int o283283 :: _) _ _ _
      refine G_widen (cs' := 0) (sl' := 0) (by omega) (by omega) ?_
      refine G_if_eq 58 dr_cX17_stand_45 (by decide +kernel) (fun hc283286 => ?_) (fun hc283286 => ?_)
      · have r283287 : o283283.toInt = 0 := gj_eq hc283286 (show Int32.toInt 0 = 0 by decide)
        have bo283283' : gB o283283 0 0 := gB_t0 r283287
        refine G_aload_n 2 dr_cX17_stand_58 rfl ?_
        have fq283288 : fI (F283193 q283195) 6 = p283256 := by rw [he283249]; rfl
        refine Gw_callV (As := []) (gV_ok D I) (cp_221580_Row_usesB l hl0 D I P283192 F283193 q283195 p283250 p283251 p283252 p283253 p283254 p283255 p283256 hm283248 he283249 bp283250 bp283251 bp283254 bp283255 bp283256) dr_cX17_stand_59 ⟨wr_10_196, wr_1_39, wr_10_199, by decide, rfl, (Nat.le_of_ble_eq_true rfl), (Nat.le_of_ble_eq_true rfl)⟩ wr_10_197 wr_10_198 hm283248 he283249 rfl (show 0 + 0 ≤ 0 by first | omega | decide) (show 0 + 0 ≤ 0 by first | omega | decide) (Nat.le_of_ble_eq_true rfl) (fun r283292 w283293 dc283289 ds283290 hp283291 => ?_) (fun _ _ _ _ _ z => z.elim)
        obtain ⟨o283294, rfl, rfl, hdc, hds, bo283294, x283295, ht283296⟩ := hp283291
        change G _ _ _ _ _ _ _ (.int o283294 :: _) _ _ _
        refine G_widen (cs' := 0) (sl' := 0) (by omega) (by omega) ?_
        refine G_if_eq 75 dr_cX17_stand_62 (by decide +kernel) (fun hc283297 => ?_) (fun hc283297 => ?_)
        · have r283298 : o283294.toInt = 0 := gj_eq hc283297 (show Int32.toInt 0 = 0 by decide)
          have bo283294' : gB o283294 0 0 := gB_t0 r283298
          exact G_vretA dr_cX17_stand_75 rfl (Nat.le_of_ble_eq_true rfl) (Nat.le_of_ble_eq_true rfl) ⟨F283193, rfl, rfl, hT, (rStr_rf (γ := γ) (W := []) (F := F283193)), (Nat.le_of_ble_eq_true rfl), (Nat.le_of_ble_eq_true rfl), (fun _ n => by rw [cB_of he283246, nmS_of he283249]; exact nm_fin false false false (decide_eq_false (show ¬ (p283250.toInt ≤ 21) by omega)) (decide_eq_false (show ¬ (p283250.toInt ≠ 20 ∧ p283250.toInt ≠ 21 ∧ p283250.toInt ≠ 30 ∧ p283255.toInt = 1) by omega)) (decide_eq_false (show ¬ (0 < p283250.toInt ∧ p283250.toInt < 20 ∧ p283256.toInt = 1) by omega)) (by simp)), rfl, (fun R c1 c2 c3 c4 c5 c6 c7 c8 c9 c10 c11 c12 => c1 p283250 p283251 p283254 o283270 p283255 o283283 p283256 o283294 fq283262 fq283263 fq283264 bo283270 ht283272 r283274 r283276 fq283277 bo283283 ht283285 r283287 fq283288 bo283294 ht283296 r283298)⟩
        · have r283299 : o283294.toInt ≠ 0 := gj_neq hc283297 (show Int32.toInt 0 = 0 by decide)
          have bo283294' : gB o283294 1 1 := gB_t1 bo283294 r283299
          refine G_aload_n 1 dr_cX17_stand_65 rfl ?_
          have fq283300 : fR (F283193 q283194) 3 = (γ 9 3) := by rw [he283199]; rfl
          refine Gp_get 3 hm283198 he283199 dr_cX17_stand_66 (gk_X17 D I) (Nat.le_of_ble_eq_true rfl) wr_7_77 rfl ?_
          refine G_aload_n 2 dr_cX17_stand_69 rfl ?_
          have fq283301 : fI (F283193 q283195) 3 = p283253 := by rw [he283249]; rfl
          refine Gp_get 3 hm283248 he283249 dr_cX17_stand_70 (gk_X15 D I) (Nat.le_of_ble_eq_true rfl) wr_9_190 rfl ?_
          refine G_iconst 1 dr_cX17_stand_73 (by decide +kernel) ?_
          refine Gp_zast 3 hm283245 he283246 dr_cX17_stand_74 rfl (gB_inr (by omega) (by omega)) (fun F283302 e283303 n283304 => ?_)
          obtain ⟨f283305, hf283305⟩ : ∃ z, z = upd f283247 p283253.toNatClampNeg (vp_nar .boolean 1) := ⟨_, rfl⟩
          rw [← hf283305] at e283303
          have he283306 : F283302 q283194 = .inr (22, [.ref (γ 9 0), .ref (γ 9 1), .ref (γ 9 2), .ref (γ 9 3), .ref (γ 9 4), .ref (γ 9 5), .ref (γ 9 6), .ref (γ 9 7), .ref (γ 9 8), .int p283202, .int p283203, .int p283204, .int p283205, .int p283206, .int p283207, .ref (γ 9 15), .ref (γ 9 16), .ref (γ 9 17), .ref (γ 9 18), .ref (γ 9 19), .ref (γ 9 20), .ref (γ 9 21), .ref (γ 9 22), .int p283208, .int p283209, .int p283210, .int p283211, .int p283212, .ref q283200, .ref (γ 9 29), .int p283213, .ref (γ 9 31), .int p283214, .int p283215, .int p283216, .ref q283201]) := (n283304 q283194 (rn_oa he283199 he283246)).trans he283199
          have he283307 : F283302 q283195 = .inr (20, [.int p283250, .int p283251, .int p283252, .int p283253, .int p283254, .int p283255, .int p283256]) := (n283304 q283195 (rn_oa he283249 he283246)).trans he283249
          have he283308 : F283302 (γ 9 3) = .inl (I .boolean, 2000, .inl f283305) := e283303
          have hs283309 : rStr γ [] F283193 F283302 := rStr_put (rStr_rf (γ := γ) (W := []) (F := F283193)) n283304 ht283222 (by decide)
          have kp283310 : F283302 q283194 = F283193 q283194 := n283304 q283194 (rn_ty htq283194 ht283222 (by decide))
          have bf283305 : gF f283305 0 1 := gF_upd hf283305 bf283247 (gB_w (gBl (show Int32.toInt 1 = 1 by decide)) (by decide) (by decide))
          have hT283311 : RS D I P283192 F283302 γ el := RS_set hT n283304 ht283222 (by decide) ⟨f283305, he283308, bf283305⟩
          exact G_vretA dr_cX17_stand_75 rfl (Nat.le_of_ble_eq_true rfl) (Nat.le_of_ble_eq_true rfl) ⟨F283302, rfl, rfl, hT283311, hs283309, (Nat.le_of_ble_eq_true rfl), (Nat.le_of_ble_eq_true rfl), (fun _ n => by rw [cB_of he283308, cB_of he283246, nmS_of he283249]; exact nm_fin false false true (decide_eq_false (show ¬ (p283250.toInt ≤ 21) by omega)) (decide_eq_false (show ¬ (p283250.toInt ≠ 20 ∧ p283250.toInt ≠ 21 ∧ p283250.toInt ≠ 30 ∧ p283255.toInt = 1) by omega)) (decide_eq_true (show (0 < p283250.toInt ∧ p283250.toInt < 20 ∧ p283256.toInt = 1) by omega)) (by rw [sd_u hf283305 (by omega) (by omega)]; simp)), kp283310, (fun R c1 c2 c3 c4 c5 c6 c7 c8 c9 c10 c11 c12 => c2 p283250 p283251 p283254 o283270 p283255 o283283 p283256 o283294 p283253 f283247 f283305 F283302 fq283262 fq283263 fq283264 bo283270 ht283272 r283274 r283276 fq283277 bo283283 ht283285 r283287 fq283288 bo283294 ht283296 r283299 fq283300 fq283301 he283246 hf283305 n283304 he283308)⟩
      · have r283312 : o283283.toInt ≠ 0 := gj_neq hc283286 (show Int32.toInt 0 = 0 by decide)
        have bo283283' : gB o283283 1 1 := gB_t1 bo283283 r283312
        refine G_aload_n 1 dr_cX17_stand_48 rfl ?_
        have fq283313 : fR (F283193 q283194) 3 = (γ 9 3) := by rw [he283199]; rfl
        refine Gp_get 3 hm283198 he283199 dr_cX17_stand_49 (gk_X17 D I) (Nat.le_of_ble_eq_true rfl) wr_7_77 rfl ?_
        refine G_aload_n 2 dr_cX17_stand_52 rfl ?_
        have fq283314 : fI (F283193 q283195) 2 = p283252 := by rw [he283249]; rfl
        refine Gp_get 2 hm283248 he283249 dr_cX17_stand_53 (gk_X15 D I) (Nat.le_of_ble_eq_true rfl) wr_9_186 rfl ?_
        refine G_iconst 1 dr_cX17_stand_56 (by decide +kernel) ?_
        refine Gp_zast 3 hm283245 he283246 dr_cX17_stand_57 rfl (gB_inr (by omega) (by omega)) (fun F283315 e283316 n283317 => ?_)
        obtain ⟨f283318, hf283318⟩ : ∃ z, z = upd f283247 p283252.toNatClampNeg (vp_nar .boolean 1) := ⟨_, rfl⟩
        rw [← hf283318] at e283316
        have he283319 : F283315 q283194 = .inr (22, [.ref (γ 9 0), .ref (γ 9 1), .ref (γ 9 2), .ref (γ 9 3), .ref (γ 9 4), .ref (γ 9 5), .ref (γ 9 6), .ref (γ 9 7), .ref (γ 9 8), .int p283202, .int p283203, .int p283204, .int p283205, .int p283206, .int p283207, .ref (γ 9 15), .ref (γ 9 16), .ref (γ 9 17), .ref (γ 9 18), .ref (γ 9 19), .ref (γ 9 20), .ref (γ 9 21), .ref (γ 9 22), .int p283208, .int p283209, .int p283210, .int p283211, .int p283212, .ref q283200, .ref (γ 9 29), .int p283213, .ref (γ 9 31), .int p283214, .int p283215, .int p283216, .ref q283201]) := (n283317 q283194 (rn_oa he283199 he283246)).trans he283199
        have he283320 : F283315 q283195 = .inr (20, [.int p283250, .int p283251, .int p283252, .int p283253, .int p283254, .int p283255, .int p283256]) := (n283317 q283195 (rn_oa he283249 he283246)).trans he283249
        have he283321 : F283315 (γ 9 3) = .inl (I .boolean, 2000, .inl f283318) := e283316
        have hs283322 : rStr γ [] F283193 F283315 := rStr_put (rStr_rf (γ := γ) (W := []) (F := F283193)) n283317 ht283222 (by decide)
        have kp283323 : F283315 q283194 = F283193 q283194 := n283317 q283194 (rn_ty htq283194 ht283222 (by decide))
        have bf283318 : gF f283318 0 1 := gF_upd hf283318 bf283247 (gB_w (gBl (show Int32.toInt 1 = 1 by decide)) (by decide) (by decide))
        refine G_aload_n 2 dr_cX17_stand_58 rfl ?_
        have hT283324 : RS D I P283192 F283315 γ el := RS_set hT n283317 ht283222 (by decide) ⟨f283318, he283321, bf283318⟩
        have fq283325 : fI (F283315 q283195) 0 = p283250 := by rw [he283320]; rfl
        have fq283326 : fI (F283315 q283195) 6 = p283256 := by rw [he283320]; rfl
        refine Gw_callV (As := []) (gV_ok D I) (cp_221580_Row_usesB l hl0 D I P283192 F283315 q283195 p283250 p283251 p283252 p283253 p283254 p283255 p283256 hm283248 he283320 bp283250 bp283251 bp283254 bp283255 bp283256) dr_cX17_stand_59 ⟨wr_10_196, wr_1_39, wr_10_199, by decide, rfl, (Nat.le_of_ble_eq_true rfl), (Nat.le_of_ble_eq_true rfl)⟩ wr_10_197 wr_10_198 hm283248 he283320 rfl (show 0 + 0 ≤ 0 by first | omega | decide) (show 0 + 0 ≤ 0 by first | omega | decide) (Nat.le_of_ble_eq_true rfl) (fun r283330 w283331 dc283327 ds283328 hp283329 => ?_) (fun _ _ _ _ _ z => z.elim)
        obtain ⟨o283332, rfl, rfl, hdc, hds, bo283332, x283333, ht283334⟩ := hp283329
        change G _ _ _ _ _ _ _ (.int o283332 :: _) _ _ _
        refine G_widen (cs' := 0) (sl' := 0) (by omega) (by omega) ?_
        refine G_if_eq 75 dr_cX17_stand_62 (by decide +kernel) (fun hc283335 => ?_) (fun hc283335 => ?_)
        · have r283336 : o283332.toInt = 0 := gj_eq hc283335 (show Int32.toInt 0 = 0 by decide)
          have bo283332' : gB o283332 0 0 := gB_t0 r283336
          exact G_vretA dr_cX17_stand_75 rfl (Nat.le_of_ble_eq_true rfl) (Nat.le_of_ble_eq_true rfl) ⟨F283315, rfl, rfl, hT283324, hs283322, (Nat.le_of_ble_eq_true rfl), (Nat.le_of_ble_eq_true rfl), (fun _ n => by rw [cB_of he283321, cB_of he283246, nmS_of he283249]; exact nm_fin false true false (decide_eq_false (show ¬ (p283250.toInt ≤ 21) by omega)) (decide_eq_true (show (p283250.toInt ≠ 20 ∧ p283250.toInt ≠ 21 ∧ p283250.toInt ≠ 30 ∧ p283255.toInt = 1) by omega)) (decide_eq_false (show ¬ (0 < p283250.toInt ∧ p283250.toInt < 20 ∧ p283256.toInt = 1) by omega)) (by rw [sd_u hf283318 (by omega) (by omega)]; simp)), kp283323, (fun R c1 c2 c3 c4 c5 c6 c7 c8 c9 c10 c11 c12 => c3 p283250 p283251 p283254 o283270 p283255 o283283 p283252 f283247 f283318 F283315 p283256 o283332 fq283262 fq283263 fq283264 bo283270 ht283272 r283274 r283276 fq283277 bo283283 ht283285 r283312 fq283313 fq283314 he283246 hf283318 n283317 he283321 fq283325 fq283326 bo283332 ht283334 r283336)⟩
        · have r283337 : o283332.toInt ≠ 0 := gj_neq hc283335 (show Int32.toInt 0 = 0 by decide)
          have bo283332' : gB o283332 1 1 := gB_t1 bo283332 r283337
          refine G_aload_n 1 dr_cX17_stand_65 rfl ?_
          have fq283338 : fR (F283315 q283194) 3 = (γ 9 3) := by rw [he283319]; rfl
          refine Gp_get 3 hm283198 he283319 dr_cX17_stand_66 (gk_X17 D I) (Nat.le_of_ble_eq_true rfl) wr_7_77 rfl ?_
          refine G_aload_n 2 dr_cX17_stand_69 rfl ?_
          have fq283339 : fI (F283315 q283195) 3 = p283253 := by rw [he283320]; rfl
          refine Gp_get 3 hm283248 he283320 dr_cX17_stand_70 (gk_X15 D I) (Nat.le_of_ble_eq_true rfl) wr_9_190 rfl ?_
          refine G_iconst 1 dr_cX17_stand_73 (by decide +kernel) ?_
          refine Gp_zast 3 hm283245 he283321 dr_cX17_stand_74 rfl (gB_inr (by omega) (by omega)) (fun F283340 e283341 n283342 => ?_)
          obtain ⟨f283343, hf283343⟩ : ∃ z, z = upd f283318 p283253.toNatClampNeg (vp_nar .boolean 1) := ⟨_, rfl⟩
          rw [← hf283343] at e283341
          have he283344 : F283340 q283194 = .inr (22, [.ref (γ 9 0), .ref (γ 9 1), .ref (γ 9 2), .ref (γ 9 3), .ref (γ 9 4), .ref (γ 9 5), .ref (γ 9 6), .ref (γ 9 7), .ref (γ 9 8), .int p283202, .int p283203, .int p283204, .int p283205, .int p283206, .int p283207, .ref (γ 9 15), .ref (γ 9 16), .ref (γ 9 17), .ref (γ 9 18), .ref (γ 9 19), .ref (γ 9 20), .ref (γ 9 21), .ref (γ 9 22), .int p283208, .int p283209, .int p283210, .int p283211, .int p283212, .ref q283200, .ref (γ 9 29), .int p283213, .ref (γ 9 31), .int p283214, .int p283215, .int p283216, .ref q283201]) := (n283342 q283194 (rn_oa he283319 he283321)).trans he283319
          have he283345 : F283340 q283195 = .inr (20, [.int p283250, .int p283251, .int p283252, .int p283253, .int p283254, .int p283255, .int p283256]) := (n283342 q283195 (rn_oa he283320 he283321)).trans he283320
          have he283346 : F283340 (γ 9 3) = .inl (I .boolean, 2000, .inl f283343) := e283341
          have hs283347 : rStr γ [] F283193 F283340 := rStr_put hs283322 n283342 ht283222 (by decide)
          have kp283348 : F283340 q283194 = F283193 q283194 := (n283342 q283194 (rn_ty htq283194 ht283222 (by decide))).trans kp283323
          have bf283343 : gF f283343 0 1 := gF_upd hf283343 bf283318 (gB_w (gBl (show Int32.toInt 1 = 1 by decide)) (by decide) (by decide))
          have hT283349 : RS D I P283192 F283340 γ el := RS_set hT283324 n283342 ht283222 (by decide) ⟨f283343, he283346, bf283343⟩
          exact G_vretA dr_cX17_stand_75 rfl (Nat.le_of_ble_eq_true rfl) (Nat.le_of_ble_eq_true rfl) ⟨F283340, rfl, rfl, hT283349, hs283347, (Nat.le_of_ble_eq_true rfl), (Nat.le_of_ble_eq_true rfl), (fun _ n => by rw [cB_of he283346, cB_of he283246, nmS_of he283249]; exact nm_fin false true true (decide_eq_false (show ¬ (p283250.toInt ≤ 21) by omega)) (decide_eq_true (show (p283250.toInt ≠ 20 ∧ p283250.toInt ≠ 21 ∧ p283250.toInt ≠ 30 ∧ p283255.toInt = 1) by omega)) (decide_eq_true (show (0 < p283250.toInt ∧ p283250.toInt < 20 ∧ p283256.toInt = 1) by omega)) (by rw [sd_u hf283343 (by omega) (by omega), sd_u hf283318 (by omega) (by omega)]; simp)), kp283348, (fun R c1 c2 c3 c4 c5 c6 c7 c8 c9 c10 c11 c12 => c4 p283250 p283251 p283254 o283270 p283255 o283283 p283252 f283247 f283318 F283315 p283256 o283332 p283253 f283343 F283340 fq283262 fq283263 fq283264 bo283270 ht283272 r283274 r283276 fq283277 bo283283 ht283285 r283312 fq283313 fq283314 he283246 hf283318 n283317 he283321 fq283325 fq283326 bo283332 ht283334 r283337 fq283338 fq283339 he283321 hf283343 n283342 he283346)⟩
    · have r283350 : p283196.toInt ≠ 0 := gj_neq hc283275 (show Int32.toInt 0 = 0 by decide)
      have bp283196' : gB p283196 1 1 := gB_t1 bp283196 r283350
      refine G_aload_n 2 dr_cX17_stand_21 rfl ?_
      refine Gp_get 0 hm283248 he283249 dr_cX17_stand_22 (gk_X15 D I) (Nat.le_of_ble_eq_true rfl) wr_9_177 rfl ?_
      refine G_bipush 21 dr_cX17_stand_25 (by decide +kernel) ?_
      refine G_icmp_ne 40 dr_cX17_stand_27 (by decide +kernel) (fun hc283351 => ?_) (fun hc283351 => ?_)
      · have r283352 : p283250.toInt ≠ 21 := gj_neq hc283351 (show Int32.toInt 21 = 21 by decide)
        exact G_vretA dr_cX17_stand_40 rfl (Nat.le_of_ble_eq_true rfl) (Nat.le_of_ble_eq_true rfl) ⟨F283193, rfl, rfl, hT, (rStr_rf (γ := γ) (W := []) (F := F283193)), (Nat.le_of_ble_eq_true rfl), (Nat.le_of_ble_eq_true rfl), (fun h => absurd h (by omega)), rfl, (fun R c1 c2 c3 c4 c5 c6 c7 c8 c9 c10 c11 c12 => c5 p283250 p283251 p283254 o283270 fq283262 fq283263 fq283264 bo283270 ht283272 r283274 r283350 r283352)⟩
      · have r283353 : p283250.toInt = 21 := gj_eq hc283351 (show Int32.toInt 21 = 21 by decide)
        have bp283250' : gB p283250 21 21 := ⟨by omega, by omega⟩
        refine G_aload_n 1 dr_cX17_stand_30 rfl ?_
        have fq283354 : fR (F283193 q283194) 3 = (γ 9 3) := by rw [he283199]; rfl
        refine Gp_get 3 hm283198 he283199 dr_cX17_stand_31 (gk_X17 D I) (Nat.le_of_ble_eq_true rfl) wr_7_77 rfl ?_
        refine G_aload_n 2 dr_cX17_stand_34 rfl ?_
        refine Gp_get 4 hm283248 he283249 dr_cX17_stand_35 (gk_X15 D I) (Nat.le_of_ble_eq_true rfl) wr_9_193 rfl ?_
        refine G_iconst 1 dr_cX17_stand_38 (by decide +kernel) ?_
        refine Gp_zast 3 hm283245 he283246 dr_cX17_stand_39 rfl (gB_in bp283254 (by decide) (by decide)) (fun F283355 e283356 n283357 => ?_)
        obtain ⟨f283358, hf283358⟩ : ∃ z, z = upd f283247 p283254.toNatClampNeg (vp_nar .boolean 1) := ⟨_, rfl⟩
        rw [← hf283358] at e283356
        have he283359 : F283355 q283194 = .inr (22, [.ref (γ 9 0), .ref (γ 9 1), .ref (γ 9 2), .ref (γ 9 3), .ref (γ 9 4), .ref (γ 9 5), .ref (γ 9 6), .ref (γ 9 7), .ref (γ 9 8), .int p283202, .int p283203, .int p283204, .int p283205, .int p283206, .int p283207, .ref (γ 9 15), .ref (γ 9 16), .ref (γ 9 17), .ref (γ 9 18), .ref (γ 9 19), .ref (γ 9 20), .ref (γ 9 21), .ref (γ 9 22), .int p283208, .int p283209, .int p283210, .int p283211, .int p283212, .ref q283200, .ref (γ 9 29), .int p283213, .ref (γ 9 31), .int p283214, .int p283215, .int p283216, .ref q283201]) := (n283357 q283194 (rn_oa he283199 he283246)).trans he283199
        have he283360 : F283355 q283195 = .inr (20, [.int p283250, .int p283251, .int p283252, .int p283253, .int p283254, .int p283255, .int p283256]) := (n283357 q283195 (rn_oa he283249 he283246)).trans he283249
        have he283361 : F283355 (γ 9 3) = .inl (I .boolean, 2000, .inl f283358) := e283356
        have hs283362 : rStr γ [] F283193 F283355 := rStr_put (rStr_rf (γ := γ) (W := []) (F := F283193)) n283357 ht283222 (by decide)
        have kp283363 : F283355 q283194 = F283193 q283194 := n283357 q283194 (rn_ty htq283194 ht283222 (by decide))
        have bf283358 : gF f283358 0 1 := gF_upd hf283358 bf283247 (gB_w (gBl (show Int32.toInt 1 = 1 by decide)) (by decide) (by decide))
        have hT283364 : RS D I P283192 F283355 γ el := RS_set hT n283357 ht283222 (by decide) ⟨f283358, he283361, bf283358⟩
        exact G_vretA dr_cX17_stand_40 rfl (Nat.le_of_ble_eq_true rfl) (Nat.le_of_ble_eq_true rfl) ⟨F283355, rfl, rfl, hT283364, hs283362, (Nat.le_of_ble_eq_true rfl), (Nat.le_of_ble_eq_true rfl), (fun h => absurd h (by omega)), kp283363, (fun R c1 c2 c3 c4 c5 c6 c7 c8 c9 c10 c11 c12 => c6 p283250 p283251 p283254 o283270 f283247 f283358 F283355 fq283262 fq283263 fq283264 bo283270 ht283272 r283274 r283350 r283353 fq283354 he283246 hf283358 n283357 he283361)⟩
  · have r283365 : 0 ≤ o283270.toInt := gj_nlt hc283273 (show Int32.toInt 0 = 0 by decide)
    have bo283270' : gB o283270 0 1999 := ⟨by omega, by omega⟩
    refine G_aload_n 1 dr_cX17_stand_10 rfl ?_
    have fq283366 : fR (F283193 q283194) 3 = (γ 9 3) := by rw [he283199]; rfl
    refine Gp_get 3 hm283198 he283199 dr_cX17_stand_11 (gk_X17 D I) (Nat.le_of_ble_eq_true rfl) wr_7_77 rfl ?_
    refine G_iload_n 0 dr_cX17_stand_14 rfl ?_
    refine G_iconst 1 dr_cX17_stand_15 (by decide +kernel) ?_
    refine Gp_zast 3 hm283245 he283246 dr_cX17_stand_16 rfl (gB_in bo283270' (by decide) (by decide)) (fun F283367 e283368 n283369 => ?_)
    obtain ⟨f283370, hf283370⟩ : ∃ z, z = upd f283247 o283270.toNatClampNeg (vp_nar .boolean 1) := ⟨_, rfl⟩
    rw [← hf283370] at e283368
    have he283371 : F283367 q283194 = .inr (22, [.ref (γ 9 0), .ref (γ 9 1), .ref (γ 9 2), .ref (γ 9 3), .ref (γ 9 4), .ref (γ 9 5), .ref (γ 9 6), .ref (γ 9 7), .ref (γ 9 8), .int p283202, .int p283203, .int p283204, .int p283205, .int p283206, .int p283207, .ref (γ 9 15), .ref (γ 9 16), .ref (γ 9 17), .ref (γ 9 18), .ref (γ 9 19), .ref (γ 9 20), .ref (γ 9 21), .ref (γ 9 22), .int p283208, .int p283209, .int p283210, .int p283211, .int p283212, .ref q283200, .ref (γ 9 29), .int p283213, .ref (γ 9 31), .int p283214, .int p283215, .int p283216, .ref q283201]) := (n283369 q283194 (rn_oa he283199 he283246)).trans he283199
    have he283372 : F283367 q283195 = .inr (20, [.int p283250, .int p283251, .int p283252, .int p283253, .int p283254, .int p283255, .int p283256]) := (n283369 q283195 (rn_oa he283249 he283246)).trans he283249
    have he283373 : F283367 (γ 9 3) = .inl (I .boolean, 2000, .inl f283370) := e283368
    have hs283374 : rStr γ [] F283193 F283367 := rStr_put (rStr_rf (γ := γ) (W := []) (F := F283193)) n283369 ht283222 (by decide)
    have kp283375 : F283367 q283194 = F283193 q283194 := n283369 q283194 (rn_ty htq283194 ht283222 (by decide))
    have bf283370 : gF f283370 0 1 := gF_upd hf283370 bf283247 (gB_w (gBl (show Int32.toInt 1 = 1 by decide)) (by decide) (by decide))
    refine G_iload_n 3 dr_cX17_stand_17 rfl ?_
    refine G_if_eq 41 dr_cX17_stand_18 (by decide +kernel) (fun hc283376 => ?_) (fun hc283376 => ?_)
    · have r283377 : p283196.toInt = 0 := gj_eq hc283376 (show Int32.toInt 0 = 0 by decide)
      have bp283196' : gB p283196 0 0 := gB_t0 r283377
      refine G_aload_n 2 dr_cX17_stand_41 rfl ?_
      have hT283378 : RS D I P283192 F283367 γ el := RS_set hT n283369 ht283222 (by decide) ⟨f283370, he283373, bf283370⟩
      have fq283379 : fI (F283367 q283195) 0 = p283250 := by rw [he283372]; rfl
      have fq283380 : fI (F283367 q283195) 5 = p283255 := by rw [he283372]; rfl
      refine Gw_callV (As := []) (gV_ok D I) (cp_221556_Row_usesA l hl0 D I P283192 F283367 q283195 p283250 p283251 p283252 p283253 p283254 p283255 p283256 hm283248 he283372 bp283250 bp283251 bp283254 bp283255 bp283256) dr_cX17_stand_42 ⟨wr_10_192, wr_1_39, wr_10_195, by decide, rfl, (Nat.le_of_ble_eq_true rfl), (Nat.le_of_ble_eq_true rfl)⟩ wr_10_193 wr_10_194 hm283248 he283372 rfl (show 0 + 0 ≤ 0 by first | omega | decide) (show 0 + 0 ≤ 0 by first | omega | decide) (Nat.le_of_ble_eq_true rfl) (fun r283384 w283385 dc283381 ds283382 hp283383 => ?_) (fun _ _ _ _ _ z => z.elim)
      obtain ⟨o283386, rfl, rfl, hdc, hds, bo283386, x283387, ht283388⟩ := hp283383
      change G _ _ _ _ _ _ _ (.int o283386 :: _) _ _ _
      refine G_widen (cs' := 0) (sl' := 0) (by omega) (by omega) ?_
      refine G_if_eq 58 dr_cX17_stand_45 (by decide +kernel) (fun hc283389 => ?_) (fun hc283389 => ?_)
      · have r283390 : o283386.toInt = 0 := gj_eq hc283389 (show Int32.toInt 0 = 0 by decide)
        have bo283386' : gB o283386 0 0 := gB_t0 r283390
        refine G_aload_n 2 dr_cX17_stand_58 rfl ?_
        have fq283391 : fI (F283367 q283195) 6 = p283256 := by rw [he283372]; rfl
        refine Gw_callV (As := []) (gV_ok D I) (cp_221580_Row_usesB l hl0 D I P283192 F283367 q283195 p283250 p283251 p283252 p283253 p283254 p283255 p283256 hm283248 he283372 bp283250 bp283251 bp283254 bp283255 bp283256) dr_cX17_stand_59 ⟨wr_10_196, wr_1_39, wr_10_199, by decide, rfl, (Nat.le_of_ble_eq_true rfl), (Nat.le_of_ble_eq_true rfl)⟩ wr_10_197 wr_10_198 hm283248 he283372 rfl (show 0 + 0 ≤ 0 by first | omega | decide) (show 0 + 0 ≤ 0 by first | omega | decide) (Nat.le_of_ble_eq_true rfl) (fun r283395 w283396 dc283392 ds283393 hp283394 => ?_) (fun _ _ _ _ _ z => z.elim)
        obtain ⟨o283397, rfl, rfl, hdc, hds, bo283397, x283398, ht283399⟩ := hp283394
        change G _ _ _ _ _ _ _ (.int o283397 :: _) _ _ _
        refine G_widen (cs' := 0) (sl' := 0) (by omega) (by omega) ?_
        refine G_if_eq 75 dr_cX17_stand_62 (by decide +kernel) (fun hc283400 => ?_) (fun hc283400 => ?_)
        · have r283401 : o283397.toInt = 0 := gj_eq hc283400 (show Int32.toInt 0 = 0 by decide)
          have bo283397' : gB o283397 0 0 := gB_t0 r283401
          exact G_vretA dr_cX17_stand_75 rfl (Nat.le_of_ble_eq_true rfl) (Nat.le_of_ble_eq_true rfl) ⟨F283367, rfl, rfl, hT283378, hs283374, (Nat.le_of_ble_eq_true rfl), (Nat.le_of_ble_eq_true rfl), (fun _ n => by rw [cB_of he283373, cB_of he283246, nmS_of he283249]; exact nm_fin true false false (decide_eq_true (show (p283250.toInt ≤ 21) by omega)) (decide_eq_false (show ¬ (p283250.toInt ≠ 20 ∧ p283250.toInt ≠ 21 ∧ p283250.toInt ≠ 30 ∧ p283255.toInt = 1) by omega)) (decide_eq_false (show ¬ (0 < p283250.toInt ∧ p283250.toInt < 20 ∧ p283256.toInt = 1) by omega)) (by rw [sd_u hf283370 (by omega) (by omega), show o283270.toInt = p283251.toInt by omega]; simp)), kp283375, (fun R c1 c2 c3 c4 c5 c6 c7 c8 c9 c10 c11 c12 => c7 p283250 p283251 p283254 o283270 f283247 f283370 F283367 p283255 o283386 p283256 o283397 fq283262 fq283263 fq283264 bo283270 ht283272 r283365 fq283366 he283246 hf283370 n283369 he283373 r283377 fq283379 fq283380 bo283386 ht283388 r283390 fq283391 bo283397 ht283399 r283401)⟩
        · have r283402 : o283397.toInt ≠ 0 := gj_neq hc283400 (show Int32.toInt 0 = 0 by decide)
          have bo283397' : gB o283397 1 1 := gB_t1 bo283397 r283402
          refine G_aload_n 1 dr_cX17_stand_65 rfl ?_
          have fq283403 : fR (F283367 q283194) 3 = (γ 9 3) := by rw [he283371]; rfl
          refine Gp_get 3 hm283198 he283371 dr_cX17_stand_66 (gk_X17 D I) (Nat.le_of_ble_eq_true rfl) wr_7_77 rfl ?_
          refine G_aload_n 2 dr_cX17_stand_69 rfl ?_
          have fq283404 : fI (F283367 q283195) 3 = p283253 := by rw [he283372]; rfl
          refine Gp_get 3 hm283248 he283372 dr_cX17_stand_70 (gk_X15 D I) (Nat.le_of_ble_eq_true rfl) wr_9_190 rfl ?_
          refine G_iconst 1 dr_cX17_stand_73 (by decide +kernel) ?_
          refine Gp_zast 3 hm283245 he283373 dr_cX17_stand_74 rfl (gB_inr (by omega) (by omega)) (fun F283405 e283406 n283407 => ?_)
          obtain ⟨f283408, hf283408⟩ : ∃ z, z = upd f283370 p283253.toNatClampNeg (vp_nar .boolean 1) := ⟨_, rfl⟩
          rw [← hf283408] at e283406
          have he283409 : F283405 q283194 = .inr (22, [.ref (γ 9 0), .ref (γ 9 1), .ref (γ 9 2), .ref (γ 9 3), .ref (γ 9 4), .ref (γ 9 5), .ref (γ 9 6), .ref (γ 9 7), .ref (γ 9 8), .int p283202, .int p283203, .int p283204, .int p283205, .int p283206, .int p283207, .ref (γ 9 15), .ref (γ 9 16), .ref (γ 9 17), .ref (γ 9 18), .ref (γ 9 19), .ref (γ 9 20), .ref (γ 9 21), .ref (γ 9 22), .int p283208, .int p283209, .int p283210, .int p283211, .int p283212, .ref q283200, .ref (γ 9 29), .int p283213, .ref (γ 9 31), .int p283214, .int p283215, .int p283216, .ref q283201]) := (n283407 q283194 (rn_oa he283371 he283373)).trans he283371
          have he283410 : F283405 q283195 = .inr (20, [.int p283250, .int p283251, .int p283252, .int p283253, .int p283254, .int p283255, .int p283256]) := (n283407 q283195 (rn_oa he283372 he283373)).trans he283372
          have he283411 : F283405 (γ 9 3) = .inl (I .boolean, 2000, .inl f283408) := e283406
          have hs283412 : rStr γ [] F283193 F283405 := rStr_put hs283374 n283407 ht283222 (by decide)
          have kp283413 : F283405 q283194 = F283193 q283194 := (n283407 q283194 (rn_ty htq283194 ht283222 (by decide))).trans kp283375
          have bf283408 : gF f283408 0 1 := gF_upd hf283408 bf283370 (gB_w (gBl (show Int32.toInt 1 = 1 by decide)) (by decide) (by decide))
          have hT283414 : RS D I P283192 F283405 γ el := RS_set hT283378 n283407 ht283222 (by decide) ⟨f283408, he283411, bf283408⟩
          exact G_vretA dr_cX17_stand_75 rfl (Nat.le_of_ble_eq_true rfl) (Nat.le_of_ble_eq_true rfl) ⟨F283405, rfl, rfl, hT283414, hs283412, (Nat.le_of_ble_eq_true rfl), (Nat.le_of_ble_eq_true rfl), (fun _ n => by rw [cB_of he283411, cB_of he283246, nmS_of he283249]; exact nm_fin true false true (decide_eq_true (show (p283250.toInt ≤ 21) by omega)) (decide_eq_false (show ¬ (p283250.toInt ≠ 20 ∧ p283250.toInt ≠ 21 ∧ p283250.toInt ≠ 30 ∧ p283255.toInt = 1) by omega)) (decide_eq_true (show (0 < p283250.toInt ∧ p283250.toInt < 20 ∧ p283256.toInt = 1) by omega)) (by rw [sd_u hf283408 (by omega) (by omega), sd_u hf283370 (by omega) (by omega), show o283270.toInt = p283251.toInt by omega]; simp)), kp283413, (fun R c1 c2 c3 c4 c5 c6 c7 c8 c9 c10 c11 c12 => c8 p283250 p283251 p283254 o283270 f283247 f283370 F283367 p283255 o283386 p283256 o283397 p283253 f283408 F283405 fq283262 fq283263 fq283264 bo283270 ht283272 r283365 fq283366 he283246 hf283370 n283369 he283373 r283377 fq283379 fq283380 bo283386 ht283388 r283390 fq283391 bo283397 ht283399 r283402 fq283403 fq283404 he283373 hf283408 n283407 he283411)⟩
      · have r283415 : o283386.toInt ≠ 0 := gj_neq hc283389 (show Int32.toInt 0 = 0 by decide)
        have bo283386' : gB o283386 1 1 := gB_t1 bo283386 r283415
        refine G_aload_n 1 dr_cX17_stand_48 rfl ?_
        have fq283416 : fR (F283367 q283194) 3 = (γ 9 3) := by rw [he283371]; rfl
        refine Gp_get 3 hm283198 he283371 dr_cX17_stand_49 (gk_X17 D I) (Nat.le_of_ble_eq_true rfl) wr_7_77 rfl ?_
        refine G_aload_n 2 dr_cX17_stand_52 rfl ?_
        have fq283417 : fI (F283367 q283195) 2 = p283252 := by rw [he283372]; rfl
        refine Gp_get 2 hm283248 he283372 dr_cX17_stand_53 (gk_X15 D I) (Nat.le_of_ble_eq_true rfl) wr_9_186 rfl ?_
        refine G_iconst 1 dr_cX17_stand_56 (by decide +kernel) ?_
        refine Gp_zast 3 hm283245 he283373 dr_cX17_stand_57 rfl (gB_inr (by omega) (by omega)) (fun F283418 e283419 n283420 => ?_)
        obtain ⟨f283421, hf283421⟩ : ∃ z, z = upd f283370 p283252.toNatClampNeg (vp_nar .boolean 1) := ⟨_, rfl⟩
        rw [← hf283421] at e283419
        have he283422 : F283418 q283194 = .inr (22, [.ref (γ 9 0), .ref (γ 9 1), .ref (γ 9 2), .ref (γ 9 3), .ref (γ 9 4), .ref (γ 9 5), .ref (γ 9 6), .ref (γ 9 7), .ref (γ 9 8), .int p283202, .int p283203, .int p283204, .int p283205, .int p283206, .int p283207, .ref (γ 9 15), .ref (γ 9 16), .ref (γ 9 17), .ref (γ 9 18), .ref (γ 9 19), .ref (γ 9 20), .ref (γ 9 21), .ref (γ 9 22), .int p283208, .int p283209, .int p283210, .int p283211, .int p283212, .ref q283200, .ref (γ 9 29), .int p283213, .ref (γ 9 31), .int p283214, .int p283215, .int p283216, .ref q283201]) := (n283420 q283194 (rn_oa he283371 he283373)).trans he283371
        have he283423 : F283418 q283195 = .inr (20, [.int p283250, .int p283251, .int p283252, .int p283253, .int p283254, .int p283255, .int p283256]) := (n283420 q283195 (rn_oa he283372 he283373)).trans he283372
        have he283424 : F283418 (γ 9 3) = .inl (I .boolean, 2000, .inl f283421) := e283419
        have hs283425 : rStr γ [] F283193 F283418 := rStr_put hs283374 n283420 ht283222 (by decide)
        have kp283426 : F283418 q283194 = F283193 q283194 := (n283420 q283194 (rn_ty htq283194 ht283222 (by decide))).trans kp283375
        have bf283421 : gF f283421 0 1 := gF_upd hf283421 bf283370 (gB_w (gBl (show Int32.toInt 1 = 1 by decide)) (by decide) (by decide))
        refine G_aload_n 2 dr_cX17_stand_58 rfl ?_
        have hT283427 : RS D I P283192 F283418 γ el := RS_set hT283378 n283420 ht283222 (by decide) ⟨f283421, he283424, bf283421⟩
        have fq283428 : fI (F283418 q283195) 0 = p283250 := by rw [he283423]; rfl
        have fq283429 : fI (F283418 q283195) 6 = p283256 := by rw [he283423]; rfl
        refine Gw_callV (As := []) (gV_ok D I) (cp_221580_Row_usesB l hl0 D I P283192 F283418 q283195 p283250 p283251 p283252 p283253 p283254 p283255 p283256 hm283248 he283423 bp283250 bp283251 bp283254 bp283255 bp283256) dr_cX17_stand_59 ⟨wr_10_196, wr_1_39, wr_10_199, by decide, rfl, (Nat.le_of_ble_eq_true rfl), (Nat.le_of_ble_eq_true rfl)⟩ wr_10_197 wr_10_198 hm283248 he283423 rfl (show 0 + 0 ≤ 0 by first | omega | decide) (show 0 + 0 ≤ 0 by first | omega | decide) (Nat.le_of_ble_eq_true rfl) (fun r283433 w283434 dc283430 ds283431 hp283432 => ?_) (fun _ _ _ _ _ z => z.elim)
        obtain ⟨o283435, rfl, rfl, hdc, hds, bo283435, x283436, ht283437⟩ := hp283432
        change G _ _ _ _ _ _ _ (.int o283435 :: _) _ _ _
        refine G_widen (cs' := 0) (sl' := 0) (by omega) (by omega) ?_
        refine G_if_eq 75 dr_cX17_stand_62 (by decide +kernel) (fun hc283438 => ?_) (fun hc283438 => ?_)
        · have r283439 : o283435.toInt = 0 := gj_eq hc283438 (show Int32.toInt 0 = 0 by decide)
          have bo283435' : gB o283435 0 0 := gB_t0 r283439
          exact G_vretA dr_cX17_stand_75 rfl (Nat.le_of_ble_eq_true rfl) (Nat.le_of_ble_eq_true rfl) ⟨F283418, rfl, rfl, hT283427, hs283425, (Nat.le_of_ble_eq_true rfl), (Nat.le_of_ble_eq_true rfl), (fun _ n => by rw [cB_of he283424, cB_of he283246, nmS_of he283249]; exact nm_fin true true false (decide_eq_true (show (p283250.toInt ≤ 21) by omega)) (decide_eq_true (show (p283250.toInt ≠ 20 ∧ p283250.toInt ≠ 21 ∧ p283250.toInt ≠ 30 ∧ p283255.toInt = 1) by omega)) (decide_eq_false (show ¬ (0 < p283250.toInt ∧ p283250.toInt < 20 ∧ p283256.toInt = 1) by omega)) (by rw [sd_u hf283421 (by omega) (by omega), sd_u hf283370 (by omega) (by omega), show o283270.toInt = p283251.toInt by omega]; simp)), kp283426, (fun R c1 c2 c3 c4 c5 c6 c7 c8 c9 c10 c11 c12 => c9 p283250 p283251 p283254 o283270 f283247 f283370 F283367 p283255 o283386 p283252 f283421 F283418 p283256 o283435 fq283262 fq283263 fq283264 bo283270 ht283272 r283365 fq283366 he283246 hf283370 n283369 he283373 r283377 fq283379 fq283380 bo283386 ht283388 r283415 fq283416 fq283417 he283373 hf283421 n283420 he283424 fq283428 fq283429 bo283435 ht283437 r283439)⟩
        · have r283440 : o283435.toInt ≠ 0 := gj_neq hc283438 (show Int32.toInt 0 = 0 by decide)
          have bo283435' : gB o283435 1 1 := gB_t1 bo283435 r283440
          refine G_aload_n 1 dr_cX17_stand_65 rfl ?_
          have fq283441 : fR (F283418 q283194) 3 = (γ 9 3) := by rw [he283422]; rfl
          refine Gp_get 3 hm283198 he283422 dr_cX17_stand_66 (gk_X17 D I) (Nat.le_of_ble_eq_true rfl) wr_7_77 rfl ?_
          refine G_aload_n 2 dr_cX17_stand_69 rfl ?_
          have fq283442 : fI (F283418 q283195) 3 = p283253 := by rw [he283423]; rfl
          refine Gp_get 3 hm283248 he283423 dr_cX17_stand_70 (gk_X15 D I) (Nat.le_of_ble_eq_true rfl) wr_9_190 rfl ?_
          refine G_iconst 1 dr_cX17_stand_73 (by decide +kernel) ?_
          refine Gp_zast 3 hm283245 he283424 dr_cX17_stand_74 rfl (gB_inr (by omega) (by omega)) (fun F283443 e283444 n283445 => ?_)
          obtain ⟨f283446, hf283446⟩ : ∃ z, z = upd f283421 p283253.toNatClampNeg (vp_nar .boolean 1) := ⟨_, rfl⟩
          rw [← hf283446] at e283444
          have he283447 : F283443 q283194 = .inr (22, [.ref (γ 9 0), .ref (γ 9 1), .ref (γ 9 2), .ref (γ 9 3), .ref (γ 9 4), .ref (γ 9 5), .ref (γ 9 6), .ref (γ 9 7), .ref (γ 9 8), .int p283202, .int p283203, .int p283204, .int p283205, .int p283206, .int p283207, .ref (γ 9 15), .ref (γ 9 16), .ref (γ 9 17), .ref (γ 9 18), .ref (γ 9 19), .ref (γ 9 20), .ref (γ 9 21), .ref (γ 9 22), .int p283208, .int p283209, .int p283210, .int p283211, .int p283212, .ref q283200, .ref (γ 9 29), .int p283213, .ref (γ 9 31), .int p283214, .int p283215, .int p283216, .ref q283201]) := (n283445 q283194 (rn_oa he283422 he283424)).trans he283422
          have he283448 : F283443 q283195 = .inr (20, [.int p283250, .int p283251, .int p283252, .int p283253, .int p283254, .int p283255, .int p283256]) := (n283445 q283195 (rn_oa he283423 he283424)).trans he283423
          have he283449 : F283443 (γ 9 3) = .inl (I .boolean, 2000, .inl f283446) := e283444
          have hs283450 : rStr γ [] F283193 F283443 := rStr_put hs283425 n283445 ht283222 (by decide)
          have kp283451 : F283443 q283194 = F283193 q283194 := (n283445 q283194 (rn_ty htq283194 ht283222 (by decide))).trans kp283426
          have bf283446 : gF f283446 0 1 := gF_upd hf283446 bf283421 (gB_w (gBl (show Int32.toInt 1 = 1 by decide)) (by decide) (by decide))
          have hT283452 : RS D I P283192 F283443 γ el := RS_set hT283427 n283445 ht283222 (by decide) ⟨f283446, he283449, bf283446⟩
          exact G_vretA dr_cX17_stand_75 rfl (Nat.le_of_ble_eq_true rfl) (Nat.le_of_ble_eq_true rfl) ⟨F283443, rfl, rfl, hT283452, hs283450, (Nat.le_of_ble_eq_true rfl), (Nat.le_of_ble_eq_true rfl), (fun _ n => by rw [cB_of he283449, cB_of he283246, nmS_of he283249]; exact nm_fin true true true (decide_eq_true (show (p283250.toInt ≤ 21) by omega)) (decide_eq_true (show (p283250.toInt ≠ 20 ∧ p283250.toInt ≠ 21 ∧ p283250.toInt ≠ 30 ∧ p283255.toInt = 1) by omega)) (decide_eq_true (show (0 < p283250.toInt ∧ p283250.toInt < 20 ∧ p283256.toInt = 1) by omega)) (by rw [sd_u hf283446 (by omega) (by omega), sd_u hf283421 (by omega) (by omega), sd_u hf283370 (by omega) (by omega), show o283270.toInt = p283251.toInt by omega]; simp)), kp283451, (fun R c1 c2 c3 c4 c5 c6 c7 c8 c9 c10 c11 c12 => c10 p283250 p283251 p283254 o283270 f283247 f283370 F283367 p283255 o283386 p283252 f283421 F283418 p283256 o283435 p283253 f283446 F283443 fq283262 fq283263 fq283264 bo283270 ht283272 r283365 fq283366 he283246 hf283370 n283369 he283373 r283377 fq283379 fq283380 bo283386 ht283388 r283415 fq283416 fq283417 he283373 hf283421 n283420 he283424 fq283428 fq283429 bo283435 ht283437 r283440 fq283441 fq283442 he283424 hf283446 n283445 he283449)⟩
    · have r283453 : p283196.toInt ≠ 0 := gj_neq hc283376 (show Int32.toInt 0 = 0 by decide)
      have bp283196' : gB p283196 1 1 := gB_t1 bp283196 r283453
      refine G_aload_n 2 dr_cX17_stand_21 rfl ?_
      have fq283454 : fI (F283367 q283195) 0 = p283250 := by rw [he283372]; rfl
      refine Gp_get 0 hm283248 he283372 dr_cX17_stand_22 (gk_X15 D I) (Nat.le_of_ble_eq_true rfl) wr_9_177 rfl ?_
      refine G_bipush 21 dr_cX17_stand_25 (by decide +kernel) ?_
      refine G_icmp_ne 40 dr_cX17_stand_27 (by decide +kernel) (fun hc283455 => ?_) (fun hc283455 => ?_)
      · have r283456 : p283250.toInt ≠ 21 := gj_neq hc283455 (show Int32.toInt 21 = 21 by decide)
        have hT283457 : RS D I P283192 F283367 γ el := RS_set hT n283369 ht283222 (by decide) ⟨f283370, he283373, bf283370⟩
        exact G_vretA dr_cX17_stand_40 rfl (Nat.le_of_ble_eq_true rfl) (Nat.le_of_ble_eq_true rfl) ⟨F283367, rfl, rfl, hT283457, hs283374, (Nat.le_of_ble_eq_true rfl), (Nat.le_of_ble_eq_true rfl), (fun h => absurd h (by omega)), kp283375, (fun R c1 c2 c3 c4 c5 c6 c7 c8 c9 c10 c11 c12 => c11 p283250 p283251 p283254 o283270 f283247 f283370 F283367 fq283262 fq283263 fq283264 bo283270 ht283272 r283365 fq283366 he283246 hf283370 n283369 he283373 r283453 fq283454 r283456)⟩
      · have r283458 : p283250.toInt = 21 := gj_eq hc283455 (show Int32.toInt 21 = 21 by decide)
        have bp283250' : gB p283250 21 21 := ⟨by omega, by omega⟩
        refine G_aload_n 1 dr_cX17_stand_30 rfl ?_
        have fq283459 : fR (F283367 q283194) 3 = (γ 9 3) := by rw [he283371]; rfl
        refine Gp_get 3 hm283198 he283371 dr_cX17_stand_31 (gk_X17 D I) (Nat.le_of_ble_eq_true rfl) wr_7_77 rfl ?_
        refine G_aload_n 2 dr_cX17_stand_34 rfl ?_
        have fq283460 : fI (F283367 q283195) 4 = p283254 := by rw [he283372]; rfl
        refine Gp_get 4 hm283248 he283372 dr_cX17_stand_35 (gk_X15 D I) (Nat.le_of_ble_eq_true rfl) wr_9_193 rfl ?_
        refine G_iconst 1 dr_cX17_stand_38 (by decide +kernel) ?_
        refine Gp_zast 3 hm283245 he283373 dr_cX17_stand_39 rfl (gB_in bp283254 (by decide) (by decide)) (fun F283461 e283462 n283463 => ?_)
        obtain ⟨f283464, hf283464⟩ : ∃ z, z = upd f283370 p283254.toNatClampNeg (vp_nar .boolean 1) := ⟨_, rfl⟩
        rw [← hf283464] at e283462
        have he283465 : F283461 q283194 = .inr (22, [.ref (γ 9 0), .ref (γ 9 1), .ref (γ 9 2), .ref (γ 9 3), .ref (γ 9 4), .ref (γ 9 5), .ref (γ 9 6), .ref (γ 9 7), .ref (γ 9 8), .int p283202, .int p283203, .int p283204, .int p283205, .int p283206, .int p283207, .ref (γ 9 15), .ref (γ 9 16), .ref (γ 9 17), .ref (γ 9 18), .ref (γ 9 19), .ref (γ 9 20), .ref (γ 9 21), .ref (γ 9 22), .int p283208, .int p283209, .int p283210, .int p283211, .int p283212, .ref q283200, .ref (γ 9 29), .int p283213, .ref (γ 9 31), .int p283214, .int p283215, .int p283216, .ref q283201]) := (n283463 q283194 (rn_oa he283371 he283373)).trans he283371
        have he283466 : F283461 q283195 = .inr (20, [.int p283250, .int p283251, .int p283252, .int p283253, .int p283254, .int p283255, .int p283256]) := (n283463 q283195 (rn_oa he283372 he283373)).trans he283372
        have he283467 : F283461 (γ 9 3) = .inl (I .boolean, 2000, .inl f283464) := e283462
        have hs283468 : rStr γ [] F283193 F283461 := rStr_put hs283374 n283463 ht283222 (by decide)
        have n283469 : ∀ b, b ≠ (γ 9 3) → F283461 b = F283193 b := fun b hb => (n283463 b hb).trans (n283369 b hb)
        have kp283470 : F283461 q283194 = F283193 q283194 := (n283463 q283194 (rn_ty htq283194 ht283222 (by decide))).trans kp283375
        have bf283464 : gF f283464 0 1 := gF_upd hf283464 bf283370 (gB_w (gBl (show Int32.toInt 1 = 1 by decide)) (by decide) (by decide))
        have hT283471 : RS D I P283192 F283461 γ el := RS_set hT n283469 ht283222 (by decide) ⟨f283464, he283467, bf283464⟩
        exact G_vretA dr_cX17_stand_40 rfl (Nat.le_of_ble_eq_true rfl) (Nat.le_of_ble_eq_true rfl) ⟨F283461, rfl, rfl, hT283471, hs283468, (Nat.le_of_ble_eq_true rfl), (Nat.le_of_ble_eq_true rfl), (fun h => absurd h (by omega)), kp283470, (fun R c1 c2 c3 c4 c5 c6 c7 c8 c9 c10 c11 c12 => c12 p283250 p283251 p283254 o283270 f283247 f283370 F283367 f283464 F283461 fq283262 fq283263 fq283264 bo283270 ht283272 r283365 fq283366 he283246 hf283370 n283369 he283373 r283453 fq283454 r283458 fq283459 fq283460 he283373 hf283464 n283463 he283467)⟩
/- tr_RModel_back3: F -/
def tr_RModel_back3 (D : va_G) (I : FieldType → ClassId) (γ el : Nat → Nat → Nat) (P : List Nat) (F : Nat → va_E) (q0 : Nat) (q1 : Nat) (a2 : Int32) (o1 : Nat → va_E) : Prop := ∀ R : (Nat → va_E) → Prop,
  (∀ (x1 : Int32) (x2 : Int32) (x3 : Int32) (x4 : Int32) (x5 : Int32) (x6 : Int32) (x7 : Int32) (x8 : Int32), fI (F q1) 0 = x1 → fI (F q1) 1 = x2 → fI (F q1) 4 = x3 → gB x4 (-1) 1999 → tr_RModel_setOf a2 x1 x2 x3 x4 → x4.toInt < 0 → a2.toInt = 0 → fI (F q1) 5 = x5 → gB x6 0 1 → tr_RRow_usesA x1 x5 x6 → x6.toInt = 0 → fI (F q1) 6 = x7 → gB x8 0 1 → tr_RRow_usesB x1 x7 x8 → x8.toInt = 0 → R F) →
  (∀ (x1 : Int32) (x2 : Int32) (x3 : Int32) (x4 : Int32) (x5 : Int32) (x6 : Int32) (x7 : Int32) (x8 : Int32) (x9 : Int32) (x10 : Nat → Int64) (x11 : Nat → Int64) (x12 : Nat → va_E), fI (F q1) 0 = x1 → fI (F q1) 1 = x2 → fI (F q1) 4 = x3 → gB x4 (-1) 1999 → tr_RModel_setOf a2 x1 x2 x3 x4 → x4.toInt < 0 → a2.toInt = 0 → fI (F q1) 5 = x5 → gB x6 0 1 → tr_RRow_usesA x1 x5 x6 → x6.toInt = 0 → fI (F q1) 6 = x7 → gB x8 0 1 → tr_RRow_usesB x1 x7 x8 → x8.toInt ≠ 0 → fR (F q0) 2 = (γ 9 2) → fI (F q1) 3 = x9 → F (γ 9 2) = .inl (I .long, 32, .inr (.inl x10)) → tr_RModel_set x9 x10 x11 → rFr [(γ 9 2)] P F x12 → x12 (γ 9 2) = .inl (I .long, 32, .inr (.inl x11)) → RS D I P x12 γ el → R x12) →
  (∀ (x1 : Int32) (x2 : Int32) (x3 : Int32) (x4 : Int32) (x5 : Int32) (x6 : Int32) (x7 : Int32) (x8 : Nat → Int64) (x9 : Nat → Int64) (x10 : Nat → va_E) (x11 : Int32) (x12 : Int32), fI (F q1) 0 = x1 → fI (F q1) 1 = x2 → fI (F q1) 4 = x3 → gB x4 (-1) 1999 → tr_RModel_setOf a2 x1 x2 x3 x4 → x4.toInt < 0 → a2.toInt = 0 → fI (F q1) 5 = x5 → gB x6 0 1 → tr_RRow_usesA x1 x5 x6 → x6.toInt ≠ 0 → fR (F q0) 2 = (γ 9 2) → fI (F q1) 2 = x7 → F (γ 9 2) = .inl (I .long, 32, .inr (.inl x8)) → tr_RModel_set x7 x8 x9 → rFr [(γ 9 2)] P F x10 → x10 (γ 9 2) = .inl (I .long, 32, .inr (.inl x9)) → RS D I P x10 γ el → fI (x10 q1) 0 = x1 → fI (x10 q1) 6 = x11 → gB x12 0 1 → tr_RRow_usesB x1 x11 x12 → x12.toInt = 0 → R x10) →
  (∀ (x1 : Int32) (x2 : Int32) (x3 : Int32) (x4 : Int32) (x5 : Int32) (x6 : Int32) (x7 : Int32) (x8 : Nat → Int64) (x9 : Nat → Int64) (x10 : Nat → va_E) (x11 : Int32) (x12 : Int32) (x13 : Int32) (x14 : Nat → Int64) (x15 : Nat → va_E), fI (F q1) 0 = x1 → fI (F q1) 1 = x2 → fI (F q1) 4 = x3 → gB x4 (-1) 1999 → tr_RModel_setOf a2 x1 x2 x3 x4 → x4.toInt < 0 → a2.toInt = 0 → fI (F q1) 5 = x5 → gB x6 0 1 → tr_RRow_usesA x1 x5 x6 → x6.toInt ≠ 0 → fR (F q0) 2 = (γ 9 2) → fI (F q1) 2 = x7 → F (γ 9 2) = .inl (I .long, 32, .inr (.inl x8)) → tr_RModel_set x7 x8 x9 → rFr [(γ 9 2)] P F x10 → x10 (γ 9 2) = .inl (I .long, 32, .inr (.inl x9)) → RS D I P x10 γ el → fI (x10 q1) 0 = x1 → fI (x10 q1) 6 = x11 → gB x12 0 1 → tr_RRow_usesB x1 x11 x12 → x12.toInt ≠ 0 → fR (x10 q0) 2 = (γ 9 2) → fI (x10 q1) 3 = x13 → x10 (γ 9 2) = .inl (I .long, 32, .inr (.inl x9)) → tr_RModel_set x13 x9 x14 → rFr [(γ 9 2)] P x10 x15 → x15 (γ 9 2) = .inl (I .long, 32, .inr (.inl x14)) → RS D I P x15 γ el → R x15) →
  (∀ (x1 : Int32) (x2 : Int32) (x3 : Int32) (x4 : Int32), fI (F q1) 0 = x1 → fI (F q1) 1 = x2 → fI (F q1) 4 = x3 → gB x4 (-1) 1999 → tr_RModel_setOf a2 x1 x2 x3 x4 → x4.toInt < 0 → a2.toInt ≠ 0 → x1.toInt ≠ 21 → R F) →
  (∀ (x1 : Int32) (x2 : Int32) (x3 : Int32) (x4 : Int32) (x5 : Nat → Int64) (x6 : Nat → Int64) (x7 : Nat → va_E), fI (F q1) 0 = x1 → fI (F q1) 1 = x2 → fI (F q1) 4 = x3 → gB x4 (-1) 1999 → tr_RModel_setOf a2 x1 x2 x3 x4 → x4.toInt < 0 → a2.toInt ≠ 0 → x1.toInt = 21 → fR (F q0) 2 = (γ 9 2) → F (γ 9 2) = .inl (I .long, 32, .inr (.inl x5)) → tr_RModel_set x3 x5 x6 → rFr [(γ 9 2)] P F x7 → x7 (γ 9 2) = .inl (I .long, 32, .inr (.inl x6)) → RS D I P x7 γ el → R x7) →
  (∀ (x1 : Int32) (x2 : Int32) (x3 : Int32) (x4 : Int32) (x5 : Nat → Int64) (x6 : Nat → Int64) (x7 : Nat → va_E) (x8 : Int32) (x9 : Int32) (x10 : Int32) (x11 : Int32), fI (F q1) 0 = x1 → fI (F q1) 1 = x2 → fI (F q1) 4 = x3 → gB x4 (-1) 1999 → tr_RModel_setOf a2 x1 x2 x3 x4 → 0 ≤ x4.toInt → fR (F q0) 2 = (γ 9 2) → F (γ 9 2) = .inl (I .long, 32, .inr (.inl x5)) → tr_RModel_clear x4 x5 x6 → rFr [(γ 9 2)] P F x7 → x7 (γ 9 2) = .inl (I .long, 32, .inr (.inl x6)) → RS D I P x7 γ el → a2.toInt = 0 → fI (x7 q1) 0 = x1 → fI (x7 q1) 5 = x8 → gB x9 0 1 → tr_RRow_usesA x1 x8 x9 → x9.toInt = 0 → fI (x7 q1) 6 = x10 → gB x11 0 1 → tr_RRow_usesB x1 x10 x11 → x11.toInt = 0 → R x7) →
  (∀ (x1 : Int32) (x2 : Int32) (x3 : Int32) (x4 : Int32) (x5 : Nat → Int64) (x6 : Nat → Int64) (x7 : Nat → va_E) (x8 : Int32) (x9 : Int32) (x10 : Int32) (x11 : Int32) (x12 : Int32) (x13 : Nat → Int64) (x14 : Nat → va_E), fI (F q1) 0 = x1 → fI (F q1) 1 = x2 → fI (F q1) 4 = x3 → gB x4 (-1) 1999 → tr_RModel_setOf a2 x1 x2 x3 x4 → 0 ≤ x4.toInt → fR (F q0) 2 = (γ 9 2) → F (γ 9 2) = .inl (I .long, 32, .inr (.inl x5)) → tr_RModel_clear x4 x5 x6 → rFr [(γ 9 2)] P F x7 → x7 (γ 9 2) = .inl (I .long, 32, .inr (.inl x6)) → RS D I P x7 γ el → a2.toInt = 0 → fI (x7 q1) 0 = x1 → fI (x7 q1) 5 = x8 → gB x9 0 1 → tr_RRow_usesA x1 x8 x9 → x9.toInt = 0 → fI (x7 q1) 6 = x10 → gB x11 0 1 → tr_RRow_usesB x1 x10 x11 → x11.toInt ≠ 0 → fR (x7 q0) 2 = (γ 9 2) → fI (x7 q1) 3 = x12 → x7 (γ 9 2) = .inl (I .long, 32, .inr (.inl x6)) → tr_RModel_set x12 x6 x13 → rFr [(γ 9 2)] P x7 x14 → x14 (γ 9 2) = .inl (I .long, 32, .inr (.inl x13)) → RS D I P x14 γ el → R x14) →
  (∀ (x1 : Int32) (x2 : Int32) (x3 : Int32) (x4 : Int32) (x5 : Nat → Int64) (x6 : Nat → Int64) (x7 : Nat → va_E) (x8 : Int32) (x9 : Int32) (x10 : Int32) (x11 : Nat → Int64) (x12 : Nat → va_E) (x13 : Int32) (x14 : Int32), fI (F q1) 0 = x1 → fI (F q1) 1 = x2 → fI (F q1) 4 = x3 → gB x4 (-1) 1999 → tr_RModel_setOf a2 x1 x2 x3 x4 → 0 ≤ x4.toInt → fR (F q0) 2 = (γ 9 2) → F (γ 9 2) = .inl (I .long, 32, .inr (.inl x5)) → tr_RModel_clear x4 x5 x6 → rFr [(γ 9 2)] P F x7 → x7 (γ 9 2) = .inl (I .long, 32, .inr (.inl x6)) → RS D I P x7 γ el → a2.toInt = 0 → fI (x7 q1) 0 = x1 → fI (x7 q1) 5 = x8 → gB x9 0 1 → tr_RRow_usesA x1 x8 x9 → x9.toInt ≠ 0 → fR (x7 q0) 2 = (γ 9 2) → fI (x7 q1) 2 = x10 → x7 (γ 9 2) = .inl (I .long, 32, .inr (.inl x6)) → tr_RModel_set x10 x6 x11 → rFr [(γ 9 2)] P x7 x12 → x12 (γ 9 2) = .inl (I .long, 32, .inr (.inl x11)) → RS D I P x12 γ el → fI (x12 q1) 0 = x1 → fI (x12 q1) 6 = x13 → gB x14 0 1 → tr_RRow_usesB x1 x13 x14 → x14.toInt = 0 → R x12) →
  (∀ (x1 : Int32) (x2 : Int32) (x3 : Int32) (x4 : Int32) (x5 : Nat → Int64) (x6 : Nat → Int64) (x7 : Nat → va_E) (x8 : Int32) (x9 : Int32) (x10 : Int32) (x11 : Nat → Int64) (x12 : Nat → va_E) (x13 : Int32) (x14 : Int32) (x15 : Int32) (x16 : Nat → Int64) (x17 : Nat → va_E), fI (F q1) 0 = x1 → fI (F q1) 1 = x2 → fI (F q1) 4 = x3 → gB x4 (-1) 1999 → tr_RModel_setOf a2 x1 x2 x3 x4 → 0 ≤ x4.toInt → fR (F q0) 2 = (γ 9 2) → F (γ 9 2) = .inl (I .long, 32, .inr (.inl x5)) → tr_RModel_clear x4 x5 x6 → rFr [(γ 9 2)] P F x7 → x7 (γ 9 2) = .inl (I .long, 32, .inr (.inl x6)) → RS D I P x7 γ el → a2.toInt = 0 → fI (x7 q1) 0 = x1 → fI (x7 q1) 5 = x8 → gB x9 0 1 → tr_RRow_usesA x1 x8 x9 → x9.toInt ≠ 0 → fR (x7 q0) 2 = (γ 9 2) → fI (x7 q1) 2 = x10 → x7 (γ 9 2) = .inl (I .long, 32, .inr (.inl x6)) → tr_RModel_set x10 x6 x11 → rFr [(γ 9 2)] P x7 x12 → x12 (γ 9 2) = .inl (I .long, 32, .inr (.inl x11)) → RS D I P x12 γ el → fI (x12 q1) 0 = x1 → fI (x12 q1) 6 = x13 → gB x14 0 1 → tr_RRow_usesB x1 x13 x14 → x14.toInt ≠ 0 → fR (x12 q0) 2 = (γ 9 2) → fI (x12 q1) 3 = x15 → x12 (γ 9 2) = .inl (I .long, 32, .inr (.inl x11)) → tr_RModel_set x15 x11 x16 → rFr [(γ 9 2)] P x12 x17 → x17 (γ 9 2) = .inl (I .long, 32, .inr (.inl x16)) → RS D I P x17 γ el → R x17) →
  (∀ (x1 : Int32) (x2 : Int32) (x3 : Int32) (x4 : Int32) (x5 : Nat → Int64) (x6 : Nat → Int64) (x7 : Nat → va_E), fI (F q1) 0 = x1 → fI (F q1) 1 = x2 → fI (F q1) 4 = x3 → gB x4 (-1) 1999 → tr_RModel_setOf a2 x1 x2 x3 x4 → 0 ≤ x4.toInt → fR (F q0) 2 = (γ 9 2) → F (γ 9 2) = .inl (I .long, 32, .inr (.inl x5)) → tr_RModel_clear x4 x5 x6 → rFr [(γ 9 2)] P F x7 → x7 (γ 9 2) = .inl (I .long, 32, .inr (.inl x6)) → RS D I P x7 γ el → a2.toInt ≠ 0 → fI (x7 q1) 0 = x1 → x1.toInt ≠ 21 → R x7) →
  (∀ (x1 : Int32) (x2 : Int32) (x3 : Int32) (x4 : Int32) (x5 : Nat → Int64) (x6 : Nat → Int64) (x7 : Nat → va_E) (x8 : Nat → Int64) (x9 : Nat → va_E), fI (F q1) 0 = x1 → fI (F q1) 1 = x2 → fI (F q1) 4 = x3 → gB x4 (-1) 1999 → tr_RModel_setOf a2 x1 x2 x3 x4 → 0 ≤ x4.toInt → fR (F q0) 2 = (γ 9 2) → F (γ 9 2) = .inl (I .long, 32, .inr (.inl x5)) → tr_RModel_clear x4 x5 x6 → rFr [(γ 9 2)] P F x7 → x7 (γ 9 2) = .inl (I .long, 32, .inr (.inl x6)) → RS D I P x7 γ el → a2.toInt ≠ 0 → fI (x7 q1) 0 = x1 → x1.toInt = 21 → fR (x7 q0) 2 = (γ 9 2) → fI (x7 q1) 4 = x3 → x7 (γ 9 2) = .inl (I .long, 32, .inr (.inl x6)) → tr_RModel_set x3 x6 x8 → rFr [(γ 9 2)] P x7 x9 → x9 (γ 9 2) = .inl (I .long, 32, .inr (.inl x8)) → RS D I P x9 γ el → R x9) →
  R o1
