abbrev ky_360319_SpillForgeModel_rename : gKey := (cX17_rename, 7, "SpillForgeModel", none, [], "rename", fun _ _ => True)
def pt_360319_SpillForgeModel_rename (D : va_G) (I : FieldType → ClassId) (γ el : Nat → Nat → Nat) (P360313 : List Nat) (F360314 : Nat → va_E) (q360315 : Nat) (p360316 : Int32) (p360317 : Int32) : Option Value → va_W → Nat → Nat → Prop := fun r w dc ds => ∃ (F385688 : Nat → va_E), r = none ∧ w = va_pl P360313 F385688 ∧ RS D I P360313 F385688 γ el ∧ rStr γ [1] F360314 F385688 ∧ dc ≤ 0 ∧ ds ≤ 0 ∧ (∀ N : Nat → Prop, N (p360317.toInt : Int).toNat → p360316.toInt < 100 → rPl γ el F360314 q360315 (γ 6 (γ 1 q360315)) (fun _ _ => rNx N) → rPl γ el F385688 q360315 (γ 6 (γ 1 q360315)) (fun _ _ => rNx N)) ∧ rFk [1] γ F360314 F385688
set_option maxRecDepth 100000 in
set_option maxHeartbeats 4000000 in
theorem ct_360319_SpillForgeModel_rename (l : Launch) (hl0 : l.stackTraces = false) (D : va_G) (I : FieldType → ClassId) (γ el : Nat → Nat → Nat) (P360313 : List Nat) (F360314 : Nat → va_E) (q360315 : Nat) (p360316 : Int32) (p360317 : Int32) (hT : RS D I P360313 F360314 γ el) (htq360315 : rKd γ q360315 9) (bp360316 : gB p360316 0 1999) (bp360317 : gB p360317 0 1999) (x360318 : 0 < γ 6 (γ 1 q360315)) : CtA (gV D I) l yX17_rename cX17_rename 7 none 4 85 0 0 [.ref q360315, .int p360316, .int p360317] (va_pl P360313 F360314) (pt_360319_SpillForgeModel_rename D I γ el P360313 F360314 q360315 p360316 p360317) gNA := by
  refine CtA_of hl0 (by decide) (Nat.le_of_ble_eq_true rfl) ?_
  refine G_iconst 0 dr_cX17_rename_0 (by decide +kernel) ?_
  refine G_istore_n (L' := [(3, .int 0), (0, .ref q360315), (1, .int p360316), (2, .int p360317)]) dr_cX17_rename_1 (Nat.le_of_ble_eq_true rfl) rfl ?_
  have hlp2_383964 : ∀ (n2_383964 : Nat) (F383960 : Nat → va_E) (g383959 : Int32), gB g383959 0 1000000 → RS D I P360313 F383960 γ el → rStr γ [1] F360314 F383960 → (∀ N : Nat → Prop, N (p360317.toInt : Int).toNat → p360316.toInt < 100 → rPl γ el F360314 q360315 (γ 6 (γ 1 q360315)) (fun _ _ => rNx N) → rPl γ el F383960 q360315 (γ 6 (γ 1 q360315)) (fun _ _ => rNx N)) → rFk [1] γ F360314 F383960 → ((1000001 : Int) - g383959.toInt).toNat < n2_383964 → G (gV D I) l (gRm 4 85 0 0) (gMA (gV D I) (pt_360319_SpillForgeModel_rename D I γ el P360313 F360314 q360315 p360316 p360317) gNA 0 0) ky_360319_SpillForgeModel_rename 2 [(3, .int g383959), (0, .ref q360315), (1, .int p360316), (2, .int p360317)] [] (va_pl P360313 F383960) 0 0 := by
    intro n2_383964
    induction n2_383964 with
    | zero => intro F383960 g383959 bg383959 hT383961 hs383962 x383963 x383964 hm2_383964; exact absurd hm2_383964 (Nat.not_lt_zero _)
    | succ n2_383964 ih2_383964 =>
      intro F383960 g383959 bg383959 hT383961 hs383962 x383963 x383964 hm2_383964
      have hs383966 : rStr γ [1] F360314 F383960 := fun b h0 hb hw => (hs383962 b h0 hb hw).trans ((rStr_rf (γ := γ) (W := [1]) (F := F360314)) b h0 hb hw).symm
      have hs383967 : rStr γ [1] F360314 F383960 := rStr_tr (rStr_rf (γ := γ) (W := [1]) (F := F360314)) hs383966
      refine G_iload_n 0 dr_cX17_rename_2 rfl ?_
      refine G_aload_n 1 dr_cX17_rename_3 rfl ?_
      have hm383968 : q360315 ∈ P360313 := RS_m hT383961 htq360315 (by decide)
      obtain ⟨q383970, q383971, p383972, p383973, he383969, ht383989, ht383974, ht383975, ht383976, ht383977, r383978, r383979, r383980, r383981, r383982, r383983, r383984, r383985, r383986, r383987, r383988⟩ := show rk_9 γ el q360315 (F383960 q360315) from RS_o hT383961 htq360315
      have bp383972 : gB p383972 0 1000000 := ⟨by omega, by omega⟩
      have bp383973 : gB p383973 0 1000000 := ⟨by omega, by omega⟩
      refine Gw_callV (As := []) (gV_ok D I) (cp_12496_Code_size l hl0 D I P360313 F383960 q360315 q383970 q383971 p383972 p383973 hm383968 he383969) dr_cX17_rename_4 ⟨wr_10_156, wr_1_15, wr_9_127, by decide, rfl, (Nat.le_of_ble_eq_true rfl), (Nat.le_of_ble_eq_true rfl)⟩ wr_9_125 wr_9_126 hm383968 he383969 rfl (show 0 + 0 ≤ 0 by first | omega | decide) (show 0 + 0 ≤ 0 by first | omega | decide) (Nat.le_of_ble_eq_true rfl) (fun r383993 w383994 dc383990 ds383991 hp383992 => ?_) (fun _ _ _ _ _ z => z.elim)
      obtain ⟨rfl, rfl, hdc, hds⟩ := hp383992
      change G _ _ _ _ _ _ _ (.int p383973 :: _) _ _ _
      refine G_widen (cs' := 0) (sl' := 0) (by omega) (by omega) ?_
      refine G_icmp_ge 150 dr_cX17_rename_7 (by decide +kernel) (fun hc383995 => ?_) (fun hc383995 => ?_)
      · have r383996 : p383973.toInt ≤ g383959.toInt := gC_le hc383995
        exact G_vretA dr_cX17_rename_150 rfl (Nat.le_of_ble_eq_true rfl) (Nat.le_of_ble_eq_true rfl) ⟨F383960, rfl, rfl, hT383961, hs383962, (Nat.le_of_ble_eq_true rfl), (Nat.le_of_ble_eq_true rfl), x383963, x383964⟩
      · have r383997 : g383959.toInt < p383973.toInt := gC_nle hc383995
        have bg383959' : gB g383959 0 999999 := ⟨by omega, by omega⟩
        have bp383973' : gB p383973 1 1000000 := ⟨by omega, by omega⟩
        refine G_aload_n 1 dr_cX17_rename_10 rfl ?_
        refine G_iload_n 0 dr_cX17_rename_11 rfl ?_
        have hm383998 : q383970 ∈ P360313 := RS_m hT383961 ht383974 (by decide)
        obtain ⟨⟨p384000, p384001, q384002, he383999, r384003, r384004, r384005, r384007⟩, r384006⟩ := show rk_4 D I γ el F383960 q383970 from RS_o hT383961 ht383974
        have bp384000 := gB_any p384000
        have bp384001 : gB p384001 0 1000000 := ⟨by omega, by omega⟩
        obtain ⟨r384008, r384009, n384016, f384017, r384010, r384011, r384012, r384013, r384014, r384015⟩ := rLC_n r384005 (by omega)
        have hm384018 : q384002 ∈ P360313 := RS_m hT383961 r384008 (by decide)
        obtain ⟨q384019, hx384020⟩ : ∃ x, x = el q383970 g383959.toInt.toNat := ⟨_, rfl⟩
        have hx384021 : f384017 g383959.toNatClampNeg = some q384019 := (r384014 _ (show g383959.toInt.toNat < γ 2 q383970 by omega)).trans (by rw [hx384020])
        have ht384024 : rKd γ q384019 2 := by rw [hx384020]; exact (r383985 _ (by omega)).resolve_right (fun z => absurd z.1 (by omega))
        have ht384025 : rFm γ q384019 q383970 := by rw [hx384020]; exact (r384006 _ (show g383959.toInt.toNat < γ 2 q383970 by omega)).2.1
        have hm384026 : q384019 ∈ P360313 := RS_m hT383961 ht384024 (by decide)
        obtain ⟨q384028, q384029, p384030, p384031, he384027, ht384038, ht384032, ht384033, ht384034, ht384035, ht384036, bp384030, bp384031, r384037, r384039, r384040⟩ := show rk_2 γ q384019 (F383960 q384019) from RS_o hT383961 ht384024
        refine Gw_callV (As := [.int g383959]) (gV_ok D I) (cp_7737_Code_get l hl0 D I P360313 F383960 q360315 q383970 q384002 g383959 q383971 p383972 p383973 p384000 p384001 f384017 n384016 q384019 q384028 q384029 p384030 p384031 hm383968 hm383998 hm384018 hm384026 he383969 he383999 r384010 he384027 (gB_w bg383959' (by decide) (by decide)) (gB_w bp384001 (by decide) (by decide)) (by omega) (by omega) (by assumption) (by omega)) dr_cX17_rename_12 ⟨wr_10_157, wr_1_15, wr_10_137, by decide, rfl, (Nat.le_of_ble_eq_true rfl), (Nat.le_of_ble_eq_true rfl)⟩ wr_10_135 wr_10_136 hm383968 he383969 rfl (show 0 + 0 ≤ 0 by first | omega | decide) (show 0 + 0 ≤ 0 by first | omega | decide) (Nat.le_of_ble_eq_true rfl) (fun r384044 w384045 dc384041 ds384042 hp384043 => ?_) (fun _ _ _ _ _ z => z.elim)
        obtain ⟨rfl, rfl, hdc, hds⟩ := hp384043
        change G _ _ _ _ _ _ _ (.ref q384019 :: _) _ _ _
        refine G_widen (cs' := 0) (sl' := 0) (by omega) (by omega) ?_
        have hb384046 : el (γ 14 q360315) (g383959.toInt : Int).toNat = q384019 := by rw [ht383989.1, hx384020]
        refine G_astore (L' := [(4, .ref q384019), (3, .int g383959), (0, .ref q360315), (1, .int p360316), (2, .int p360317)]) dr_cX17_rename_15 (Nat.le_of_ble_eq_true rfl) rfl ?_
        refine G_iconst 0 dr_cX17_rename_17 (by decide +kernel) ?_
        refine G_istore (L' := [(5, .int 0), (4, .ref q384019), (3, .int g383959), (0, .ref q360315), (1, .int p360316), (2, .int p360317)]) dr_cX17_rename_18 (Nat.le_of_ble_eq_true rfl) rfl ?_
        have hlp20_384871 : ∀ (n20_384871 : Nat) (F384867 : Nat → va_E) (g384866 : Int32), gB g384866 0 1000001 → RS D I P360313 F384867 γ el → rStr γ [1] F360314 F384867 → (∀ N : Nat → Prop, N (p360317.toInt : Int).toNat → p360316.toInt < 100 → rPl γ el F360314 q360315 (γ 6 (γ 1 q360315)) (fun _ _ => rNx N) → rPl γ el F384867 q360315 (γ 6 (γ 1 q360315)) (fun _ _ => rNx N)) → rFk [1] γ F360314 F384867 → ((1000002 : Int) - g384866.toInt).toNat < n20_384871 → G (gV D I) l (gRm 4 85 0 0) (gMA (gV D I) (pt_360319_SpillForgeModel_rename D I γ el P360313 F360314 q360315 p360316 p360317) gNA 0 0) ky_360319_SpillForgeModel_rename 20 [(5, .int g384866), (4, .ref q384019), (3, .int g383959), (0, .ref q360315), (1, .int p360316), (2, .int p360317)] [] (va_pl P360313 F384867) 0 0 := by
          intro n20_384871
          induction n20_384871 with
          | zero => intro F384867 g384866 bg384866 hT384868 hs384869 x384870 x384871 hm20_384871; exact absurd hm20_384871 (Nat.not_lt_zero _)
          | succ n20_384871 ih20_384871 =>
            intro F384867 g384866 bg384866 hT384868 hs384869 x384870 x384871 hm20_384871
            have hs384873 : rStr γ [1] F383960 F384867 := fun b h0 hb hw => (hs384869 b h0 hb hw).trans (hs383962 b h0 hb hw).symm
            have he384874 : F384867 q360315 = .inr (18, [.ref q383970, .ref q383971, .int p383972, .int p383973]) := (hs384873 q360315 (rT0 htq360315 (by decide)) (rT1 htq360315 (by decide)) (rT2 htq360315 (by decide))).trans he383969
            have he384875 : F384867 q383970 = .inr (4, [.int p384000, .ref q384002, .int p384001]) := (hs384873 q383970 (rT0 ht383974 (by decide)) (rT1 ht383974 (by decide)) (rT2 ht383974 (by decide))).trans he383999
            have he384876 : F384867 q384002 = .inl (I (.object "java/lang/Object"), n384016, .inr (.inr (.inr (.inr f384017)))) := (hs384873 q384002 (rT0 r384008 (by decide)) (rT1 r384008 (by decide)) (rT2 r384008 (by decide))).trans r384010
            have he384877 : F384867 q384019 = .inr (17, [.ref q384028, .ref q384029, .int p384030, .int p384031]) := (hs384873 q384019 (rT0 ht384024 (by decide)) (rT1 ht384024 (by decide)) (rT2 ht384024 (by decide))).trans he384027
            have hs384878 : rStr γ [1] F360314 F384867 := rStr_tr hs383962 hs384873
            refine G_iload 0 dr_cX17_rename_20 rfl ?_
            refine G_aload 1 dr_cX17_rename_22 rfl ?_
            refine Gp_get 0 hm384026 he384877 dr_cX17_rename_24 (gk_X12 D I) (Nat.le_of_ble_eq_true rfl) wr_9_216 rfl ?_
            have hm384879 : q384028 ∈ P360313 := RS_m hT384868 ht384032 (by decide)
            obtain ⟨⟨p384881, p384882, q384883, he384880, r384884, r384885, r384886, r384888⟩, r384887⟩ := show rk_3 D I γ el F384867 q384028 from RS_o hT384868 ht384032
            have bp384881 := gB_any p384881
            have bp384882 : gB p384882 0 1000000 := ⟨by omega, by omega⟩
            refine Gw_callV (As := []) (gV_ok D I) (cp_7_ArrayList_size l hl0 D I P360313 F384867 q384028 p384881 q384883 p384882 hm384879 he384880 (gB_w bp384882 (by decide) (by decide))) dr_cX17_rename_27 ⟨wr_10_196, wr_1_18, wr_9_156, by decide, rfl, (Nat.le_of_ble_eq_true rfl), (Nat.le_of_ble_eq_true rfl)⟩ wr_9_154 wr_9_155 hm384879 he384880 rfl (show 0 + 0 ≤ 0 by first | omega | decide) (show 0 + 0 ≤ 0 by first | omega | decide) (Nat.le_of_ble_eq_true rfl) (fun r384892 w384893 dc384889 ds384890 hp384891 => ?_) (fun _ _ _ _ _ z => z.elim)
            obtain ⟨rfl, rfl, hdc, hds⟩ := hp384891
            change G _ _ _ _ _ _ _ (.int p384882 :: _) _ _ _
            refine G_widen (cs' := 0) (sl' := 0) (by omega) (by omega) ?_
            refine G_icmp_gt 144 dr_cX17_rename_30 (by decide +kernel) (fun hc384894 => ?_) (fun hc384894 => ?_)
            · have r384895 : p384882.toInt < g384866.toInt := gC_lt hc384894
              have bg384866' : gB g384866 1 1000001 := ⟨by omega, by omega⟩
              obtain ⟨z384896, hz384896⟩ : ∃ z : Int32, z = g383959 + Int32.ofInt 1 := ⟨_, rfl⟩
              have ez384896 : z384896.toInt = g383959.toInt + 1 := gI_inc hz384896 (by decide) bg383959' (by decide) (by decide)
              have bz384896 : gB z384896 1 1000000 := ⟨by omega, by omega⟩
              refine G_iinc (L' := [(3, .int z384896), (5, .int g384866), (4, .ref q384019), (0, .ref q360315), (1, .int p360316), (2, .int p360317)]) z384896 2 dr_cX17_rename_144 rfl hz384896.symm (Nat.le_of_ble_eq_true rfl) rfl ?_
              refine G_goto 2 dr_cX17_rename_147 (by decide +kernel) ?_
              refine G_lv (L' := [(3, .int z384896), (0, .ref q360315), (1, .int p360316), (2, .int p360317)]) [0, 3, 4, 5] rfl ?_
              exact ih2_383964 F384867 z384896 (gB_w bz384896 (by decide) (by decide)) hT384868 hs384869 x384870 x384871 (mz_up ez384896 (Int.le_trans bg383959'.2 (by decide)) hm2_383964)
            · have r384897 : g384866.toInt ≤ p384882.toInt := gC_nlt hc384894
              have bg384866' : gB g384866 0 1000000 := ⟨by omega, by omega⟩
              refine G_iload 0 dr_cX17_rename_33 rfl ?_
              refine G_aload 1 dr_cX17_rename_35 rfl ?_
              refine Gp_get 0 hm384026 he384877 dr_cX17_rename_37 (gk_X12 D I) (Nat.le_of_ble_eq_true rfl) wr_9_216 rfl ?_
              refine Gw_callV (As := []) (gV_ok D I) (cp_7_ArrayList_size l hl0 D I P360313 F384867 q384028 p384881 q384883 p384882 hm384879 he384880 (gB_w bp384882 (by decide) (by decide))) dr_cX17_rename_40 ⟨wr_10_196, wr_1_18, wr_9_156, by decide, rfl, (Nat.le_of_ble_eq_true rfl), (Nat.le_of_ble_eq_true rfl)⟩ wr_9_154 wr_9_155 hm384879 he384880 rfl (show 0 + 0 ≤ 0 by first | omega | decide) (show 0 + 0 ≤ 0 by first | omega | decide) (Nat.le_of_ble_eq_true rfl) (fun r384901 w384902 dc384898 ds384899 hp384900 => ?_) (fun _ _ _ _ _ z => z.elim)
              obtain ⟨rfl, rfl, hdc, hds⟩ := hp384900
              change G _ _ _ _ _ _ _ (.int p384882 :: _) _ _ _
              refine G_widen (cs' := 0) (sl' := 0) (by omega) (by omega) ?_
              refine G_icmp_ge 62 dr_cX17_rename_43 (by decide +kernel) (fun hc384903 => ?_) (fun hc384903 => ?_)
              · have r384904 : p384882.toInt ≤ g384866.toInt := gC_le hc384903
                refine G_aload 1 dr_cX17_rename_62 rfl ?_
                refine Gp_get 1 hm384026 he384877 dr_cX17_rename_64 (gk_X12 D I) (Nat.le_of_ble_eq_true rfl) wr_9_219 rfl ?_
                have fl384907 : p384882.toInt = γ 2 q384028 := r384884
                have hp384905 : rAt γ el q360315 (g383959.toInt : Int).toNat (g384866.toInt : Int).toNat = q384029 := (rAt_e hb384046 ht384038.1 (by omega)).trans ht384038.2.1
                have hL384906 : (g384866.toInt : Int).toNat ≤ γ 2 (rwL γ el q360315 (g383959.toInt : Int).toNat) := by unfold rwL; rw [hb384046, ht384038.1]; omega
                have nb384908 : (g383959.toInt : Int).toNat < γ 6 (γ 1 q360315) := by omega
                have hm384909 : q384029 ∈ P360313 := RS_m hT384868 ht384034 (by decide)
                obtain ⟨p384911, p384912, p384913, p384914, p384915, p384916, p384917, he384910, bp384911, bp384912, bp384915, bp384916, bp384917, r384918, r384919, r384920, r384921, r384922⟩ := show rk_1 γ q384029 (F384867 q384029) from RS_o hT384868 ht384034
                have bp384913 := gB_any p384913
                have bp384914 := gB_any p384914
                refine G_astore (L' := [(6, .ref q384029), (5, .int g384866), (4, .ref q384019), (3, .int g383959), (0, .ref q360315), (1, .int p360316), (2, .int p360317)]) dr_cX17_rename_67 (Nat.le_of_ble_eq_true rfl) rfl ?_
                refine G_aload 0 dr_cX17_rename_69 rfl ?_
                refine Gw_callV (As := []) (gV_ok D I) (cp_1669_Row_usesA l hl0 D I P360313 F384867 q384029 p384911 p384912 p384913 p384914 p384915 p384916 p384917 hm384909 he384910 bp384911 bp384912 bp384915 bp384916 bp384917) dr_cX17_rename_71 ⟨wr_10_188, wr_1_39, wr_10_191, by decide, rfl, (Nat.le_of_ble_eq_true rfl), (Nat.le_of_ble_eq_true rfl)⟩ wr_10_189 wr_10_190 hm384909 he384910 rfl (show 0 + 0 ≤ 0 by first | omega | decide) (show 0 + 0 ≤ 0 by first | omega | decide) (Nat.le_of_ble_eq_true rfl) (fun r384926 w384927 dc384923 ds384924 hp384925 => ?_) (fun _ _ _ _ _ z => z.elim)
                obtain ⟨o384928, rfl, rfl, hdc, hds, bo384928, x384929⟩ := hp384925
                change G _ _ _ _ _ _ _ (.int o384928 :: _) _ _ _
                refine G_widen (cs' := 0) (sl' := 0) (by omega) (by omega) ?_
                refine G_if_eq 92 dr_cX17_rename_74 (by decide +kernel) (fun hc384930 => ?_) (fun hc384930 => ?_)
                · have r384931 : o384928.toInt = 0 := gj_eq hc384930 (show Int32.toInt 0 = 0 by decide)
                  have bo384928' : gB o384928 0 0 := gB_t0 r384931
                  refine G_aload 0 dr_cX17_rename_92 rfl ?_
                  refine Gw_callV (As := []) (gV_ok D I) (cp_1693_Row_usesB l hl0 D I P360313 F384867 q384029 p384911 p384912 p384913 p384914 p384915 p384916 p384917 hm384909 he384910 bp384911 bp384912 bp384915 bp384916 bp384917) dr_cX17_rename_94 ⟨wr_10_192, wr_1_39, wr_10_195, by decide, rfl, (Nat.le_of_ble_eq_true rfl), (Nat.le_of_ble_eq_true rfl)⟩ wr_10_193 wr_10_194 hm384909 he384910 rfl (show 0 + 0 ≤ 0 by first | omega | decide) (show 0 + 0 ≤ 0 by first | omega | decide) (Nat.le_of_ble_eq_true rfl) (fun r384935 w384936 dc384932 ds384933 hp384934 => ?_) (fun _ _ _ _ _ z => z.elim)
                  obtain ⟨o384937, rfl, rfl, hdc, hds, bo384937, x384938⟩ := hp384934
                  change G _ _ _ _ _ _ _ (.int o384937 :: _) _ _ _
                  refine G_widen (cs' := 0) (sl' := 0) (by omega) (by omega) ?_
                  refine G_if_eq 115 dr_cX17_rename_97 (by decide +kernel) (fun hc384939 => ?_) (fun hc384939 => ?_)
                  · have r384940 : o384937.toInt = 0 := gj_eq hc384939 (show Int32.toInt 0 = 0 by decide)
                    have bo384937' : gB o384937 0 0 := gB_t0 r384940
                    refine G_aload 0 dr_cX17_rename_115 rfl ?_
                    refine Gw_callV (As := []) (gV_ok D I) (cp_1654_Row_sets l hl0 D I P360313 F384867 q384029 p384911 p384912 p384913 p384914 p384915 p384916 p384917 hm384909 he384910 bp384911 bp384912 bp384915 bp384916 bp384917) dr_cX17_rename_117 ⟨wr_10_177, wr_1_39, wr_10_180, by decide, rfl, (Nat.le_of_ble_eq_true rfl), (Nat.le_of_ble_eq_true rfl)⟩ wr_10_178 wr_10_179 hm384909 he384910 rfl (show 0 + 0 ≤ 0 by first | omega | decide) (show 0 + 0 ≤ 0 by first | omega | decide) (Nat.le_of_ble_eq_true rfl) (fun r384944 w384945 dc384941 ds384942 hp384943 => ?_) (fun _ _ _ _ _ z => z.elim)
                    obtain ⟨o384946, rfl, rfl, hdc, hds, bo384946⟩ := hp384943
                    change G _ _ _ _ _ _ _ (.int o384946 :: _) _ _ _
                    refine G_widen (cs' := 0) (sl' := 0) (by omega) (by omega) ?_
                    refine G_if_eq 138 dr_cX17_rename_120 (by decide +kernel) (fun hc384947 => ?_) (fun hc384947 => ?_)
                    · have r384948 : o384946.toInt = 0 := gj_eq hc384947 (show Int32.toInt 0 = 0 by decide)
                      have bo384946' : gB o384946 0 0 := gB_t0 r384948
                      obtain ⟨z384949, hz384949⟩ : ∃ z : Int32, z = g384866 + Int32.ofInt 1 := ⟨_, rfl⟩
                      have ez384949 : z384949.toInt = g384866.toInt + 1 := gI_inc hz384949 (by decide) bg384866' (by decide) (by decide)
                      have bz384949 : gB z384949 1 1000001 := ⟨by omega, by omega⟩
                      refine G_iinc (L' := [(5, .int z384949), (6, .ref q384029), (4, .ref q384019), (3, .int g383959), (0, .ref q360315), (1, .int p360316), (2, .int p360317)]) z384949 1 dr_cX17_rename_138 rfl hz384949.symm (Nat.le_of_ble_eq_true rfl) rfl ?_
                      refine G_goto 20 dr_cX17_rename_141 (by decide +kernel) ?_
                      refine G_lv (L' := [(5, .int z384949), (4, .ref q384019), (3, .int g383959), (0, .ref q360315), (1, .int p360316), (2, .int p360317)]) [0, 2, 3, 4, 5, 6] rfl ?_
                      exact ih20_384871 F384867 z384949 (gB_w bz384949 (by decide) (by decide)) hT384868 hs384869 x384870 x384871 (mz_up ez384949 (Int.le_trans bg384866'.2 (by decide)) hm20_384871)
                    · have r384950 : o384946.toInt ≠ 0 := gj_neq hc384947 (show Int32.toInt 0 = 0 by decide)
                      have bo384946' : gB o384946 1 1 := gB_t1 bo384946 r384950
                      refine G_aload 0 dr_cX17_rename_123 rfl ?_
                      refine Gp_get 1 hm384909 he384910 dr_cX17_rename_125 (gk_X15 D I) (Nat.le_of_ble_eq_true rfl) wr_9_178 rfl ?_
                      refine G_iload_n 5 dr_cX17_rename_128 rfl ?_
                      refine G_icmp_ne 138 dr_cX17_rename_129 (by decide +kernel) (fun hc384951 => ?_) (fun hc384951 => ?_)
                      · have r384952 : p384912.toInt ≠ p360316.toInt := gC_ne hc384951
                        obtain ⟨z384953, hz384953⟩ : ∃ z : Int32, z = g384866 + Int32.ofInt 1 := ⟨_, rfl⟩
                        have ez384953 : z384953.toInt = g384866.toInt + 1 := gI_inc hz384953 (by decide) bg384866' (by decide) (by decide)
                        have bz384953 : gB z384953 1 1000001 := ⟨by omega, by omega⟩
                        refine G_iinc (L' := [(5, .int z384953), (6, .ref q384029), (4, .ref q384019), (3, .int g383959), (0, .ref q360315), (1, .int p360316), (2, .int p360317)]) z384953 1 dr_cX17_rename_138 rfl hz384953.symm (Nat.le_of_ble_eq_true rfl) rfl ?_
                        refine G_goto 20 dr_cX17_rename_141 (by decide +kernel) ?_
                        refine G_lv (L' := [(5, .int z384953), (4, .ref q384019), (3, .int g383959), (0, .ref q360315), (1, .int p360316), (2, .int p360317)]) [0, 2, 3, 4, 5, 6] rfl ?_
                        exact ih20_384871 F384867 z384953 (gB_w bz384953 (by decide) (by decide)) hT384868 hs384869 x384870 x384871 (mz_up ez384953 (Int.le_trans bg384866'.2 (by decide)) hm20_384871)
                      · have r384954 : p384912.toInt = p360316.toInt := gC_eq hc384951
                        refine G_aload 0 dr_cX17_rename_132 rfl ?_
                        refine G_iload_n 6 dr_cX17_rename_134 rfl ?_
                        refine Gp_put 1 hm384909 he384910 dr_cX17_rename_135 (gk_X15 D I) (Nat.le_of_ble_eq_true rfl) wr_9_178 rfl rfl rfl (Nat.le_of_ble_eq_true rfl) (fun F384955 e384956 n384957 => ?_)
                        have he384958 : F384955 q360315 = .inr (18, [.ref q383970, .ref q383971, .int p383972, .int p383973]) := (n384957 q360315 (rn_oo he384874 he384910 (by decide))).trans he384874
                        have he384959 : F384955 q383970 = .inr (4, [.int p384000, .ref q384002, .int p384001]) := (n384957 q383970 (rn_oo he384875 he384910 (by decide))).trans he384875
                        have he384960 : F384955 q384002 = .inl (I (.object "java/lang/Object"), n384016, .inr (.inr (.inr (.inr f384017)))) := (n384957 q384002 (rn_ao he384876 he384910)).trans he384876
                        have he384961 : F384955 q384019 = .inr (17, [.ref q384028, .ref q384029, .int p384030, .int p384031]) := (n384957 q384019 (rn_oo he384877 he384910 (by decide))).trans he384877
                        have he384962 : F384955 q384028 = .inr (4, [.int p384881, .ref q384883, .int p384882]) := (n384957 q384028 (rn_oo he384880 he384910 (by decide))).trans he384880
                        have he384963 : F384955 q384029 = .inr (20, [.int p384911, .int p360317, .int p384913, .int p384914, .int p384915, .int p384916, .int p384917]) := e384956
                        have hs384964 : rStr γ [1] F360314 F384955 := rStr_pu2 hs384869 n384957 ht384034 (by decide)
                        have fk384965 : rFk [1] γ F360314 F384955 := rFk_put x384871 n384957 ht384034 (by decide)
                        obtain ⟨z384966, hz384966⟩ : ∃ z : Int32, z = g384866 + Int32.ofInt 1 := ⟨_, rfl⟩
                        have ez384966 : z384966.toInt = g384866.toInt + 1 := gI_inc hz384966 (by decide) bg384866' (by decide) (by decide)
                        have bz384966 : gB z384966 1 1000001 := ⟨by omega, by omega⟩
                        refine G_iinc (L' := [(5, .int z384966), (6, .ref q384029), (4, .ref q384019), (3, .int g383959), (0, .ref q360315), (1, .int p360316), (2, .int p360317)]) z384966 1 dr_cX17_rename_138 rfl hz384966.symm (Nat.le_of_ble_eq_true rfl) rfl ?_
                        refine G_goto 20 dr_cX17_rename_141 (by decide +kernel) ?_
                        have hT384967 : RS D I P360313 F384955 γ el := RS_set hT384868 n384957 ht384034 (by decide) ⟨p384911, p360317, p384913, p384914, p384915, p384916, p384917, he384963, bp384911, bp360317, bp384915, bp384916, bp384917, r384918, r384919, r384920, r384921, r384922⟩
                        refine G_lv (L' := [(5, .int z384966), (4, .ref q384019), (3, .int g383959), (0, .ref q360315), (1, .int p360316), (2, .int p360317)]) [0, 2, 3, 4, 5, 6] rfl ?_
                        exact ih20_384871 F384955 z384966 (gB_w bz384966 (by decide) (by decide)) hT384967 hs384964 (fun N hv hu hp => rPl_put hT384868 htq360315 rfl (x384870 N hv hu hp) n384957 hp384905 nb384908 hL384906 (fun _ _ _ _ z => z) (rNx_ren he384910 he384963 hu hv (Or.inl rfl) (Or.inl rfl) (Or.inr ⟨rfl, by first | assumption | omega⟩) (by rw [← hp384905]; exact x384870 N hv hu hp _ nb384908 _ hL384906))) fk384965 (mz_up ez384966 (Int.le_trans bg384866'.2 (by decide)) hm20_384871)
                  · have r384969 : o384937.toInt ≠ 0 := gj_neq hc384939 (show Int32.toInt 0 = 0 by decide)
                    have bo384937' : gB o384937 1 1 := gB_t1 bo384937 r384969
                    refine G_aload 0 dr_cX17_rename_100 rfl ?_
                    refine Gp_get 3 hm384909 he384910 dr_cX17_rename_102 (gk_X15 D I) (Nat.le_of_ble_eq_true rfl) wr_9_186 rfl ?_
                    refine G_iload_n 5 dr_cX17_rename_105 rfl ?_
                    refine G_icmp_ne 115 dr_cX17_rename_106 (by decide +kernel) (fun hc384970 => ?_) (fun hc384970 => ?_)
                    · have r384971 : p384914.toInt ≠ p360316.toInt := gC_ne hc384970
                      refine G_aload 0 dr_cX17_rename_115 rfl ?_
                      refine Gw_callV (As := []) (gV_ok D I) (cp_1654_Row_sets l hl0 D I P360313 F384867 q384029 p384911 p384912 p384913 p384914 p384915 p384916 p384917 hm384909 he384910 bp384911 bp384912 bp384915 bp384916 bp384917) dr_cX17_rename_117 ⟨wr_10_177, wr_1_39, wr_10_180, by decide, rfl, (Nat.le_of_ble_eq_true rfl), (Nat.le_of_ble_eq_true rfl)⟩ wr_10_178 wr_10_179 hm384909 he384910 rfl (show 0 + 0 ≤ 0 by first | omega | decide) (show 0 + 0 ≤ 0 by first | omega | decide) (Nat.le_of_ble_eq_true rfl) (fun r384975 w384976 dc384972 ds384973 hp384974 => ?_) (fun _ _ _ _ _ z => z.elim)
                      obtain ⟨o384977, rfl, rfl, hdc, hds, bo384977⟩ := hp384974
                      change G _ _ _ _ _ _ _ (.int o384977 :: _) _ _ _
                      refine G_widen (cs' := 0) (sl' := 0) (by omega) (by omega) ?_
                      refine G_if_eq 138 dr_cX17_rename_120 (by decide +kernel) (fun hc384978 => ?_) (fun hc384978 => ?_)
                      · have r384979 : o384977.toInt = 0 := gj_eq hc384978 (show Int32.toInt 0 = 0 by decide)
                        have bo384977' : gB o384977 0 0 := gB_t0 r384979
                        obtain ⟨z384980, hz384980⟩ : ∃ z : Int32, z = g384866 + Int32.ofInt 1 := ⟨_, rfl⟩
                        have ez384980 : z384980.toInt = g384866.toInt + 1 := gI_inc hz384980 (by decide) bg384866' (by decide) (by decide)
                        have bz384980 : gB z384980 1 1000001 := ⟨by omega, by omega⟩
                        refine G_iinc (L' := [(5, .int z384980), (6, .ref q384029), (4, .ref q384019), (3, .int g383959), (0, .ref q360315), (1, .int p360316), (2, .int p360317)]) z384980 1 dr_cX17_rename_138 rfl hz384980.symm (Nat.le_of_ble_eq_true rfl) rfl ?_
                        refine G_goto 20 dr_cX17_rename_141 (by decide +kernel) ?_
                        refine G_lv (L' := [(5, .int z384980), (4, .ref q384019), (3, .int g383959), (0, .ref q360315), (1, .int p360316), (2, .int p360317)]) [0, 2, 3, 4, 5, 6] rfl ?_
                        exact ih20_384871 F384867 z384980 (gB_w bz384980 (by decide) (by decide)) hT384868 hs384869 x384870 x384871 (mz_up ez384980 (Int.le_trans bg384866'.2 (by decide)) hm20_384871)
                      · have r384981 : o384977.toInt ≠ 0 := gj_neq hc384978 (show Int32.toInt 0 = 0 by decide)
                        have bo384977' : gB o384977 1 1 := gB_t1 bo384977 r384981
                        refine G_aload 0 dr_cX17_rename_123 rfl ?_
                        refine Gp_get 1 hm384909 he384910 dr_cX17_rename_125 (gk_X15 D I) (Nat.le_of_ble_eq_true rfl) wr_9_178 rfl ?_
                        refine G_iload_n 5 dr_cX17_rename_128 rfl ?_
                        refine G_icmp_ne 138 dr_cX17_rename_129 (by decide +kernel) (fun hc384982 => ?_) (fun hc384982 => ?_)
                        · have r384983 : p384912.toInt ≠ p360316.toInt := gC_ne hc384982
                          obtain ⟨z384984, hz384984⟩ : ∃ z : Int32, z = g384866 + Int32.ofInt 1 := ⟨_, rfl⟩
                          have ez384984 : z384984.toInt = g384866.toInt + 1 := gI_inc hz384984 (by decide) bg384866' (by decide) (by decide)
                          have bz384984 : gB z384984 1 1000001 := ⟨by omega, by omega⟩
                          refine G_iinc (L' := [(5, .int z384984), (6, .ref q384029), (4, .ref q384019), (3, .int g383959), (0, .ref q360315), (1, .int p360316), (2, .int p360317)]) z384984 1 dr_cX17_rename_138 rfl hz384984.symm (Nat.le_of_ble_eq_true rfl) rfl ?_
                          refine G_goto 20 dr_cX17_rename_141 (by decide +kernel) ?_
                          refine G_lv (L' := [(5, .int z384984), (4, .ref q384019), (3, .int g383959), (0, .ref q360315), (1, .int p360316), (2, .int p360317)]) [0, 2, 3, 4, 5, 6] rfl ?_
                          exact ih20_384871 F384867 z384984 (gB_w bz384984 (by decide) (by decide)) hT384868 hs384869 x384870 x384871 (mz_up ez384984 (Int.le_trans bg384866'.2 (by decide)) hm20_384871)
                        · have r384985 : p384912.toInt = p360316.toInt := gC_eq hc384982
                          refine G_aload 0 dr_cX17_rename_132 rfl ?_
                          refine G_iload_n 6 dr_cX17_rename_134 rfl ?_
                          refine Gp_put 1 hm384909 he384910 dr_cX17_rename_135 (gk_X15 D I) (Nat.le_of_ble_eq_true rfl) wr_9_178 rfl rfl rfl (Nat.le_of_ble_eq_true rfl) (fun F384986 e384987 n384988 => ?_)
                          have he384989 : F384986 q360315 = .inr (18, [.ref q383970, .ref q383971, .int p383972, .int p383973]) := (n384988 q360315 (rn_oo he384874 he384910 (by decide))).trans he384874
                          have he384990 : F384986 q383970 = .inr (4, [.int p384000, .ref q384002, .int p384001]) := (n384988 q383970 (rn_oo he384875 he384910 (by decide))).trans he384875
                          have he384991 : F384986 q384002 = .inl (I (.object "java/lang/Object"), n384016, .inr (.inr (.inr (.inr f384017)))) := (n384988 q384002 (rn_ao he384876 he384910)).trans he384876
                          have he384992 : F384986 q384019 = .inr (17, [.ref q384028, .ref q384029, .int p384030, .int p384031]) := (n384988 q384019 (rn_oo he384877 he384910 (by decide))).trans he384877
                          have he384993 : F384986 q384028 = .inr (4, [.int p384881, .ref q384883, .int p384882]) := (n384988 q384028 (rn_oo he384880 he384910 (by decide))).trans he384880
                          have he384994 : F384986 q384029 = .inr (20, [.int p384911, .int p360317, .int p384913, .int p384914, .int p384915, .int p384916, .int p384917]) := e384987
                          have hs384995 : rStr γ [1] F360314 F384986 := rStr_pu2 hs384869 n384988 ht384034 (by decide)
                          have fk384996 : rFk [1] γ F360314 F384986 := rFk_put x384871 n384988 ht384034 (by decide)
                          obtain ⟨z384997, hz384997⟩ : ∃ z : Int32, z = g384866 + Int32.ofInt 1 := ⟨_, rfl⟩
                          have ez384997 : z384997.toInt = g384866.toInt + 1 := gI_inc hz384997 (by decide) bg384866' (by decide) (by decide)
                          have bz384997 : gB z384997 1 1000001 := ⟨by omega, by omega⟩
                          refine G_iinc (L' := [(5, .int z384997), (6, .ref q384029), (4, .ref q384019), (3, .int g383959), (0, .ref q360315), (1, .int p360316), (2, .int p360317)]) z384997 1 dr_cX17_rename_138 rfl hz384997.symm (Nat.le_of_ble_eq_true rfl) rfl ?_
                          refine G_goto 20 dr_cX17_rename_141 (by decide +kernel) ?_
                          have hT384998 : RS D I P360313 F384986 γ el := RS_set hT384868 n384988 ht384034 (by decide) ⟨p384911, p360317, p384913, p384914, p384915, p384916, p384917, he384994, bp384911, bp360317, bp384915, bp384916, bp384917, r384918, r384919, r384920, r384921, r384922⟩
                          refine G_lv (L' := [(5, .int z384997), (4, .ref q384019), (3, .int g383959), (0, .ref q360315), (1, .int p360316), (2, .int p360317)]) [0, 2, 3, 4, 5, 6] rfl ?_
                          exact ih20_384871 F384986 z384997 (gB_w bz384997 (by decide) (by decide)) hT384998 hs384995 (fun N hv hu hp => rPl_put hT384868 htq360315 rfl (x384870 N hv hu hp) n384988 hp384905 nb384908 hL384906 (fun _ _ _ _ z => z) (rNx_ren he384910 he384994 hu hv (Or.inl rfl) (Or.inl rfl) (Or.inr ⟨rfl, by first | assumption | omega⟩) (by rw [← hp384905]; exact x384870 N hv hu hp _ nb384908 _ hL384906))) fk384996 (mz_up ez384997 (Int.le_trans bg384866'.2 (by decide)) hm20_384871)
                    · have r385000 : p384914.toInt = p360316.toInt := gC_eq hc384970
                      have bp384914' : gB p384914 0 1999 := ⟨by omega, by omega⟩
                      refine G_aload 0 dr_cX17_rename_109 rfl ?_
                      refine G_iload_n 6 dr_cX17_rename_111 rfl ?_
                      refine Gp_put 3 hm384909 he384910 dr_cX17_rename_112 (gk_X15 D I) (Nat.le_of_ble_eq_true rfl) wr_9_186 rfl rfl rfl (Nat.le_of_ble_eq_true rfl) (fun F385001 e385002 n385003 => ?_)
                      have he385004 : F385001 q360315 = .inr (18, [.ref q383970, .ref q383971, .int p383972, .int p383973]) := (n385003 q360315 (rn_oo he384874 he384910 (by decide))).trans he384874
                      have he385005 : F385001 q383970 = .inr (4, [.int p384000, .ref q384002, .int p384001]) := (n385003 q383970 (rn_oo he384875 he384910 (by decide))).trans he384875
                      have he385006 : F385001 q384002 = .inl (I (.object "java/lang/Object"), n384016, .inr (.inr (.inr (.inr f384017)))) := (n385003 q384002 (rn_ao he384876 he384910)).trans he384876
                      have he385007 : F385001 q384019 = .inr (17, [.ref q384028, .ref q384029, .int p384030, .int p384031]) := (n385003 q384019 (rn_oo he384877 he384910 (by decide))).trans he384877
                      have he385008 : F385001 q384028 = .inr (4, [.int p384881, .ref q384883, .int p384882]) := (n385003 q384028 (rn_oo he384880 he384910 (by decide))).trans he384880
                      have he385009 : F385001 q384029 = .inr (20, [.int p384911, .int p384912, .int p384913, .int p360317, .int p384915, .int p384916, .int p384917]) := e385002
                      have hs385010 : rStr γ [1] F360314 F385001 := rStr_pu2 hs384869 n385003 ht384034 (by decide)
                      have fk385011 : rFk [1] γ F360314 F385001 := rFk_put x384871 n385003 ht384034 (by decide)
                      refine G_aload 0 dr_cX17_rename_115 rfl ?_
                      have hT385012 : RS D I P360313 F385001 γ el := RS_set hT384868 n385003 ht384034 (by decide) ⟨p384911, p384912, p384913, p360317, p384915, p384916, p384917, he385009, bp384911, bp384912, bp384915, bp384916, bp384917, r384918, r384919, (Or.inr bp360317), r384921, r384922⟩
                      refine Gw_callV (As := []) (gV_ok D I) (cp_1654_Row_sets l hl0 D I P360313 F385001 q384029 p384911 p384912 p384913 p360317 p384915 p384916 p384917 hm384909 he385009 bp384911 bp384912 bp384915 bp384916 bp384917) dr_cX17_rename_117 ⟨wr_10_177, wr_1_39, wr_10_180, by decide, rfl, (Nat.le_of_ble_eq_true rfl), (Nat.le_of_ble_eq_true rfl)⟩ wr_10_178 wr_10_179 hm384909 he385009 rfl (show 0 + 0 ≤ 0 by first | omega | decide) (show 0 + 0 ≤ 0 by first | omega | decide) (Nat.le_of_ble_eq_true rfl) (fun r385017 w385018 dc385014 ds385015 hp385016 => ?_) (fun _ _ _ _ _ z => z.elim)
                      obtain ⟨o385019, rfl, rfl, hdc, hds, bo385019⟩ := hp385016
                      change G _ _ _ _ _ _ _ (.int o385019 :: _) _ _ _
                      refine G_widen (cs' := 0) (sl' := 0) (by omega) (by omega) ?_
                      refine G_if_eq 138 dr_cX17_rename_120 (by decide +kernel) (fun hc385020 => ?_) (fun hc385020 => ?_)
                      · have r385021 : o385019.toInt = 0 := gj_eq hc385020 (show Int32.toInt 0 = 0 by decide)
                        have bo385019' : gB o385019 0 0 := gB_t0 r385021
                        obtain ⟨z385022, hz385022⟩ : ∃ z : Int32, z = g384866 + Int32.ofInt 1 := ⟨_, rfl⟩
                        have ez385022 : z385022.toInt = g384866.toInt + 1 := gI_inc hz385022 (by decide) bg384866' (by decide) (by decide)
                        have bz385022 : gB z385022 1 1000001 := ⟨by omega, by omega⟩
                        refine G_iinc (L' := [(5, .int z385022), (6, .ref q384029), (4, .ref q384019), (3, .int g383959), (0, .ref q360315), (1, .int p360316), (2, .int p360317)]) z385022 1 dr_cX17_rename_138 rfl hz385022.symm (Nat.le_of_ble_eq_true rfl) rfl ?_
                        refine G_goto 20 dr_cX17_rename_141 (by decide +kernel) ?_
                        refine G_lv (L' := [(5, .int z385022), (4, .ref q384019), (3, .int g383959), (0, .ref q360315), (1, .int p360316), (2, .int p360317)]) [0, 2, 3, 4, 5, 6] rfl ?_
                        exact ih20_384871 F385001 z385022 (gB_w bz385022 (by decide) (by decide)) hT385012 hs385010 (fun N hv hu hp => rPl_put hT384868 htq360315 rfl (x384870 N hv hu hp) n385003 hp384905 nb384908 hL384906 (fun _ _ _ _ z => z) (rNx_ren he384910 he385009 hu hv (Or.inl rfl) (Or.inr rfl) (Or.inl rfl) (by rw [← hp384905]; exact x384870 N hv hu hp _ nb384908 _ hL384906))) fk385011 (mz_up ez385022 (Int.le_trans bg384866'.2 (by decide)) hm20_384871)
                      · have r385023 : o385019.toInt ≠ 0 := gj_neq hc385020 (show Int32.toInt 0 = 0 by decide)
                        have bo385019' : gB o385019 1 1 := gB_t1 bo385019 r385023
                        refine G_aload 0 dr_cX17_rename_123 rfl ?_
                        refine Gp_get 1 hm384909 he385009 dr_cX17_rename_125 (gk_X15 D I) (Nat.le_of_ble_eq_true rfl) wr_9_178 rfl ?_
                        refine G_iload_n 5 dr_cX17_rename_128 rfl ?_
                        refine G_icmp_ne 138 dr_cX17_rename_129 (by decide +kernel) (fun hc385024 => ?_) (fun hc385024 => ?_)
                        · have r385025 : p384912.toInt ≠ p360316.toInt := gC_ne hc385024
                          obtain ⟨z385026, hz385026⟩ : ∃ z : Int32, z = g384866 + Int32.ofInt 1 := ⟨_, rfl⟩
                          have ez385026 : z385026.toInt = g384866.toInt + 1 := gI_inc hz385026 (by decide) bg384866' (by decide) (by decide)
                          have bz385026 : gB z385026 1 1000001 := ⟨by omega, by omega⟩
                          refine G_iinc (L' := [(5, .int z385026), (6, .ref q384029), (4, .ref q384019), (3, .int g383959), (0, .ref q360315), (1, .int p360316), (2, .int p360317)]) z385026 1 dr_cX17_rename_138 rfl hz385026.symm (Nat.le_of_ble_eq_true rfl) rfl ?_
                          refine G_goto 20 dr_cX17_rename_141 (by decide +kernel) ?_
                          refine G_lv (L' := [(5, .int z385026), (4, .ref q384019), (3, .int g383959), (0, .ref q360315), (1, .int p360316), (2, .int p360317)]) [0, 2, 3, 4, 5, 6] rfl ?_
                          exact ih20_384871 F385001 z385026 (gB_w bz385026 (by decide) (by decide)) hT385012 hs385010 (fun N hv hu hp => rPl_put hT384868 htq360315 rfl (x384870 N hv hu hp) n385003 hp384905 nb384908 hL384906 (fun _ _ _ _ z => z) (rNx_ren he384910 he385009 hu hv (Or.inl rfl) (Or.inr rfl) (Or.inl rfl) (by rw [← hp384905]; exact x384870 N hv hu hp _ nb384908 _ hL384906))) fk385011 (mz_up ez385026 (Int.le_trans bg384866'.2 (by decide)) hm20_384871)
                        · have r385027 : p384912.toInt = p360316.toInt := gC_eq hc385024
                          refine G_aload 0 dr_cX17_rename_132 rfl ?_
                          refine G_iload_n 6 dr_cX17_rename_134 rfl ?_
                          refine Gp_put 1 hm384909 he385009 dr_cX17_rename_135 (gk_X15 D I) (Nat.le_of_ble_eq_true rfl) wr_9_178 rfl rfl rfl (Nat.le_of_ble_eq_true rfl) (fun F385028 e385029 n385030 => ?_)
                          have he385031 : F385028 q360315 = .inr (18, [.ref q383970, .ref q383971, .int p383972, .int p383973]) := (n385030 q360315 (rn_oo he385004 he385009 (by decide))).trans he385004
                          have he385032 : F385028 q383970 = .inr (4, [.int p384000, .ref q384002, .int p384001]) := (n385030 q383970 (rn_oo he385005 he385009 (by decide))).trans he385005
                          have he385033 : F385028 q384002 = .inl (I (.object "java/lang/Object"), n384016, .inr (.inr (.inr (.inr f384017)))) := (n385030 q384002 (rn_ao he385006 he385009)).trans he385006
                          have he385034 : F385028 q384019 = .inr (17, [.ref q384028, .ref q384029, .int p384030, .int p384031]) := (n385030 q384019 (rn_oo he385007 he385009 (by decide))).trans he385007
                          have he385035 : F385028 q384028 = .inr (4, [.int p384881, .ref q384883, .int p384882]) := (n385030 q384028 (rn_oo he385008 he385009 (by decide))).trans he385008
                          have he385036 : F385028 q384029 = .inr (20, [.int p384911, .int p360317, .int p384913, .int p360317, .int p384915, .int p384916, .int p384917]) := e385029
                          have hs385037 : rStr γ [1] F360314 F385028 := rStr_pu2 hs385010 n385030 ht384034 (by decide)
                          have fk385038 : rFk [1] γ F360314 F385028 := rFk_put fk385011 n385030 ht384034 (by decide)
                          obtain ⟨z385039, hz385039⟩ : ∃ z : Int32, z = g384866 + Int32.ofInt 1 := ⟨_, rfl⟩
                          have ez385039 : z385039.toInt = g384866.toInt + 1 := gI_inc hz385039 (by decide) bg384866' (by decide) (by decide)
                          have bz385039 : gB z385039 1 1000001 := ⟨by omega, by omega⟩
                          refine G_iinc (L' := [(5, .int z385039), (6, .ref q384029), (4, .ref q384019), (3, .int g383959), (0, .ref q360315), (1, .int p360316), (2, .int p360317)]) z385039 1 dr_cX17_rename_138 rfl hz385039.symm (Nat.le_of_ble_eq_true rfl) rfl ?_
                          refine G_goto 20 dr_cX17_rename_141 (by decide +kernel) ?_
                          have hT385040 : RS D I P360313 F385028 γ el := RS_set hT385012 n385030 ht384034 (by decide) ⟨p384911, p360317, p384913, p360317, p384915, p384916, p384917, he385036, bp384911, bp360317, bp384915, bp384916, bp384917, r384918, r384919, (Or.inr bp360317), r384921, r384922⟩
                          have of385041 : ∀ b, b ≠ q384029 → F385028 b = F384867 b := fun b hb => (n385030 b hb).trans (n385003 b hb)
                          refine G_lv (L' := [(5, .int z385039), (4, .ref q384019), (3, .int g383959), (0, .ref q360315), (1, .int p360316), (2, .int p360317)]) [0, 2, 3, 4, 5, 6] rfl ?_
                          exact ih20_384871 F385028 z385039 (gB_w bz385039 (by decide) (by decide)) hT385040 hs385037 (fun N hv hu hp => rPl_put hT384868 htq360315 rfl (x384870 N hv hu hp) of385041 hp384905 nb384908 hL384906 (fun _ _ _ _ z => z) (rNx_ren he384910 he385036 hu hv (Or.inl rfl) (Or.inr rfl) (Or.inr ⟨rfl, by first | assumption | omega⟩) (by rw [← hp384905]; exact x384870 N hv hu hp _ nb384908 _ hL384906))) fk385038 (mz_up ez385039 (Int.le_trans bg384866'.2 (by decide)) hm20_384871)
                · have r385042 : o384928.toInt ≠ 0 := gj_neq hc384930 (show Int32.toInt 0 = 0 by decide)
                  have bo384928' : gB o384928 1 1 := gB_t1 bo384928 r385042
                  refine G_aload 0 dr_cX17_rename_77 rfl ?_
                  refine Gp_get 2 hm384909 he384910 dr_cX17_rename_79 (gk_X15 D I) (Nat.le_of_ble_eq_true rfl) wr_9_182 rfl ?_
                  refine G_iload_n 5 dr_cX17_rename_82 rfl ?_
                  refine G_icmp_ne 92 dr_cX17_rename_83 (by decide +kernel) (fun hc385043 => ?_) (fun hc385043 => ?_)
                  · have r385044 : p384913.toInt ≠ p360316.toInt := gC_ne hc385043
                    refine G_aload 0 dr_cX17_rename_92 rfl ?_
                    refine Gw_callV (As := []) (gV_ok D I) (cp_1693_Row_usesB l hl0 D I P360313 F384867 q384029 p384911 p384912 p384913 p384914 p384915 p384916 p384917 hm384909 he384910 bp384911 bp384912 bp384915 bp384916 bp384917) dr_cX17_rename_94 ⟨wr_10_192, wr_1_39, wr_10_195, by decide, rfl, (Nat.le_of_ble_eq_true rfl), (Nat.le_of_ble_eq_true rfl)⟩ wr_10_193 wr_10_194 hm384909 he384910 rfl (show 0 + 0 ≤ 0 by first | omega | decide) (show 0 + 0 ≤ 0 by first | omega | decide) (Nat.le_of_ble_eq_true rfl) (fun r385048 w385049 dc385045 ds385046 hp385047 => ?_) (fun _ _ _ _ _ z => z.elim)
                    obtain ⟨o385050, rfl, rfl, hdc, hds, bo385050, x385051⟩ := hp385047
                    change G _ _ _ _ _ _ _ (.int o385050 :: _) _ _ _
                    refine G_widen (cs' := 0) (sl' := 0) (by omega) (by omega) ?_
                    refine G_if_eq 115 dr_cX17_rename_97 (by decide +kernel) (fun hc385052 => ?_) (fun hc385052 => ?_)
                    · have r385053 : o385050.toInt = 0 := gj_eq hc385052 (show Int32.toInt 0 = 0 by decide)
                      have bo385050' : gB o385050 0 0 := gB_t0 r385053
                      refine G_aload 0 dr_cX17_rename_115 rfl ?_
                      refine Gw_callV (As := []) (gV_ok D I) (cp_1654_Row_sets l hl0 D I P360313 F384867 q384029 p384911 p384912 p384913 p384914 p384915 p384916 p384917 hm384909 he384910 bp384911 bp384912 bp384915 bp384916 bp384917) dr_cX17_rename_117 ⟨wr_10_177, wr_1_39, wr_10_180, by decide, rfl, (Nat.le_of_ble_eq_true rfl), (Nat.le_of_ble_eq_true rfl)⟩ wr_10_178 wr_10_179 hm384909 he384910 rfl (show 0 + 0 ≤ 0 by first | omega | decide) (show 0 + 0 ≤ 0 by first | omega | decide) (Nat.le_of_ble_eq_true rfl) (fun r385057 w385058 dc385054 ds385055 hp385056 => ?_) (fun _ _ _ _ _ z => z.elim)
                      obtain ⟨o385059, rfl, rfl, hdc, hds, bo385059⟩ := hp385056
                      change G _ _ _ _ _ _ _ (.int o385059 :: _) _ _ _
                      refine G_widen (cs' := 0) (sl' := 0) (by omega) (by omega) ?_
                      refine G_if_eq 138 dr_cX17_rename_120 (by decide +kernel) (fun hc385060 => ?_) (fun hc385060 => ?_)
                      · have r385061 : o385059.toInt = 0 := gj_eq hc385060 (show Int32.toInt 0 = 0 by decide)
                        have bo385059' : gB o385059 0 0 := gB_t0 r385061
                        obtain ⟨z385062, hz385062⟩ : ∃ z : Int32, z = g384866 + Int32.ofInt 1 := ⟨_, rfl⟩
                        have ez385062 : z385062.toInt = g384866.toInt + 1 := gI_inc hz385062 (by decide) bg384866' (by decide) (by decide)
                        have bz385062 : gB z385062 1 1000001 := ⟨by omega, by omega⟩
                        refine G_iinc (L' := [(5, .int z385062), (6, .ref q384029), (4, .ref q384019), (3, .int g383959), (0, .ref q360315), (1, .int p360316), (2, .int p360317)]) z385062 1 dr_cX17_rename_138 rfl hz385062.symm (Nat.le_of_ble_eq_true rfl) rfl ?_
                        refine G_goto 20 dr_cX17_rename_141 (by decide +kernel) ?_
                        refine G_lv (L' := [(5, .int z385062), (4, .ref q384019), (3, .int g383959), (0, .ref q360315), (1, .int p360316), (2, .int p360317)]) [0, 2, 3, 4, 5, 6] rfl ?_
                        exact ih20_384871 F384867 z385062 (gB_w bz385062 (by decide) (by decide)) hT384868 hs384869 x384870 x384871 (mz_up ez385062 (Int.le_trans bg384866'.2 (by decide)) hm20_384871)
                      · have r385063 : o385059.toInt ≠ 0 := gj_neq hc385060 (show Int32.toInt 0 = 0 by decide)
                        have bo385059' : gB o385059 1 1 := gB_t1 bo385059 r385063
                        refine G_aload 0 dr_cX17_rename_123 rfl ?_
                        refine Gp_get 1 hm384909 he384910 dr_cX17_rename_125 (gk_X15 D I) (Nat.le_of_ble_eq_true rfl) wr_9_178 rfl ?_
                        refine G_iload_n 5 dr_cX17_rename_128 rfl ?_
                        refine G_icmp_ne 138 dr_cX17_rename_129 (by decide +kernel) (fun hc385064 => ?_) (fun hc385064 => ?_)
                        · have r385065 : p384912.toInt ≠ p360316.toInt := gC_ne hc385064
                          obtain ⟨z385066, hz385066⟩ : ∃ z : Int32, z = g384866 + Int32.ofInt 1 := ⟨_, rfl⟩
                          have ez385066 : z385066.toInt = g384866.toInt + 1 := gI_inc hz385066 (by decide) bg384866' (by decide) (by decide)
                          have bz385066 : gB z385066 1 1000001 := ⟨by omega, by omega⟩
                          refine G_iinc (L' := [(5, .int z385066), (6, .ref q384029), (4, .ref q384019), (3, .int g383959), (0, .ref q360315), (1, .int p360316), (2, .int p360317)]) z385066 1 dr_cX17_rename_138 rfl hz385066.symm (Nat.le_of_ble_eq_true rfl) rfl ?_
                          refine G_goto 20 dr_cX17_rename_141 (by decide +kernel) ?_
                          refine G_lv (L' := [(5, .int z385066), (4, .ref q384019), (3, .int g383959), (0, .ref q360315), (1, .int p360316), (2, .int p360317)]) [0, 2, 3, 4, 5, 6] rfl ?_
                          exact ih20_384871 F384867 z385066 (gB_w bz385066 (by decide) (by decide)) hT384868 hs384869 x384870 x384871 (mz_up ez385066 (Int.le_trans bg384866'.2 (by decide)) hm20_384871)
                        · have r385067 : p384912.toInt = p360316.toInt := gC_eq hc385064
                          refine G_aload 0 dr_cX17_rename_132 rfl ?_
                          refine G_iload_n 6 dr_cX17_rename_134 rfl ?_
                          refine Gp_put 1 hm384909 he384910 dr_cX17_rename_135 (gk_X15 D I) (Nat.le_of_ble_eq_true rfl) wr_9_178 rfl rfl rfl (Nat.le_of_ble_eq_true rfl) (fun F385068 e385069 n385070 => ?_)
                          have he385071 : F385068 q360315 = .inr (18, [.ref q383970, .ref q383971, .int p383972, .int p383973]) := (n385070 q360315 (rn_oo he384874 he384910 (by decide))).trans he384874
                          have he385072 : F385068 q383970 = .inr (4, [.int p384000, .ref q384002, .int p384001]) := (n385070 q383970 (rn_oo he384875 he384910 (by decide))).trans he384875
                          have he385073 : F385068 q384002 = .inl (I (.object "java/lang/Object"), n384016, .inr (.inr (.inr (.inr f384017)))) := (n385070 q384002 (rn_ao he384876 he384910)).trans he384876
                          have he385074 : F385068 q384019 = .inr (17, [.ref q384028, .ref q384029, .int p384030, .int p384031]) := (n385070 q384019 (rn_oo he384877 he384910 (by decide))).trans he384877
                          have he385075 : F385068 q384028 = .inr (4, [.int p384881, .ref q384883, .int p384882]) := (n385070 q384028 (rn_oo he384880 he384910 (by decide))).trans he384880
                          have he385076 : F385068 q384029 = .inr (20, [.int p384911, .int p360317, .int p384913, .int p384914, .int p384915, .int p384916, .int p384917]) := e385069
                          have hs385077 : rStr γ [1] F360314 F385068 := rStr_pu2 hs384869 n385070 ht384034 (by decide)
                          have fk385078 : rFk [1] γ F360314 F385068 := rFk_put x384871 n385070 ht384034 (by decide)
                          obtain ⟨z385079, hz385079⟩ : ∃ z : Int32, z = g384866 + Int32.ofInt 1 := ⟨_, rfl⟩
                          have ez385079 : z385079.toInt = g384866.toInt + 1 := gI_inc hz385079 (by decide) bg384866' (by decide) (by decide)
                          have bz385079 : gB z385079 1 1000001 := ⟨by omega, by omega⟩
                          refine G_iinc (L' := [(5, .int z385079), (6, .ref q384029), (4, .ref q384019), (3, .int g383959), (0, .ref q360315), (1, .int p360316), (2, .int p360317)]) z385079 1 dr_cX17_rename_138 rfl hz385079.symm (Nat.le_of_ble_eq_true rfl) rfl ?_
                          refine G_goto 20 dr_cX17_rename_141 (by decide +kernel) ?_
                          have hT385080 : RS D I P360313 F385068 γ el := RS_set hT384868 n385070 ht384034 (by decide) ⟨p384911, p360317, p384913, p384914, p384915, p384916, p384917, he385076, bp384911, bp360317, bp384915, bp384916, bp384917, r384918, r384919, r384920, r384921, r384922⟩
                          refine G_lv (L' := [(5, .int z385079), (4, .ref q384019), (3, .int g383959), (0, .ref q360315), (1, .int p360316), (2, .int p360317)]) [0, 2, 3, 4, 5, 6] rfl ?_
                          exact ih20_384871 F385068 z385079 (gB_w bz385079 (by decide) (by decide)) hT385080 hs385077 (fun N hv hu hp => rPl_put hT384868 htq360315 rfl (x384870 N hv hu hp) n385070 hp384905 nb384908 hL384906 (fun _ _ _ _ z => z) (rNx_ren he384910 he385076 hu hv (Or.inl rfl) (Or.inl rfl) (Or.inr ⟨rfl, by first | assumption | omega⟩) (by rw [← hp384905]; exact x384870 N hv hu hp _ nb384908 _ hL384906))) fk385078 (mz_up ez385079 (Int.le_trans bg384866'.2 (by decide)) hm20_384871)
                    · have r385082 : o385050.toInt ≠ 0 := gj_neq hc385052 (show Int32.toInt 0 = 0 by decide)
                      have bo385050' : gB o385050 1 1 := gB_t1 bo385050 r385082
                      refine G_aload 0 dr_cX17_rename_100 rfl ?_
                      refine Gp_get 3 hm384909 he384910 dr_cX17_rename_102 (gk_X15 D I) (Nat.le_of_ble_eq_true rfl) wr_9_186 rfl ?_
                      refine G_iload_n 5 dr_cX17_rename_105 rfl ?_
                      refine G_icmp_ne 115 dr_cX17_rename_106 (by decide +kernel) (fun hc385083 => ?_) (fun hc385083 => ?_)
                      · have r385084 : p384914.toInt ≠ p360316.toInt := gC_ne hc385083
                        refine G_aload 0 dr_cX17_rename_115 rfl ?_
                        refine Gw_callV (As := []) (gV_ok D I) (cp_1654_Row_sets l hl0 D I P360313 F384867 q384029 p384911 p384912 p384913 p384914 p384915 p384916 p384917 hm384909 he384910 bp384911 bp384912 bp384915 bp384916 bp384917) dr_cX17_rename_117 ⟨wr_10_177, wr_1_39, wr_10_180, by decide, rfl, (Nat.le_of_ble_eq_true rfl), (Nat.le_of_ble_eq_true rfl)⟩ wr_10_178 wr_10_179 hm384909 he384910 rfl (show 0 + 0 ≤ 0 by first | omega | decide) (show 0 + 0 ≤ 0 by first | omega | decide) (Nat.le_of_ble_eq_true rfl) (fun r385088 w385089 dc385085 ds385086 hp385087 => ?_) (fun _ _ _ _ _ z => z.elim)
                        obtain ⟨o385090, rfl, rfl, hdc, hds, bo385090⟩ := hp385087
                        change G _ _ _ _ _ _ _ (.int o385090 :: _) _ _ _
                        refine G_widen (cs' := 0) (sl' := 0) (by omega) (by omega) ?_
                        refine G_if_eq 138 dr_cX17_rename_120 (by decide +kernel) (fun hc385091 => ?_) (fun hc385091 => ?_)
                        · have r385092 : o385090.toInt = 0 := gj_eq hc385091 (show Int32.toInt 0 = 0 by decide)
                          have bo385090' : gB o385090 0 0 := gB_t0 r385092
                          obtain ⟨z385093, hz385093⟩ : ∃ z : Int32, z = g384866 + Int32.ofInt 1 := ⟨_, rfl⟩
                          have ez385093 : z385093.toInt = g384866.toInt + 1 := gI_inc hz385093 (by decide) bg384866' (by decide) (by decide)
                          have bz385093 : gB z385093 1 1000001 := ⟨by omega, by omega⟩
                          refine G_iinc (L' := [(5, .int z385093), (6, .ref q384029), (4, .ref q384019), (3, .int g383959), (0, .ref q360315), (1, .int p360316), (2, .int p360317)]) z385093 1 dr_cX17_rename_138 rfl hz385093.symm (Nat.le_of_ble_eq_true rfl) rfl ?_
                          refine G_goto 20 dr_cX17_rename_141 (by decide +kernel) ?_
                          refine G_lv (L' := [(5, .int z385093), (4, .ref q384019), (3, .int g383959), (0, .ref q360315), (1, .int p360316), (2, .int p360317)]) [0, 2, 3, 4, 5, 6] rfl ?_
                          exact ih20_384871 F384867 z385093 (gB_w bz385093 (by decide) (by decide)) hT384868 hs384869 x384870 x384871 (mz_up ez385093 (Int.le_trans bg384866'.2 (by decide)) hm20_384871)
                        · have r385094 : o385090.toInt ≠ 0 := gj_neq hc385091 (show Int32.toInt 0 = 0 by decide)
                          have bo385090' : gB o385090 1 1 := gB_t1 bo385090 r385094
                          refine G_aload 0 dr_cX17_rename_123 rfl ?_
                          refine Gp_get 1 hm384909 he384910 dr_cX17_rename_125 (gk_X15 D I) (Nat.le_of_ble_eq_true rfl) wr_9_178 rfl ?_
                          refine G_iload_n 5 dr_cX17_rename_128 rfl ?_
                          refine G_icmp_ne 138 dr_cX17_rename_129 (by decide +kernel) (fun hc385095 => ?_) (fun hc385095 => ?_)
                          · have r385096 : p384912.toInt ≠ p360316.toInt := gC_ne hc385095
                            obtain ⟨z385097, hz385097⟩ : ∃ z : Int32, z = g384866 + Int32.ofInt 1 := ⟨_, rfl⟩
                            have ez385097 : z385097.toInt = g384866.toInt + 1 := gI_inc hz385097 (by decide) bg384866' (by decide) (by decide)
                            have bz385097 : gB z385097 1 1000001 := ⟨by omega, by omega⟩
                            refine G_iinc (L' := [(5, .int z385097), (6, .ref q384029), (4, .ref q384019), (3, .int g383959), (0, .ref q360315), (1, .int p360316), (2, .int p360317)]) z385097 1 dr_cX17_rename_138 rfl hz385097.symm (Nat.le_of_ble_eq_true rfl) rfl ?_
                            refine G_goto 20 dr_cX17_rename_141 (by decide +kernel) ?_
                            refine G_lv (L' := [(5, .int z385097), (4, .ref q384019), (3, .int g383959), (0, .ref q360315), (1, .int p360316), (2, .int p360317)]) [0, 2, 3, 4, 5, 6] rfl ?_
                            exact ih20_384871 F384867 z385097 (gB_w bz385097 (by decide) (by decide)) hT384868 hs384869 x384870 x384871 (mz_up ez385097 (Int.le_trans bg384866'.2 (by decide)) hm20_384871)
                          · have r385098 : p384912.toInt = p360316.toInt := gC_eq hc385095
                            refine G_aload 0 dr_cX17_rename_132 rfl ?_
                            refine G_iload_n 6 dr_cX17_rename_134 rfl ?_
                            refine Gp_put 1 hm384909 he384910 dr_cX17_rename_135 (gk_X15 D I) (Nat.le_of_ble_eq_true rfl) wr_9_178 rfl rfl rfl (Nat.le_of_ble_eq_true rfl) (fun F385099 e385100 n385101 => ?_)
                            have he385102 : F385099 q360315 = .inr (18, [.ref q383970, .ref q383971, .int p383972, .int p383973]) := (n385101 q360315 (rn_oo he384874 he384910 (by decide))).trans he384874
                            have he385103 : F385099 q383970 = .inr (4, [.int p384000, .ref q384002, .int p384001]) := (n385101 q383970 (rn_oo he384875 he384910 (by decide))).trans he384875
                            have he385104 : F385099 q384002 = .inl (I (.object "java/lang/Object"), n384016, .inr (.inr (.inr (.inr f384017)))) := (n385101 q384002 (rn_ao he384876 he384910)).trans he384876
                            have he385105 : F385099 q384019 = .inr (17, [.ref q384028, .ref q384029, .int p384030, .int p384031]) := (n385101 q384019 (rn_oo he384877 he384910 (by decide))).trans he384877
                            have he385106 : F385099 q384028 = .inr (4, [.int p384881, .ref q384883, .int p384882]) := (n385101 q384028 (rn_oo he384880 he384910 (by decide))).trans he384880
                            have he385107 : F385099 q384029 = .inr (20, [.int p384911, .int p360317, .int p384913, .int p384914, .int p384915, .int p384916, .int p384917]) := e385100
                            have hs385108 : rStr γ [1] F360314 F385099 := rStr_pu2 hs384869 n385101 ht384034 (by decide)
                            have fk385109 : rFk [1] γ F360314 F385099 := rFk_put x384871 n385101 ht384034 (by decide)
                            obtain ⟨z385110, hz385110⟩ : ∃ z : Int32, z = g384866 + Int32.ofInt 1 := ⟨_, rfl⟩
                            have ez385110 : z385110.toInt = g384866.toInt + 1 := gI_inc hz385110 (by decide) bg384866' (by decide) (by decide)
                            have bz385110 : gB z385110 1 1000001 := ⟨by omega, by omega⟩
                            refine G_iinc (L' := [(5, .int z385110), (6, .ref q384029), (4, .ref q384019), (3, .int g383959), (0, .ref q360315), (1, .int p360316), (2, .int p360317)]) z385110 1 dr_cX17_rename_138 rfl hz385110.symm (Nat.le_of_ble_eq_true rfl) rfl ?_
                            refine G_goto 20 dr_cX17_rename_141 (by decide +kernel) ?_
                            have hT385111 : RS D I P360313 F385099 γ el := RS_set hT384868 n385101 ht384034 (by decide) ⟨p384911, p360317, p384913, p384914, p384915, p384916, p384917, he385107, bp384911, bp360317, bp384915, bp384916, bp384917, r384918, r384919, r384920, r384921, r384922⟩
                            refine G_lv (L' := [(5, .int z385110), (4, .ref q384019), (3, .int g383959), (0, .ref q360315), (1, .int p360316), (2, .int p360317)]) [0, 2, 3, 4, 5, 6] rfl ?_
                            exact ih20_384871 F385099 z385110 (gB_w bz385110 (by decide) (by decide)) hT385111 hs385108 (fun N hv hu hp => rPl_put hT384868 htq360315 rfl (x384870 N hv hu hp) n385101 hp384905 nb384908 hL384906 (fun _ _ _ _ z => z) (rNx_ren he384910 he385107 hu hv (Or.inl rfl) (Or.inl rfl) (Or.inr ⟨rfl, by first | assumption | omega⟩) (by rw [← hp384905]; exact x384870 N hv hu hp _ nb384908 _ hL384906))) fk385109 (mz_up ez385110 (Int.le_trans bg384866'.2 (by decide)) hm20_384871)
                      · have r385113 : p384914.toInt = p360316.toInt := gC_eq hc385083
                        have bp384914' : gB p384914 0 1999 := ⟨by omega, by omega⟩
                        refine G_aload 0 dr_cX17_rename_109 rfl ?_
                        refine G_iload_n 6 dr_cX17_rename_111 rfl ?_
                        refine Gp_put 3 hm384909 he384910 dr_cX17_rename_112 (gk_X15 D I) (Nat.le_of_ble_eq_true rfl) wr_9_186 rfl rfl rfl (Nat.le_of_ble_eq_true rfl) (fun F385114 e385115 n385116 => ?_)
                        have he385117 : F385114 q360315 = .inr (18, [.ref q383970, .ref q383971, .int p383972, .int p383973]) := (n385116 q360315 (rn_oo he384874 he384910 (by decide))).trans he384874
                        have he385118 : F385114 q383970 = .inr (4, [.int p384000, .ref q384002, .int p384001]) := (n385116 q383970 (rn_oo he384875 he384910 (by decide))).trans he384875
                        have he385119 : F385114 q384002 = .inl (I (.object "java/lang/Object"), n384016, .inr (.inr (.inr (.inr f384017)))) := (n385116 q384002 (rn_ao he384876 he384910)).trans he384876
                        have he385120 : F385114 q384019 = .inr (17, [.ref q384028, .ref q384029, .int p384030, .int p384031]) := (n385116 q384019 (rn_oo he384877 he384910 (by decide))).trans he384877
                        have he385121 : F385114 q384028 = .inr (4, [.int p384881, .ref q384883, .int p384882]) := (n385116 q384028 (rn_oo he384880 he384910 (by decide))).trans he384880
                        have he385122 : F385114 q384029 = .inr (20, [.int p384911, .int p384912, .int p384913, .int p360317, .int p384915, .int p384916, .int p384917]) := e385115
                        have hs385123 : rStr γ [1] F360314 F385114 := rStr_pu2 hs384869 n385116 ht384034 (by decide)
                        have fk385124 : rFk [1] γ F360314 F385114 := rFk_put x384871 n385116 ht384034 (by decide)
                        refine G_aload 0 dr_cX17_rename_115 rfl ?_
                        have hT385125 : RS D I P360313 F385114 γ el := RS_set hT384868 n385116 ht384034 (by decide) ⟨p384911, p384912, p384913, p360317, p384915, p384916, p384917, he385122, bp384911, bp384912, bp384915, bp384916, bp384917, r384918, r384919, (Or.inr bp360317), r384921, r384922⟩
                        refine Gw_callV (As := []) (gV_ok D I) (cp_1654_Row_sets l hl0 D I P360313 F385114 q384029 p384911 p384912 p384913 p360317 p384915 p384916 p384917 hm384909 he385122 bp384911 bp384912 bp384915 bp384916 bp384917) dr_cX17_rename_117 ⟨wr_10_177, wr_1_39, wr_10_180, by decide, rfl, (Nat.le_of_ble_eq_true rfl), (Nat.le_of_ble_eq_true rfl)⟩ wr_10_178 wr_10_179 hm384909 he385122 rfl (show 0 + 0 ≤ 0 by first | omega | decide) (show 0 + 0 ≤ 0 by first | omega | decide) (Nat.le_of_ble_eq_true rfl) (fun r385130 w385131 dc385127 ds385128 hp385129 => ?_) (fun _ _ _ _ _ z => z.elim)
                        obtain ⟨o385132, rfl, rfl, hdc, hds, bo385132⟩ := hp385129
                        change G _ _ _ _ _ _ _ (.int o385132 :: _) _ _ _
                        refine G_widen (cs' := 0) (sl' := 0) (by omega) (by omega) ?_
                        refine G_if_eq 138 dr_cX17_rename_120 (by decide +kernel) (fun hc385133 => ?_) (fun hc385133 => ?_)
                        · have r385134 : o385132.toInt = 0 := gj_eq hc385133 (show Int32.toInt 0 = 0 by decide)
                          have bo385132' : gB o385132 0 0 := gB_t0 r385134
                          obtain ⟨z385135, hz385135⟩ : ∃ z : Int32, z = g384866 + Int32.ofInt 1 := ⟨_, rfl⟩
                          have ez385135 : z385135.toInt = g384866.toInt + 1 := gI_inc hz385135 (by decide) bg384866' (by decide) (by decide)
                          have bz385135 : gB z385135 1 1000001 := ⟨by omega, by omega⟩
                          refine G_iinc (L' := [(5, .int z385135), (6, .ref q384029), (4, .ref q384019), (3, .int g383959), (0, .ref q360315), (1, .int p360316), (2, .int p360317)]) z385135 1 dr_cX17_rename_138 rfl hz385135.symm (Nat.le_of_ble_eq_true rfl) rfl ?_
                          refine G_goto 20 dr_cX17_rename_141 (by decide +kernel) ?_
                          refine G_lv (L' := [(5, .int z385135), (4, .ref q384019), (3, .int g383959), (0, .ref q360315), (1, .int p360316), (2, .int p360317)]) [0, 2, 3, 4, 5, 6] rfl ?_
                          exact ih20_384871 F385114 z385135 (gB_w bz385135 (by decide) (by decide)) hT385125 hs385123 (fun N hv hu hp => rPl_put hT384868 htq360315 rfl (x384870 N hv hu hp) n385116 hp384905 nb384908 hL384906 (fun _ _ _ _ z => z) (rNx_ren he384910 he385122 hu hv (Or.inl rfl) (Or.inr rfl) (Or.inl rfl) (by rw [← hp384905]; exact x384870 N hv hu hp _ nb384908 _ hL384906))) fk385124 (mz_up ez385135 (Int.le_trans bg384866'.2 (by decide)) hm20_384871)
                        · have r385136 : o385132.toInt ≠ 0 := gj_neq hc385133 (show Int32.toInt 0 = 0 by decide)
                          have bo385132' : gB o385132 1 1 := gB_t1 bo385132 r385136
                          refine G_aload 0 dr_cX17_rename_123 rfl ?_
                          refine Gp_get 1 hm384909 he385122 dr_cX17_rename_125 (gk_X15 D I) (Nat.le_of_ble_eq_true rfl) wr_9_178 rfl ?_
                          refine G_iload_n 5 dr_cX17_rename_128 rfl ?_
                          refine G_icmp_ne 138 dr_cX17_rename_129 (by decide +kernel) (fun hc385137 => ?_) (fun hc385137 => ?_)
                          · have r385138 : p384912.toInt ≠ p360316.toInt := gC_ne hc385137
                            obtain ⟨z385139, hz385139⟩ : ∃ z : Int32, z = g384866 + Int32.ofInt 1 := ⟨_, rfl⟩
                            have ez385139 : z385139.toInt = g384866.toInt + 1 := gI_inc hz385139 (by decide) bg384866' (by decide) (by decide)
                            have bz385139 : gB z385139 1 1000001 := ⟨by omega, by omega⟩
                            refine G_iinc (L' := [(5, .int z385139), (6, .ref q384029), (4, .ref q384019), (3, .int g383959), (0, .ref q360315), (1, .int p360316), (2, .int p360317)]) z385139 1 dr_cX17_rename_138 rfl hz385139.symm (Nat.le_of_ble_eq_true rfl) rfl ?_
                            refine G_goto 20 dr_cX17_rename_141 (by decide +kernel) ?_
                            refine G_lv (L' := [(5, .int z385139), (4, .ref q384019), (3, .int g383959), (0, .ref q360315), (1, .int p360316), (2, .int p360317)]) [0, 2, 3, 4, 5, 6] rfl ?_
                            exact ih20_384871 F385114 z385139 (gB_w bz385139 (by decide) (by decide)) hT385125 hs385123 (fun N hv hu hp => rPl_put hT384868 htq360315 rfl (x384870 N hv hu hp) n385116 hp384905 nb384908 hL384906 (fun _ _ _ _ z => z) (rNx_ren he384910 he385122 hu hv (Or.inl rfl) (Or.inr rfl) (Or.inl rfl) (by rw [← hp384905]; exact x384870 N hv hu hp _ nb384908 _ hL384906))) fk385124 (mz_up ez385139 (Int.le_trans bg384866'.2 (by decide)) hm20_384871)
                          · have r385140 : p384912.toInt = p360316.toInt := gC_eq hc385137
                            refine G_aload 0 dr_cX17_rename_132 rfl ?_
                            refine G_iload_n 6 dr_cX17_rename_134 rfl ?_
                            refine Gp_put 1 hm384909 he385122 dr_cX17_rename_135 (gk_X15 D I) (Nat.le_of_ble_eq_true rfl) wr_9_178 rfl rfl rfl (Nat.le_of_ble_eq_true rfl) (fun F385141 e385142 n385143 => ?_)
                            have he385144 : F385141 q360315 = .inr (18, [.ref q383970, .ref q383971, .int p383972, .int p383973]) := (n385143 q360315 (rn_oo he385117 he385122 (by decide))).trans he385117
                            have he385145 : F385141 q383970 = .inr (4, [.int p384000, .ref q384002, .int p384001]) := (n385143 q383970 (rn_oo he385118 he385122 (by decide))).trans he385118
                            have he385146 : F385141 q384002 = .inl (I (.object "java/lang/Object"), n384016, .inr (.inr (.inr (.inr f384017)))) := (n385143 q384002 (rn_ao he385119 he385122)).trans he385119
                            have he385147 : F385141 q384019 = .inr (17, [.ref q384028, .ref q384029, .int p384030, .int p384031]) := (n385143 q384019 (rn_oo he385120 he385122 (by decide))).trans he385120
                            have he385148 : F385141 q384028 = .inr (4, [.int p384881, .ref q384883, .int p384882]) := (n385143 q384028 (rn_oo he385121 he385122 (by decide))).trans he385121
                            have he385149 : F385141 q384029 = .inr (20, [.int p384911, .int p360317, .int p384913, .int p360317, .int p384915, .int p384916, .int p384917]) := e385142
                            have hs385150 : rStr γ [1] F360314 F385141 := rStr_pu2 hs385123 n385143 ht384034 (by decide)
                            have fk385151 : rFk [1] γ F360314 F385141 := rFk_put fk385124 n385143 ht384034 (by decide)
                            obtain ⟨z385152, hz385152⟩ : ∃ z : Int32, z = g384866 + Int32.ofInt 1 := ⟨_, rfl⟩
                            have ez385152 : z385152.toInt = g384866.toInt + 1 := gI_inc hz385152 (by decide) bg384866' (by decide) (by decide)
                            have bz385152 : gB z385152 1 1000001 := ⟨by omega, by omega⟩
                            refine G_iinc (L' := [(5, .int z385152), (6, .ref q384029), (4, .ref q384019), (3, .int g383959), (0, .ref q360315), (1, .int p360316), (2, .int p360317)]) z385152 1 dr_cX17_rename_138 rfl hz385152.symm (Nat.le_of_ble_eq_true rfl) rfl ?_
                            refine G_goto 20 dr_cX17_rename_141 (by decide +kernel) ?_
                            have hT385153 : RS D I P360313 F385141 γ el := RS_set hT385125 n385143 ht384034 (by decide) ⟨p384911, p360317, p384913, p360317, p384915, p384916, p384917, he385149, bp384911, bp360317, bp384915, bp384916, bp384917, r384918, r384919, (Or.inr bp360317), r384921, r384922⟩
                            have of385154 : ∀ b, b ≠ q384029 → F385141 b = F384867 b := fun b hb => (n385143 b hb).trans (n385116 b hb)
                            refine G_lv (L' := [(5, .int z385152), (4, .ref q384019), (3, .int g383959), (0, .ref q360315), (1, .int p360316), (2, .int p360317)]) [0, 2, 3, 4, 5, 6] rfl ?_
                            exact ih20_384871 F385141 z385152 (gB_w bz385152 (by decide) (by decide)) hT385153 hs385150 (fun N hv hu hp => rPl_put hT384868 htq360315 rfl (x384870 N hv hu hp) of385154 hp384905 nb384908 hL384906 (fun _ _ _ _ z => z) (rNx_ren he384910 he385149 hu hv (Or.inl rfl) (Or.inr rfl) (Or.inr ⟨rfl, by first | assumption | omega⟩) (by rw [← hp384905]; exact x384870 N hv hu hp _ nb384908 _ hL384906))) fk385151 (mz_up ez385152 (Int.le_trans bg384866'.2 (by decide)) hm20_384871)
                  · have r385155 : p384913.toInt = p360316.toInt := gC_eq hc385043
                    have bp384913' : gB p384913 0 1999 := ⟨by omega, by omega⟩
                    refine G_aload 0 dr_cX17_rename_86 rfl ?_
                    refine G_iload_n 6 dr_cX17_rename_88 rfl ?_
                    refine Gp_put 2 hm384909 he384910 dr_cX17_rename_89 (gk_X15 D I) (Nat.le_of_ble_eq_true rfl) wr_9_182 rfl rfl rfl (Nat.le_of_ble_eq_true rfl) (fun F385156 e385157 n385158 => ?_)
                    have he385159 : F385156 q360315 = .inr (18, [.ref q383970, .ref q383971, .int p383972, .int p383973]) := (n385158 q360315 (rn_oo he384874 he384910 (by decide))).trans he384874
                    have he385160 : F385156 q383970 = .inr (4, [.int p384000, .ref q384002, .int p384001]) := (n385158 q383970 (rn_oo he384875 he384910 (by decide))).trans he384875
                    have he385161 : F385156 q384002 = .inl (I (.object "java/lang/Object"), n384016, .inr (.inr (.inr (.inr f384017)))) := (n385158 q384002 (rn_ao he384876 he384910)).trans he384876
                    have he385162 : F385156 q384019 = .inr (17, [.ref q384028, .ref q384029, .int p384030, .int p384031]) := (n385158 q384019 (rn_oo he384877 he384910 (by decide))).trans he384877
                    have he385163 : F385156 q384028 = .inr (4, [.int p384881, .ref q384883, .int p384882]) := (n385158 q384028 (rn_oo he384880 he384910 (by decide))).trans he384880
                    have he385164 : F385156 q384029 = .inr (20, [.int p384911, .int p384912, .int p360317, .int p384914, .int p384915, .int p384916, .int p384917]) := e385157
                    have hs385165 : rStr γ [1] F360314 F385156 := rStr_pu2 hs384869 n385158 ht384034 (by decide)
                    have fk385166 : rFk [1] γ F360314 F385156 := rFk_put x384871 n385158 ht384034 (by decide)
                    refine G_aload 0 dr_cX17_rename_92 rfl ?_
                    have hT385167 : RS D I P360313 F385156 γ el := RS_set hT384868 n385158 ht384034 (by decide) ⟨p384911, p384912, p360317, p384914, p384915, p384916, p384917, he385164, bp384911, bp384912, bp384915, bp384916, bp384917, r384918, (Or.inr bp360317), r384920, r384921, r384922⟩
                    refine Gw_callV (As := []) (gV_ok D I) (cp_1693_Row_usesB l hl0 D I P360313 F385156 q384029 p384911 p384912 p360317 p384914 p384915 p384916 p384917 hm384909 he385164 bp384911 bp384912 bp384915 bp384916 bp384917) dr_cX17_rename_94 ⟨wr_10_192, wr_1_39, wr_10_195, by decide, rfl, (Nat.le_of_ble_eq_true rfl), (Nat.le_of_ble_eq_true rfl)⟩ wr_10_193 wr_10_194 hm384909 he385164 rfl (show 0 + 0 ≤ 0 by first | omega | decide) (show 0 + 0 ≤ 0 by first | omega | decide) (Nat.le_of_ble_eq_true rfl) (fun r385172 w385173 dc385169 ds385170 hp385171 => ?_) (fun _ _ _ _ _ z => z.elim)
                    obtain ⟨o385174, rfl, rfl, hdc, hds, bo385174, x385175⟩ := hp385171
                    change G _ _ _ _ _ _ _ (.int o385174 :: _) _ _ _
                    refine G_widen (cs' := 0) (sl' := 0) (by omega) (by omega) ?_
                    refine G_if_eq 115 dr_cX17_rename_97 (by decide +kernel) (fun hc385176 => ?_) (fun hc385176 => ?_)
                    · have r385177 : o385174.toInt = 0 := gj_eq hc385176 (show Int32.toInt 0 = 0 by decide)
                      have bo385174' : gB o385174 0 0 := gB_t0 r385177
                      refine G_aload 0 dr_cX17_rename_115 rfl ?_
                      refine Gw_callV (As := []) (gV_ok D I) (cp_1654_Row_sets l hl0 D I P360313 F385156 q384029 p384911 p384912 p360317 p384914 p384915 p384916 p384917 hm384909 he385164 bp384911 bp384912 bp384915 bp384916 bp384917) dr_cX17_rename_117 ⟨wr_10_177, wr_1_39, wr_10_180, by decide, rfl, (Nat.le_of_ble_eq_true rfl), (Nat.le_of_ble_eq_true rfl)⟩ wr_10_178 wr_10_179 hm384909 he385164 rfl (show 0 + 0 ≤ 0 by first | omega | decide) (show 0 + 0 ≤ 0 by first | omega | decide) (Nat.le_of_ble_eq_true rfl) (fun r385181 w385182 dc385178 ds385179 hp385180 => ?_) (fun _ _ _ _ _ z => z.elim)
                      obtain ⟨o385183, rfl, rfl, hdc, hds, bo385183⟩ := hp385180
                      change G _ _ _ _ _ _ _ (.int o385183 :: _) _ _ _
                      refine G_widen (cs' := 0) (sl' := 0) (by omega) (by omega) ?_
                      refine G_if_eq 138 dr_cX17_rename_120 (by decide +kernel) (fun hc385184 => ?_) (fun hc385184 => ?_)
                      · have r385185 : o385183.toInt = 0 := gj_eq hc385184 (show Int32.toInt 0 = 0 by decide)
                        have bo385183' : gB o385183 0 0 := gB_t0 r385185
                        obtain ⟨z385186, hz385186⟩ : ∃ z : Int32, z = g384866 + Int32.ofInt 1 := ⟨_, rfl⟩
                        have ez385186 : z385186.toInt = g384866.toInt + 1 := gI_inc hz385186 (by decide) bg384866' (by decide) (by decide)
                        have bz385186 : gB z385186 1 1000001 := ⟨by omega, by omega⟩
                        refine G_iinc (L' := [(5, .int z385186), (6, .ref q384029), (4, .ref q384019), (3, .int g383959), (0, .ref q360315), (1, .int p360316), (2, .int p360317)]) z385186 1 dr_cX17_rename_138 rfl hz385186.symm (Nat.le_of_ble_eq_true rfl) rfl ?_
                        refine G_goto 20 dr_cX17_rename_141 (by decide +kernel) ?_
                        refine G_lv (L' := [(5, .int z385186), (4, .ref q384019), (3, .int g383959), (0, .ref q360315), (1, .int p360316), (2, .int p360317)]) [0, 2, 3, 4, 5, 6] rfl ?_
                        exact ih20_384871 F385156 z385186 (gB_w bz385186 (by decide) (by decide)) hT385167 hs385165 (fun N hv hu hp => rPl_put hT384868 htq360315 rfl (x384870 N hv hu hp) n385158 hp384905 nb384908 hL384906 (fun _ _ _ _ z => z) (rNx_ren he384910 he385164 hu hv (Or.inr rfl) (Or.inl rfl) (Or.inl rfl) (by rw [← hp384905]; exact x384870 N hv hu hp _ nb384908 _ hL384906))) fk385166 (mz_up ez385186 (Int.le_trans bg384866'.2 (by decide)) hm20_384871)
                      · have r385187 : o385183.toInt ≠ 0 := gj_neq hc385184 (show Int32.toInt 0 = 0 by decide)
                        have bo385183' : gB o385183 1 1 := gB_t1 bo385183 r385187
                        refine G_aload 0 dr_cX17_rename_123 rfl ?_
                        refine Gp_get 1 hm384909 he385164 dr_cX17_rename_125 (gk_X15 D I) (Nat.le_of_ble_eq_true rfl) wr_9_178 rfl ?_
                        refine G_iload_n 5 dr_cX17_rename_128 rfl ?_
                        refine G_icmp_ne 138 dr_cX17_rename_129 (by decide +kernel) (fun hc385188 => ?_) (fun hc385188 => ?_)
                        · have r385189 : p384912.toInt ≠ p360316.toInt := gC_ne hc385188
                          obtain ⟨z385190, hz385190⟩ : ∃ z : Int32, z = g384866 + Int32.ofInt 1 := ⟨_, rfl⟩
                          have ez385190 : z385190.toInt = g384866.toInt + 1 := gI_inc hz385190 (by decide) bg384866' (by decide) (by decide)
                          have bz385190 : gB z385190 1 1000001 := ⟨by omega, by omega⟩
                          refine G_iinc (L' := [(5, .int z385190), (6, .ref q384029), (4, .ref q384019), (3, .int g383959), (0, .ref q360315), (1, .int p360316), (2, .int p360317)]) z385190 1 dr_cX17_rename_138 rfl hz385190.symm (Nat.le_of_ble_eq_true rfl) rfl ?_
                          refine G_goto 20 dr_cX17_rename_141 (by decide +kernel) ?_
                          refine G_lv (L' := [(5, .int z385190), (4, .ref q384019), (3, .int g383959), (0, .ref q360315), (1, .int p360316), (2, .int p360317)]) [0, 2, 3, 4, 5, 6] rfl ?_
                          exact ih20_384871 F385156 z385190 (gB_w bz385190 (by decide) (by decide)) hT385167 hs385165 (fun N hv hu hp => rPl_put hT384868 htq360315 rfl (x384870 N hv hu hp) n385158 hp384905 nb384908 hL384906 (fun _ _ _ _ z => z) (rNx_ren he384910 he385164 hu hv (Or.inr rfl) (Or.inl rfl) (Or.inl rfl) (by rw [← hp384905]; exact x384870 N hv hu hp _ nb384908 _ hL384906))) fk385166 (mz_up ez385190 (Int.le_trans bg384866'.2 (by decide)) hm20_384871)
                        · have r385191 : p384912.toInt = p360316.toInt := gC_eq hc385188
                          refine G_aload 0 dr_cX17_rename_132 rfl ?_
                          refine G_iload_n 6 dr_cX17_rename_134 rfl ?_
                          refine Gp_put 1 hm384909 he385164 dr_cX17_rename_135 (gk_X15 D I) (Nat.le_of_ble_eq_true rfl) wr_9_178 rfl rfl rfl (Nat.le_of_ble_eq_true rfl) (fun F385192 e385193 n385194 => ?_)
                          have he385195 : F385192 q360315 = .inr (18, [.ref q383970, .ref q383971, .int p383972, .int p383973]) := (n385194 q360315 (rn_oo he385159 he385164 (by decide))).trans he385159
                          have he385196 : F385192 q383970 = .inr (4, [.int p384000, .ref q384002, .int p384001]) := (n385194 q383970 (rn_oo he385160 he385164 (by decide))).trans he385160
                          have he385197 : F385192 q384002 = .inl (I (.object "java/lang/Object"), n384016, .inr (.inr (.inr (.inr f384017)))) := (n385194 q384002 (rn_ao he385161 he385164)).trans he385161
                          have he385198 : F385192 q384019 = .inr (17, [.ref q384028, .ref q384029, .int p384030, .int p384031]) := (n385194 q384019 (rn_oo he385162 he385164 (by decide))).trans he385162
                          have he385199 : F385192 q384028 = .inr (4, [.int p384881, .ref q384883, .int p384882]) := (n385194 q384028 (rn_oo he385163 he385164 (by decide))).trans he385163
                          have he385200 : F385192 q384029 = .inr (20, [.int p384911, .int p360317, .int p360317, .int p384914, .int p384915, .int p384916, .int p384917]) := e385193
                          have hs385201 : rStr γ [1] F360314 F385192 := rStr_pu2 hs385165 n385194 ht384034 (by decide)
                          have fk385202 : rFk [1] γ F360314 F385192 := rFk_put fk385166 n385194 ht384034 (by decide)
                          obtain ⟨z385203, hz385203⟩ : ∃ z : Int32, z = g384866 + Int32.ofInt 1 := ⟨_, rfl⟩
                          have ez385203 : z385203.toInt = g384866.toInt + 1 := gI_inc hz385203 (by decide) bg384866' (by decide) (by decide)
                          have bz385203 : gB z385203 1 1000001 := ⟨by omega, by omega⟩
                          refine G_iinc (L' := [(5, .int z385203), (6, .ref q384029), (4, .ref q384019), (3, .int g383959), (0, .ref q360315), (1, .int p360316), (2, .int p360317)]) z385203 1 dr_cX17_rename_138 rfl hz385203.symm (Nat.le_of_ble_eq_true rfl) rfl ?_
                          refine G_goto 20 dr_cX17_rename_141 (by decide +kernel) ?_
                          have hT385204 : RS D I P360313 F385192 γ el := RS_set hT385167 n385194 ht384034 (by decide) ⟨p384911, p360317, p360317, p384914, p384915, p384916, p384917, he385200, bp384911, bp360317, bp384915, bp384916, bp384917, r384918, (Or.inr bp360317), r384920, r384921, r384922⟩
                          have of385205 : ∀ b, b ≠ q384029 → F385192 b = F384867 b := fun b hb => (n385194 b hb).trans (n385158 b hb)
                          refine G_lv (L' := [(5, .int z385203), (4, .ref q384019), (3, .int g383959), (0, .ref q360315), (1, .int p360316), (2, .int p360317)]) [0, 2, 3, 4, 5, 6] rfl ?_
                          exact ih20_384871 F385192 z385203 (gB_w bz385203 (by decide) (by decide)) hT385204 hs385201 (fun N hv hu hp => rPl_put hT384868 htq360315 rfl (x384870 N hv hu hp) of385205 hp384905 nb384908 hL384906 (fun _ _ _ _ z => z) (rNx_ren he384910 he385200 hu hv (Or.inr rfl) (Or.inl rfl) (Or.inr ⟨rfl, by first | assumption | omega⟩) (by rw [← hp384905]; exact x384870 N hv hu hp _ nb384908 _ hL384906))) fk385202 (mz_up ez385203 (Int.le_trans bg384866'.2 (by decide)) hm20_384871)
                    · have r385206 : o385174.toInt ≠ 0 := gj_neq hc385176 (show Int32.toInt 0 = 0 by decide)
                      have bo385174' : gB o385174 1 1 := gB_t1 bo385174 r385206
                      refine G_aload 0 dr_cX17_rename_100 rfl ?_
                      refine Gp_get 3 hm384909 he385164 dr_cX17_rename_102 (gk_X15 D I) (Nat.le_of_ble_eq_true rfl) wr_9_186 rfl ?_
                      refine G_iload_n 5 dr_cX17_rename_105 rfl ?_
                      refine G_icmp_ne 115 dr_cX17_rename_106 (by decide +kernel) (fun hc385207 => ?_) (fun hc385207 => ?_)
                      · have r385208 : p384914.toInt ≠ p360316.toInt := gC_ne hc385207
                        refine G_aload 0 dr_cX17_rename_115 rfl ?_
                        refine Gw_callV (As := []) (gV_ok D I) (cp_1654_Row_sets l hl0 D I P360313 F385156 q384029 p384911 p384912 p360317 p384914 p384915 p384916 p384917 hm384909 he385164 bp384911 bp384912 bp384915 bp384916 bp384917) dr_cX17_rename_117 ⟨wr_10_177, wr_1_39, wr_10_180, by decide, rfl, (Nat.le_of_ble_eq_true rfl), (Nat.le_of_ble_eq_true rfl)⟩ wr_10_178 wr_10_179 hm384909 he385164 rfl (show 0 + 0 ≤ 0 by first | omega | decide) (show 0 + 0 ≤ 0 by first | omega | decide) (Nat.le_of_ble_eq_true rfl) (fun r385212 w385213 dc385209 ds385210 hp385211 => ?_) (fun _ _ _ _ _ z => z.elim)
                        obtain ⟨o385214, rfl, rfl, hdc, hds, bo385214⟩ := hp385211
                        change G _ _ _ _ _ _ _ (.int o385214 :: _) _ _ _
                        refine G_widen (cs' := 0) (sl' := 0) (by omega) (by omega) ?_
                        refine G_if_eq 138 dr_cX17_rename_120 (by decide +kernel) (fun hc385215 => ?_) (fun hc385215 => ?_)
                        · have r385216 : o385214.toInt = 0 := gj_eq hc385215 (show Int32.toInt 0 = 0 by decide)
                          have bo385214' : gB o385214 0 0 := gB_t0 r385216
                          obtain ⟨z385217, hz385217⟩ : ∃ z : Int32, z = g384866 + Int32.ofInt 1 := ⟨_, rfl⟩
                          have ez385217 : z385217.toInt = g384866.toInt + 1 := gI_inc hz385217 (by decide) bg384866' (by decide) (by decide)
                          have bz385217 : gB z385217 1 1000001 := ⟨by omega, by omega⟩
                          refine G_iinc (L' := [(5, .int z385217), (6, .ref q384029), (4, .ref q384019), (3, .int g383959), (0, .ref q360315), (1, .int p360316), (2, .int p360317)]) z385217 1 dr_cX17_rename_138 rfl hz385217.symm (Nat.le_of_ble_eq_true rfl) rfl ?_
                          refine G_goto 20 dr_cX17_rename_141 (by decide +kernel) ?_
                          refine G_lv (L' := [(5, .int z385217), (4, .ref q384019), (3, .int g383959), (0, .ref q360315), (1, .int p360316), (2, .int p360317)]) [0, 2, 3, 4, 5, 6] rfl ?_
                          exact ih20_384871 F385156 z385217 (gB_w bz385217 (by decide) (by decide)) hT385167 hs385165 (fun N hv hu hp => rPl_put hT384868 htq360315 rfl (x384870 N hv hu hp) n385158 hp384905 nb384908 hL384906 (fun _ _ _ _ z => z) (rNx_ren he384910 he385164 hu hv (Or.inr rfl) (Or.inl rfl) (Or.inl rfl) (by rw [← hp384905]; exact x384870 N hv hu hp _ nb384908 _ hL384906))) fk385166 (mz_up ez385217 (Int.le_trans bg384866'.2 (by decide)) hm20_384871)
                        · have r385218 : o385214.toInt ≠ 0 := gj_neq hc385215 (show Int32.toInt 0 = 0 by decide)
                          have bo385214' : gB o385214 1 1 := gB_t1 bo385214 r385218
                          refine G_aload 0 dr_cX17_rename_123 rfl ?_
                          refine Gp_get 1 hm384909 he385164 dr_cX17_rename_125 (gk_X15 D I) (Nat.le_of_ble_eq_true rfl) wr_9_178 rfl ?_
                          refine G_iload_n 5 dr_cX17_rename_128 rfl ?_
                          refine G_icmp_ne 138 dr_cX17_rename_129 (by decide +kernel) (fun hc385219 => ?_) (fun hc385219 => ?_)
                          · have r385220 : p384912.toInt ≠ p360316.toInt := gC_ne hc385219
                            obtain ⟨z385221, hz385221⟩ : ∃ z : Int32, z = g384866 + Int32.ofInt 1 := ⟨_, rfl⟩
                            have ez385221 : z385221.toInt = g384866.toInt + 1 := gI_inc hz385221 (by decide) bg384866' (by decide) (by decide)
                            have bz385221 : gB z385221 1 1000001 := ⟨by omega, by omega⟩
                            refine G_iinc (L' := [(5, .int z385221), (6, .ref q384029), (4, .ref q384019), (3, .int g383959), (0, .ref q360315), (1, .int p360316), (2, .int p360317)]) z385221 1 dr_cX17_rename_138 rfl hz385221.symm (Nat.le_of_ble_eq_true rfl) rfl ?_
                            refine G_goto 20 dr_cX17_rename_141 (by decide +kernel) ?_
                            refine G_lv (L' := [(5, .int z385221), (4, .ref q384019), (3, .int g383959), (0, .ref q360315), (1, .int p360316), (2, .int p360317)]) [0, 2, 3, 4, 5, 6] rfl ?_
                            exact ih20_384871 F385156 z385221 (gB_w bz385221 (by decide) (by decide)) hT385167 hs385165 (fun N hv hu hp => rPl_put hT384868 htq360315 rfl (x384870 N hv hu hp) n385158 hp384905 nb384908 hL384906 (fun _ _ _ _ z => z) (rNx_ren he384910 he385164 hu hv (Or.inr rfl) (Or.inl rfl) (Or.inl rfl) (by rw [← hp384905]; exact x384870 N hv hu hp _ nb384908 _ hL384906))) fk385166 (mz_up ez385221 (Int.le_trans bg384866'.2 (by decide)) hm20_384871)
                          · have r385222 : p384912.toInt = p360316.toInt := gC_eq hc385219
                            refine G_aload 0 dr_cX17_rename_132 rfl ?_
                            refine G_iload_n 6 dr_cX17_rename_134 rfl ?_
                            refine Gp_put 1 hm384909 he385164 dr_cX17_rename_135 (gk_X15 D I) (Nat.le_of_ble_eq_true rfl) wr_9_178 rfl rfl rfl (Nat.le_of_ble_eq_true rfl) (fun F385223 e385224 n385225 => ?_)
                            have he385226 : F385223 q360315 = .inr (18, [.ref q383970, .ref q383971, .int p383972, .int p383973]) := (n385225 q360315 (rn_oo he385159 he385164 (by decide))).trans he385159
                            have he385227 : F385223 q383970 = .inr (4, [.int p384000, .ref q384002, .int p384001]) := (n385225 q383970 (rn_oo he385160 he385164 (by decide))).trans he385160
                            have he385228 : F385223 q384002 = .inl (I (.object "java/lang/Object"), n384016, .inr (.inr (.inr (.inr f384017)))) := (n385225 q384002 (rn_ao he385161 he385164)).trans he385161
                            have he385229 : F385223 q384019 = .inr (17, [.ref q384028, .ref q384029, .int p384030, .int p384031]) := (n385225 q384019 (rn_oo he385162 he385164 (by decide))).trans he385162
                            have he385230 : F385223 q384028 = .inr (4, [.int p384881, .ref q384883, .int p384882]) := (n385225 q384028 (rn_oo he385163 he385164 (by decide))).trans he385163
                            have he385231 : F385223 q384029 = .inr (20, [.int p384911, .int p360317, .int p360317, .int p384914, .int p384915, .int p384916, .int p384917]) := e385224
                            have hs385232 : rStr γ [1] F360314 F385223 := rStr_pu2 hs385165 n385225 ht384034 (by decide)
                            have fk385233 : rFk [1] γ F360314 F385223 := rFk_put fk385166 n385225 ht384034 (by decide)
                            obtain ⟨z385234, hz385234⟩ : ∃ z : Int32, z = g384866 + Int32.ofInt 1 := ⟨_, rfl⟩
                            have ez385234 : z385234.toInt = g384866.toInt + 1 := gI_inc hz385234 (by decide) bg384866' (by decide) (by decide)
                            have bz385234 : gB z385234 1 1000001 := ⟨by omega, by omega⟩
                            refine G_iinc (L' := [(5, .int z385234), (6, .ref q384029), (4, .ref q384019), (3, .int g383959), (0, .ref q360315), (1, .int p360316), (2, .int p360317)]) z385234 1 dr_cX17_rename_138 rfl hz385234.symm (Nat.le_of_ble_eq_true rfl) rfl ?_
                            refine G_goto 20 dr_cX17_rename_141 (by decide +kernel) ?_
                            have hT385235 : RS D I P360313 F385223 γ el := RS_set hT385167 n385225 ht384034 (by decide) ⟨p384911, p360317, p360317, p384914, p384915, p384916, p384917, he385231, bp384911, bp360317, bp384915, bp384916, bp384917, r384918, (Or.inr bp360317), r384920, r384921, r384922⟩
                            have of385236 : ∀ b, b ≠ q384029 → F385223 b = F384867 b := fun b hb => (n385225 b hb).trans (n385158 b hb)
                            refine G_lv (L' := [(5, .int z385234), (4, .ref q384019), (3, .int g383959), (0, .ref q360315), (1, .int p360316), (2, .int p360317)]) [0, 2, 3, 4, 5, 6] rfl ?_
                            exact ih20_384871 F385223 z385234 (gB_w bz385234 (by decide) (by decide)) hT385235 hs385232 (fun N hv hu hp => rPl_put hT384868 htq360315 rfl (x384870 N hv hu hp) of385236 hp384905 nb384908 hL384906 (fun _ _ _ _ z => z) (rNx_ren he384910 he385231 hu hv (Or.inr rfl) (Or.inl rfl) (Or.inr ⟨rfl, by first | assumption | omega⟩) (by rw [← hp384905]; exact x384870 N hv hu hp _ nb384908 _ hL384906))) fk385233 (mz_up ez385234 (Int.le_trans bg384866'.2 (by decide)) hm20_384871)
                      · have r385237 : p384914.toInt = p360316.toInt := gC_eq hc385207
                        have bp384914' : gB p384914 0 1999 := ⟨by omega, by omega⟩
                        refine G_aload 0 dr_cX17_rename_109 rfl ?_
                        refine G_iload_n 6 dr_cX17_rename_111 rfl ?_
                        refine Gp_put 3 hm384909 he385164 dr_cX17_rename_112 (gk_X15 D I) (Nat.le_of_ble_eq_true rfl) wr_9_186 rfl rfl rfl (Nat.le_of_ble_eq_true rfl) (fun F385238 e385239 n385240 => ?_)
                        have he385241 : F385238 q360315 = .inr (18, [.ref q383970, .ref q383971, .int p383972, .int p383973]) := (n385240 q360315 (rn_oo he385159 he385164 (by decide))).trans he385159
                        have he385242 : F385238 q383970 = .inr (4, [.int p384000, .ref q384002, .int p384001]) := (n385240 q383970 (rn_oo he385160 he385164 (by decide))).trans he385160
                        have he385243 : F385238 q384002 = .inl (I (.object "java/lang/Object"), n384016, .inr (.inr (.inr (.inr f384017)))) := (n385240 q384002 (rn_ao he385161 he385164)).trans he385161
                        have he385244 : F385238 q384019 = .inr (17, [.ref q384028, .ref q384029, .int p384030, .int p384031]) := (n385240 q384019 (rn_oo he385162 he385164 (by decide))).trans he385162
                        have he385245 : F385238 q384028 = .inr (4, [.int p384881, .ref q384883, .int p384882]) := (n385240 q384028 (rn_oo he385163 he385164 (by decide))).trans he385163
                        have he385246 : F385238 q384029 = .inr (20, [.int p384911, .int p384912, .int p360317, .int p360317, .int p384915, .int p384916, .int p384917]) := e385239
                        have hs385247 : rStr γ [1] F360314 F385238 := rStr_pu2 hs385165 n385240 ht384034 (by decide)
                        have fk385248 : rFk [1] γ F360314 F385238 := rFk_put fk385166 n385240 ht384034 (by decide)
                        refine G_aload 0 dr_cX17_rename_115 rfl ?_
                        have hT385249 : RS D I P360313 F385238 γ el := RS_set hT385167 n385240 ht384034 (by decide) ⟨p384911, p384912, p360317, p360317, p384915, p384916, p384917, he385246, bp384911, bp384912, bp384915, bp384916, bp384917, r384918, (Or.inr bp360317), (Or.inr bp360317), r384921, r384922⟩
                        have of385250 : ∀ b, b ≠ q384029 → F385238 b = F384867 b := fun b hb => (n385240 b hb).trans (n385158 b hb)
                        refine Gw_callV (As := []) (gV_ok D I) (cp_1654_Row_sets l hl0 D I P360313 F385238 q384029 p384911 p384912 p360317 p360317 p384915 p384916 p384917 hm384909 he385246 bp384911 bp384912 bp384915 bp384916 bp384917) dr_cX17_rename_117 ⟨wr_10_177, wr_1_39, wr_10_180, by decide, rfl, (Nat.le_of_ble_eq_true rfl), (Nat.le_of_ble_eq_true rfl)⟩ wr_10_178 wr_10_179 hm384909 he385246 rfl (show 0 + 0 ≤ 0 by first | omega | decide) (show 0 + 0 ≤ 0 by first | omega | decide) (Nat.le_of_ble_eq_true rfl) (fun r385254 w385255 dc385251 ds385252 hp385253 => ?_) (fun _ _ _ _ _ z => z.elim)
                        obtain ⟨o385256, rfl, rfl, hdc, hds, bo385256⟩ := hp385253
                        change G _ _ _ _ _ _ _ (.int o385256 :: _) _ _ _
                        refine G_widen (cs' := 0) (sl' := 0) (by omega) (by omega) ?_
                        refine G_if_eq 138 dr_cX17_rename_120 (by decide +kernel) (fun hc385257 => ?_) (fun hc385257 => ?_)
                        · have r385258 : o385256.toInt = 0 := gj_eq hc385257 (show Int32.toInt 0 = 0 by decide)
                          have bo385256' : gB o385256 0 0 := gB_t0 r385258
                          obtain ⟨z385259, hz385259⟩ : ∃ z : Int32, z = g384866 + Int32.ofInt 1 := ⟨_, rfl⟩
                          have ez385259 : z385259.toInt = g384866.toInt + 1 := gI_inc hz385259 (by decide) bg384866' (by decide) (by decide)
                          have bz385259 : gB z385259 1 1000001 := ⟨by omega, by omega⟩
                          refine G_iinc (L' := [(5, .int z385259), (6, .ref q384029), (4, .ref q384019), (3, .int g383959), (0, .ref q360315), (1, .int p360316), (2, .int p360317)]) z385259 1 dr_cX17_rename_138 rfl hz385259.symm (Nat.le_of_ble_eq_true rfl) rfl ?_
                          refine G_goto 20 dr_cX17_rename_141 (by decide +kernel) ?_
                          refine G_lv (L' := [(5, .int z385259), (4, .ref q384019), (3, .int g383959), (0, .ref q360315), (1, .int p360316), (2, .int p360317)]) [0, 2, 3, 4, 5, 6] rfl ?_
                          exact ih20_384871 F385238 z385259 (gB_w bz385259 (by decide) (by decide)) hT385249 hs385247 (fun N hv hu hp => rPl_put hT384868 htq360315 rfl (x384870 N hv hu hp) of385250 hp384905 nb384908 hL384906 (fun _ _ _ _ z => z) (rNx_ren he384910 he385246 hu hv (Or.inr rfl) (Or.inr rfl) (Or.inl rfl) (by rw [← hp384905]; exact x384870 N hv hu hp _ nb384908 _ hL384906))) fk385248 (mz_up ez385259 (Int.le_trans bg384866'.2 (by decide)) hm20_384871)
                        · have r385260 : o385256.toInt ≠ 0 := gj_neq hc385257 (show Int32.toInt 0 = 0 by decide)
                          have bo385256' : gB o385256 1 1 := gB_t1 bo385256 r385260
                          refine G_aload 0 dr_cX17_rename_123 rfl ?_
                          refine Gp_get 1 hm384909 he385246 dr_cX17_rename_125 (gk_X15 D I) (Nat.le_of_ble_eq_true rfl) wr_9_178 rfl ?_
                          refine G_iload_n 5 dr_cX17_rename_128 rfl ?_
                          refine G_icmp_ne 138 dr_cX17_rename_129 (by decide +kernel) (fun hc385261 => ?_) (fun hc385261 => ?_)
                          · have r385262 : p384912.toInt ≠ p360316.toInt := gC_ne hc385261
                            obtain ⟨z385263, hz385263⟩ : ∃ z : Int32, z = g384866 + Int32.ofInt 1 := ⟨_, rfl⟩
                            have ez385263 : z385263.toInt = g384866.toInt + 1 := gI_inc hz385263 (by decide) bg384866' (by decide) (by decide)
                            have bz385263 : gB z385263 1 1000001 := ⟨by omega, by omega⟩
                            refine G_iinc (L' := [(5, .int z385263), (6, .ref q384029), (4, .ref q384019), (3, .int g383959), (0, .ref q360315), (1, .int p360316), (2, .int p360317)]) z385263 1 dr_cX17_rename_138 rfl hz385263.symm (Nat.le_of_ble_eq_true rfl) rfl ?_
                            refine G_goto 20 dr_cX17_rename_141 (by decide +kernel) ?_
                            refine G_lv (L' := [(5, .int z385263), (4, .ref q384019), (3, .int g383959), (0, .ref q360315), (1, .int p360316), (2, .int p360317)]) [0, 2, 3, 4, 5, 6] rfl ?_
                            exact ih20_384871 F385238 z385263 (gB_w bz385263 (by decide) (by decide)) hT385249 hs385247 (fun N hv hu hp => rPl_put hT384868 htq360315 rfl (x384870 N hv hu hp) of385250 hp384905 nb384908 hL384906 (fun _ _ _ _ z => z) (rNx_ren he384910 he385246 hu hv (Or.inr rfl) (Or.inr rfl) (Or.inl rfl) (by rw [← hp384905]; exact x384870 N hv hu hp _ nb384908 _ hL384906))) fk385248 (mz_up ez385263 (Int.le_trans bg384866'.2 (by decide)) hm20_384871)
                          · have r385264 : p384912.toInt = p360316.toInt := gC_eq hc385261
                            refine G_aload 0 dr_cX17_rename_132 rfl ?_
                            refine G_iload_n 6 dr_cX17_rename_134 rfl ?_
                            refine Gp_put 1 hm384909 he385246 dr_cX17_rename_135 (gk_X15 D I) (Nat.le_of_ble_eq_true rfl) wr_9_178 rfl rfl rfl (Nat.le_of_ble_eq_true rfl) (fun F385265 e385266 n385267 => ?_)
                            have he385268 : F385265 q360315 = .inr (18, [.ref q383970, .ref q383971, .int p383972, .int p383973]) := (n385267 q360315 (rn_oo he385241 he385246 (by decide))).trans he385241
                            have he385269 : F385265 q383970 = .inr (4, [.int p384000, .ref q384002, .int p384001]) := (n385267 q383970 (rn_oo he385242 he385246 (by decide))).trans he385242
                            have he385270 : F385265 q384002 = .inl (I (.object "java/lang/Object"), n384016, .inr (.inr (.inr (.inr f384017)))) := (n385267 q384002 (rn_ao he385243 he385246)).trans he385243
                            have he385271 : F385265 q384019 = .inr (17, [.ref q384028, .ref q384029, .int p384030, .int p384031]) := (n385267 q384019 (rn_oo he385244 he385246 (by decide))).trans he385244
                            have he385272 : F385265 q384028 = .inr (4, [.int p384881, .ref q384883, .int p384882]) := (n385267 q384028 (rn_oo he385245 he385246 (by decide))).trans he385245
                            have he385273 : F385265 q384029 = .inr (20, [.int p384911, .int p360317, .int p360317, .int p360317, .int p384915, .int p384916, .int p384917]) := e385266
                            have hs385274 : rStr γ [1] F360314 F385265 := rStr_pu2 hs385247 n385267 ht384034 (by decide)
                            have fk385275 : rFk [1] γ F360314 F385265 := rFk_put fk385248 n385267 ht384034 (by decide)
                            obtain ⟨z385276, hz385276⟩ : ∃ z : Int32, z = g384866 + Int32.ofInt 1 := ⟨_, rfl⟩
                            have ez385276 : z385276.toInt = g384866.toInt + 1 := gI_inc hz385276 (by decide) bg384866' (by decide) (by decide)
                            have bz385276 : gB z385276 1 1000001 := ⟨by omega, by omega⟩
                            refine G_iinc (L' := [(5, .int z385276), (6, .ref q384029), (4, .ref q384019), (3, .int g383959), (0, .ref q360315), (1, .int p360316), (2, .int p360317)]) z385276 1 dr_cX17_rename_138 rfl hz385276.symm (Nat.le_of_ble_eq_true rfl) rfl ?_
                            refine G_goto 20 dr_cX17_rename_141 (by decide +kernel) ?_
                            have hT385277 : RS D I P360313 F385265 γ el := RS_set hT385249 n385267 ht384034 (by decide) ⟨p384911, p360317, p360317, p360317, p384915, p384916, p384917, he385273, bp384911, bp360317, bp384915, bp384916, bp384917, r384918, (Or.inr bp360317), (Or.inr bp360317), r384921, r384922⟩
                            have of385278 : ∀ b, b ≠ q384029 → F385265 b = F384867 b := fun b hb => (n385267 b hb).trans (of385250 b hb)
                            refine G_lv (L' := [(5, .int z385276), (4, .ref q384019), (3, .int g383959), (0, .ref q360315), (1, .int p360316), (2, .int p360317)]) [0, 2, 3, 4, 5, 6] rfl ?_
                            exact ih20_384871 F385265 z385276 (gB_w bz385276 (by decide) (by decide)) hT385277 hs385274 (fun N hv hu hp => rPl_put hT384868 htq360315 rfl (x384870 N hv hu hp) of385278 hp384905 nb384908 hL384906 (fun _ _ _ _ z => z) (rNx_ren he384910 he385273 hu hv (Or.inr rfl) (Or.inr rfl) (Or.inr ⟨rfl, by first | assumption | omega⟩) (by rw [← hp384905]; exact x384870 N hv hu hp _ nb384908 _ hL384906))) fk385275 (mz_up ez385276 (Int.le_trans bg384866'.2 (by decide)) hm20_384871)
              · have r385279 : g384866.toInt < p384882.toInt := gC_nle hc384903
                have bg384866'' : gB g384866 0 999999 := ⟨by omega, by omega⟩
                have bp384882' : gB p384882 1 1000000 := ⟨by omega, by omega⟩
                refine G_aload 1 dr_cX17_rename_46 rfl ?_
                refine Gp_get 0 hm384026 he384877 dr_cX17_rename_48 (gk_X12 D I) (Nat.le_of_ble_eq_true rfl) wr_9_216 rfl ?_
                refine G_iload 0 dr_cX17_rename_51 rfl ?_
                obtain ⟨r385280, r385281, n385288, f385289, r385282, r385283, r385284, r385285, r385286, r385287⟩ := rLC_n r384886 (by omega)
                have hm385290 : q384883 ∈ P360313 := RS_m hT384868 r385280 (by decide)
                obtain ⟨q385291, hx385292⟩ : ∃ x, x = el q384028 g384866.toInt.toNat := ⟨_, rfl⟩
                have hx385293 : f385289 g384866.toNatClampNeg = some q385291 := (r385286 _ (show g384866.toInt.toNat < γ 2 q384028 by omega)).trans (by rw [hx385292])
                have ht385294 : rKd γ q385291 1 := by rw [hx385292]; exact (r384887 _ (show g384866.toInt.toNat < γ 2 q384028 by omega)).1
                have ht385295 : rFm γ q385291 q384028 := by rw [hx385292]; exact (r384887 _ (show g384866.toInt.toNat < γ 2 q384028 by omega)).2.1
                refine Gw_callV (As := [.int g384866]) (gV_ok D I) (cp_22_ArrayList_get l hl0 D I P360313 F384867 q384028 q384883 g384866 p384881 p384882 f385289 n385288 q385291 hm384879 hm385290 he384880 r385282 (gB_w bg384866'' (by decide) (by decide)) (gB_w bp384882' (by decide) (by decide)) (by omega) (by omega) (by assumption) (by omega)) dr_cX17_rename_53 ⟨wr_10_197, wr_1_18, wr_10_61, by decide, rfl, (Nat.le_of_ble_eq_true rfl), (Nat.le_of_ble_eq_true rfl)⟩ wr_10_59 wr_10_60 hm384879 he384880 rfl (show 0 + 0 ≤ 0 by first | omega | decide) (show 0 + 0 ≤ 0 by first | omega | decide) (Nat.le_of_ble_eq_true rfl) (fun r385299 w385300 dc385296 ds385297 hp385298 => ?_) (fun _ _ _ _ _ z => z.elim)
                obtain ⟨rfl, rfl, hdc, hds⟩ := hp385298
                change G _ _ _ _ _ _ _ (.ref q385291 :: _) _ _ _
                refine G_widen (cs' := 0) (sl' := 0) (by omega) (by omega) ?_
                have hm385301 : q385291 ∈ P360313 := RS_m hT384868 ht385294 (by decide)
                obtain ⟨p385303, p385304, p385305, p385306, p385307, p385308, p385309, he385302, bp385303, bp385304, bp385307, bp385308, bp385309, r385310, r385311, r385312, r385313, r385314⟩ := show rk_1 γ q385291 (F384867 q385291) from RS_o hT384868 ht385294
                have bp385305 := gB_any p385305
                have bp385306 := gB_any p385306
                refine Gp_cast hm385301 he385302 rfl dr_cX17_rename_56 wr_10_198 (gr_cast 1 rfl) ?_
                refine G_goto 67 dr_cX17_rename_59 (by decide +kernel) ?_
                have fl385317 : p384882.toInt = γ 2 q384028 := r384884
                have hp385315 : rAt γ el q360315 (g383959.toInt : Int).toNat (g384866.toInt : Int).toNat = q385291 := (rAt_r hb384046 ht384038.1 (by omega)).trans (by rw [hx385292])
                have hL385316 : (g384866.toInt : Int).toNat ≤ γ 2 (rwL γ el q360315 (g383959.toInt : Int).toNat) := by unfold rwL; rw [hb384046, ht384038.1]; omega
                have nb385318 : (g383959.toInt : Int).toNat < γ 6 (γ 1 q360315) := by omega
                refine G_astore (L' := [(6, .ref q385291), (5, .int g384866), (4, .ref q384019), (3, .int g383959), (0, .ref q360315), (1, .int p360316), (2, .int p360317)]) dr_cX17_rename_67 (Nat.le_of_ble_eq_true rfl) rfl ?_
                refine G_aload 0 dr_cX17_rename_69 rfl ?_
                refine Gw_callV (As := []) (gV_ok D I) (cp_1669_Row_usesA l hl0 D I P360313 F384867 q385291 p385303 p385304 p385305 p385306 p385307 p385308 p385309 hm385301 he385302 bp385303 bp385304 bp385307 bp385308 bp385309) dr_cX17_rename_71 ⟨wr_10_188, wr_1_39, wr_10_191, by decide, rfl, (Nat.le_of_ble_eq_true rfl), (Nat.le_of_ble_eq_true rfl)⟩ wr_10_189 wr_10_190 hm385301 he385302 rfl (show 0 + 0 ≤ 0 by first | omega | decide) (show 0 + 0 ≤ 0 by first | omega | decide) (Nat.le_of_ble_eq_true rfl) (fun r385322 w385323 dc385319 ds385320 hp385321 => ?_) (fun _ _ _ _ _ z => z.elim)
                obtain ⟨o385324, rfl, rfl, hdc, hds, bo385324, x385325⟩ := hp385321
                change G _ _ _ _ _ _ _ (.int o385324 :: _) _ _ _
                refine G_widen (cs' := 0) (sl' := 0) (by omega) (by omega) ?_
                refine G_if_eq 92 dr_cX17_rename_74 (by decide +kernel) (fun hc385326 => ?_) (fun hc385326 => ?_)
                · have r385327 : o385324.toInt = 0 := gj_eq hc385326 (show Int32.toInt 0 = 0 by decide)
                  have bo385324' : gB o385324 0 0 := gB_t0 r385327
                  refine G_aload 0 dr_cX17_rename_92 rfl ?_
                  refine Gw_callV (As := []) (gV_ok D I) (cp_1693_Row_usesB l hl0 D I P360313 F384867 q385291 p385303 p385304 p385305 p385306 p385307 p385308 p385309 hm385301 he385302 bp385303 bp385304 bp385307 bp385308 bp385309) dr_cX17_rename_94 ⟨wr_10_192, wr_1_39, wr_10_195, by decide, rfl, (Nat.le_of_ble_eq_true rfl), (Nat.le_of_ble_eq_true rfl)⟩ wr_10_193 wr_10_194 hm385301 he385302 rfl (show 0 + 0 ≤ 0 by first | omega | decide) (show 0 + 0 ≤ 0 by first | omega | decide) (Nat.le_of_ble_eq_true rfl) (fun r385331 w385332 dc385328 ds385329 hp385330 => ?_) (fun _ _ _ _ _ z => z.elim)
                  obtain ⟨o385333, rfl, rfl, hdc, hds, bo385333, x385334⟩ := hp385330
                  change G _ _ _ _ _ _ _ (.int o385333 :: _) _ _ _
                  refine G_widen (cs' := 0) (sl' := 0) (by omega) (by omega) ?_
                  refine G_if_eq 115 dr_cX17_rename_97 (by decide +kernel) (fun hc385335 => ?_) (fun hc385335 => ?_)
                  · have r385336 : o385333.toInt = 0 := gj_eq hc385335 (show Int32.toInt 0 = 0 by decide)
                    have bo385333' : gB o385333 0 0 := gB_t0 r385336
                    refine G_aload 0 dr_cX17_rename_115 rfl ?_
                    refine Gw_callV (As := []) (gV_ok D I) (cp_1654_Row_sets l hl0 D I P360313 F384867 q385291 p385303 p385304 p385305 p385306 p385307 p385308 p385309 hm385301 he385302 bp385303 bp385304 bp385307 bp385308 bp385309) dr_cX17_rename_117 ⟨wr_10_177, wr_1_39, wr_10_180, by decide, rfl, (Nat.le_of_ble_eq_true rfl), (Nat.le_of_ble_eq_true rfl)⟩ wr_10_178 wr_10_179 hm385301 he385302 rfl (show 0 + 0 ≤ 0 by first | omega | decide) (show 0 + 0 ≤ 0 by first | omega | decide) (Nat.le_of_ble_eq_true rfl) (fun r385340 w385341 dc385337 ds385338 hp385339 => ?_) (fun _ _ _ _ _ z => z.elim)
                    obtain ⟨o385342, rfl, rfl, hdc, hds, bo385342⟩ := hp385339
                    change G _ _ _ _ _ _ _ (.int o385342 :: _) _ _ _
                    refine G_widen (cs' := 0) (sl' := 0) (by omega) (by omega) ?_
                    refine G_if_eq 138 dr_cX17_rename_120 (by decide +kernel) (fun hc385343 => ?_) (fun hc385343 => ?_)
                    · have r385344 : o385342.toInt = 0 := gj_eq hc385343 (show Int32.toInt 0 = 0 by decide)
                      have bo385342' : gB o385342 0 0 := gB_t0 r385344
                      obtain ⟨z385345, hz385345⟩ : ∃ z : Int32, z = g384866 + Int32.ofInt 1 := ⟨_, rfl⟩
                      have ez385345 : z385345.toInt = g384866.toInt + 1 := gI_inc hz385345 (by decide) bg384866'' (by decide) (by decide)
                      have bz385345 : gB z385345 1 1000000 := ⟨by omega, by omega⟩
                      refine G_iinc (L' := [(5, .int z385345), (6, .ref q385291), (4, .ref q384019), (3, .int g383959), (0, .ref q360315), (1, .int p360316), (2, .int p360317)]) z385345 1 dr_cX17_rename_138 rfl hz385345.symm (Nat.le_of_ble_eq_true rfl) rfl ?_
                      refine G_goto 20 dr_cX17_rename_141 (by decide +kernel) ?_
                      refine G_lv (L' := [(5, .int z385345), (4, .ref q384019), (3, .int g383959), (0, .ref q360315), (1, .int p360316), (2, .int p360317)]) [0, 2, 3, 4, 5, 6] rfl ?_
                      exact ih20_384871 F384867 z385345 (gB_w bz385345 (by decide) (by decide)) hT384868 hs384869 x384870 x384871 (mz_up ez385345 (Int.le_trans bg384866''.2 (by decide)) hm20_384871)
                    · have r385346 : o385342.toInt ≠ 0 := gj_neq hc385343 (show Int32.toInt 0 = 0 by decide)
                      have bo385342' : gB o385342 1 1 := gB_t1 bo385342 r385346
                      refine G_aload 0 dr_cX17_rename_123 rfl ?_
                      refine Gp_get 1 hm385301 he385302 dr_cX17_rename_125 (gk_X15 D I) (Nat.le_of_ble_eq_true rfl) wr_9_178 rfl ?_
                      refine G_iload_n 5 dr_cX17_rename_128 rfl ?_
                      refine G_icmp_ne 138 dr_cX17_rename_129 (by decide +kernel) (fun hc385347 => ?_) (fun hc385347 => ?_)
                      · have r385348 : p385304.toInt ≠ p360316.toInt := gC_ne hc385347
                        obtain ⟨z385349, hz385349⟩ : ∃ z : Int32, z = g384866 + Int32.ofInt 1 := ⟨_, rfl⟩
                        have ez385349 : z385349.toInt = g384866.toInt + 1 := gI_inc hz385349 (by decide) bg384866'' (by decide) (by decide)
                        have bz385349 : gB z385349 1 1000000 := ⟨by omega, by omega⟩
                        refine G_iinc (L' := [(5, .int z385349), (6, .ref q385291), (4, .ref q384019), (3, .int g383959), (0, .ref q360315), (1, .int p360316), (2, .int p360317)]) z385349 1 dr_cX17_rename_138 rfl hz385349.symm (Nat.le_of_ble_eq_true rfl) rfl ?_
                        refine G_goto 20 dr_cX17_rename_141 (by decide +kernel) ?_
                        refine G_lv (L' := [(5, .int z385349), (4, .ref q384019), (3, .int g383959), (0, .ref q360315), (1, .int p360316), (2, .int p360317)]) [0, 2, 3, 4, 5, 6] rfl ?_
                        exact ih20_384871 F384867 z385349 (gB_w bz385349 (by decide) (by decide)) hT384868 hs384869 x384870 x384871 (mz_up ez385349 (Int.le_trans bg384866''.2 (by decide)) hm20_384871)
                      · have r385350 : p385304.toInt = p360316.toInt := gC_eq hc385347
                        refine G_aload 0 dr_cX17_rename_132 rfl ?_
                        refine G_iload_n 6 dr_cX17_rename_134 rfl ?_
                        refine Gp_put 1 hm385301 he385302 dr_cX17_rename_135 (gk_X15 D I) (Nat.le_of_ble_eq_true rfl) wr_9_178 rfl rfl rfl (Nat.le_of_ble_eq_true rfl) (fun F385351 e385352 n385353 => ?_)
                        have he385354 : F385351 q360315 = .inr (18, [.ref q383970, .ref q383971, .int p383972, .int p383973]) := (n385353 q360315 (rn_oo he384874 he385302 (by decide))).trans he384874
                        have he385355 : F385351 q383970 = .inr (4, [.int p384000, .ref q384002, .int p384001]) := (n385353 q383970 (rn_oo he384875 he385302 (by decide))).trans he384875
                        have he385356 : F385351 q384002 = .inl (I (.object "java/lang/Object"), n384016, .inr (.inr (.inr (.inr f384017)))) := (n385353 q384002 (rn_ao he384876 he385302)).trans he384876
                        have he385357 : F385351 q384019 = .inr (17, [.ref q384028, .ref q384029, .int p384030, .int p384031]) := (n385353 q384019 (rn_oo he384877 he385302 (by decide))).trans he384877
                        have he385358 : F385351 q384028 = .inr (4, [.int p384881, .ref q384883, .int p384882]) := (n385353 q384028 (rn_oo he384880 he385302 (by decide))).trans he384880
                        have he385359 : F385351 q384883 = .inl (I (.object "java/lang/Object"), n385288, .inr (.inr (.inr (.inr f385289)))) := (n385353 q384883 (rn_ao r385282 he385302)).trans r385282
                        have he385360 : F385351 q385291 = .inr (20, [.int p385303, .int p360317, .int p385305, .int p385306, .int p385307, .int p385308, .int p385309]) := e385352
                        have hs385361 : rStr γ [1] F360314 F385351 := rStr_pu2 hs384869 n385353 ht385294 (by decide)
                        have fk385362 : rFk [1] γ F360314 F385351 := rFk_put x384871 n385353 ht385294 (by decide)
                        obtain ⟨z385363, hz385363⟩ : ∃ z : Int32, z = g384866 + Int32.ofInt 1 := ⟨_, rfl⟩
                        have ez385363 : z385363.toInt = g384866.toInt + 1 := gI_inc hz385363 (by decide) bg384866'' (by decide) (by decide)
                        have bz385363 : gB z385363 1 1000000 := ⟨by omega, by omega⟩
                        refine G_iinc (L' := [(5, .int z385363), (6, .ref q385291), (4, .ref q384019), (3, .int g383959), (0, .ref q360315), (1, .int p360316), (2, .int p360317)]) z385363 1 dr_cX17_rename_138 rfl hz385363.symm (Nat.le_of_ble_eq_true rfl) rfl ?_
                        refine G_goto 20 dr_cX17_rename_141 (by decide +kernel) ?_
                        have hT385364 : RS D I P360313 F385351 γ el := RS_set hT384868 n385353 ht385294 (by decide) ⟨p385303, p360317, p385305, p385306, p385307, p385308, p385309, he385360, bp385303, bp360317, bp385307, bp385308, bp385309, r385310, r385311, r385312, r385313, r385314⟩
                        refine G_lv (L' := [(5, .int z385363), (4, .ref q384019), (3, .int g383959), (0, .ref q360315), (1, .int p360316), (2, .int p360317)]) [0, 2, 3, 4, 5, 6] rfl ?_
                        exact ih20_384871 F385351 z385363 (gB_w bz385363 (by decide) (by decide)) hT385364 hs385361 (fun N hv hu hp => rPl_put hT384868 htq360315 rfl (x384870 N hv hu hp) n385353 hp385315 nb385318 hL385316 (fun _ _ _ _ z => z) (rNx_ren he385302 he385360 hu hv (Or.inl rfl) (Or.inl rfl) (Or.inr ⟨rfl, by first | assumption | omega⟩) (by rw [← hp385315]; exact x384870 N hv hu hp _ nb385318 _ hL385316))) fk385362 (mz_up ez385363 (Int.le_trans bg384866''.2 (by decide)) hm20_384871)
                  · have r385366 : o385333.toInt ≠ 0 := gj_neq hc385335 (show Int32.toInt 0 = 0 by decide)
                    have bo385333' : gB o385333 1 1 := gB_t1 bo385333 r385366
                    refine G_aload 0 dr_cX17_rename_100 rfl ?_
                    refine Gp_get 3 hm385301 he385302 dr_cX17_rename_102 (gk_X15 D I) (Nat.le_of_ble_eq_true rfl) wr_9_186 rfl ?_
                    refine G_iload_n 5 dr_cX17_rename_105 rfl ?_
                    refine G_icmp_ne 115 dr_cX17_rename_106 (by decide +kernel) (fun hc385367 => ?_) (fun hc385367 => ?_)
                    · have r385368 : p385306.toInt ≠ p360316.toInt := gC_ne hc385367
                      refine G_aload 0 dr_cX17_rename_115 rfl ?_
                      refine Gw_callV (As := []) (gV_ok D I) (cp_1654_Row_sets l hl0 D I P360313 F384867 q385291 p385303 p385304 p385305 p385306 p385307 p385308 p385309 hm385301 he385302 bp385303 bp385304 bp385307 bp385308 bp385309) dr_cX17_rename_117 ⟨wr_10_177, wr_1_39, wr_10_180, by decide, rfl, (Nat.le_of_ble_eq_true rfl), (Nat.le_of_ble_eq_true rfl)⟩ wr_10_178 wr_10_179 hm385301 he385302 rfl (show 0 + 0 ≤ 0 by first | omega | decide) (show 0 + 0 ≤ 0 by first | omega | decide) (Nat.le_of_ble_eq_true rfl) (fun r385372 w385373 dc385369 ds385370 hp385371 => ?_) (fun _ _ _ _ _ z => z.elim)
                      obtain ⟨o385374, rfl, rfl, hdc, hds, bo385374⟩ := hp385371
                      change G _ _ _ _ _ _ _ (.int o385374 :: _) _ _ _
                      refine G_widen (cs' := 0) (sl' := 0) (by omega) (by omega) ?_
                      refine G_if_eq 138 dr_cX17_rename_120 (by decide +kernel) (fun hc385375 => ?_) (fun hc385375 => ?_)
                      · have r385376 : o385374.toInt = 0 := gj_eq hc385375 (show Int32.toInt 0 = 0 by decide)
                        have bo385374' : gB o385374 0 0 := gB_t0 r385376
                        obtain ⟨z385377, hz385377⟩ : ∃ z : Int32, z = g384866 + Int32.ofInt 1 := ⟨_, rfl⟩
                        have ez385377 : z385377.toInt = g384866.toInt + 1 := gI_inc hz385377 (by decide) bg384866'' (by decide) (by decide)
                        have bz385377 : gB z385377 1 1000000 := ⟨by omega, by omega⟩
                        refine G_iinc (L' := [(5, .int z385377), (6, .ref q385291), (4, .ref q384019), (3, .int g383959), (0, .ref q360315), (1, .int p360316), (2, .int p360317)]) z385377 1 dr_cX17_rename_138 rfl hz385377.symm (Nat.le_of_ble_eq_true rfl) rfl ?_
                        refine G_goto 20 dr_cX17_rename_141 (by decide +kernel) ?_
                        refine G_lv (L' := [(5, .int z385377), (4, .ref q384019), (3, .int g383959), (0, .ref q360315), (1, .int p360316), (2, .int p360317)]) [0, 2, 3, 4, 5, 6] rfl ?_
                        exact ih20_384871 F384867 z385377 (gB_w bz385377 (by decide) (by decide)) hT384868 hs384869 x384870 x384871 (mz_up ez385377 (Int.le_trans bg384866''.2 (by decide)) hm20_384871)
                      · have r385378 : o385374.toInt ≠ 0 := gj_neq hc385375 (show Int32.toInt 0 = 0 by decide)
                        have bo385374' : gB o385374 1 1 := gB_t1 bo385374 r385378
                        refine G_aload 0 dr_cX17_rename_123 rfl ?_
                        refine Gp_get 1 hm385301 he385302 dr_cX17_rename_125 (gk_X15 D I) (Nat.le_of_ble_eq_true rfl) wr_9_178 rfl ?_
                        refine G_iload_n 5 dr_cX17_rename_128 rfl ?_
                        refine G_icmp_ne 138 dr_cX17_rename_129 (by decide +kernel) (fun hc385379 => ?_) (fun hc385379 => ?_)
                        · have r385380 : p385304.toInt ≠ p360316.toInt := gC_ne hc385379
                          obtain ⟨z385381, hz385381⟩ : ∃ z : Int32, z = g384866 + Int32.ofInt 1 := ⟨_, rfl⟩
                          have ez385381 : z385381.toInt = g384866.toInt + 1 := gI_inc hz385381 (by decide) bg384866'' (by decide) (by decide)
                          have bz385381 : gB z385381 1 1000000 := ⟨by omega, by omega⟩
                          refine G_iinc (L' := [(5, .int z385381), (6, .ref q385291), (4, .ref q384019), (3, .int g383959), (0, .ref q360315), (1, .int p360316), (2, .int p360317)]) z385381 1 dr_cX17_rename_138 rfl hz385381.symm (Nat.le_of_ble_eq_true rfl) rfl ?_
                          refine G_goto 20 dr_cX17_rename_141 (by decide +kernel) ?_
                          refine G_lv (L' := [(5, .int z385381), (4, .ref q384019), (3, .int g383959), (0, .ref q360315), (1, .int p360316), (2, .int p360317)]) [0, 2, 3, 4, 5, 6] rfl ?_
                          exact ih20_384871 F384867 z385381 (gB_w bz385381 (by decide) (by decide)) hT384868 hs384869 x384870 x384871 (mz_up ez385381 (Int.le_trans bg384866''.2 (by decide)) hm20_384871)
                        · have r385382 : p385304.toInt = p360316.toInt := gC_eq hc385379
                          refine G_aload 0 dr_cX17_rename_132 rfl ?_
                          refine G_iload_n 6 dr_cX17_rename_134 rfl ?_
                          refine Gp_put 1 hm385301 he385302 dr_cX17_rename_135 (gk_X15 D I) (Nat.le_of_ble_eq_true rfl) wr_9_178 rfl rfl rfl (Nat.le_of_ble_eq_true rfl) (fun F385383 e385384 n385385 => ?_)
                          have he385386 : F385383 q360315 = .inr (18, [.ref q383970, .ref q383971, .int p383972, .int p383973]) := (n385385 q360315 (rn_oo he384874 he385302 (by decide))).trans he384874
                          have he385387 : F385383 q383970 = .inr (4, [.int p384000, .ref q384002, .int p384001]) := (n385385 q383970 (rn_oo he384875 he385302 (by decide))).trans he384875
                          have he385388 : F385383 q384002 = .inl (I (.object "java/lang/Object"), n384016, .inr (.inr (.inr (.inr f384017)))) := (n385385 q384002 (rn_ao he384876 he385302)).trans he384876
                          have he385389 : F385383 q384019 = .inr (17, [.ref q384028, .ref q384029, .int p384030, .int p384031]) := (n385385 q384019 (rn_oo he384877 he385302 (by decide))).trans he384877
                          have he385390 : F385383 q384028 = .inr (4, [.int p384881, .ref q384883, .int p384882]) := (n385385 q384028 (rn_oo he384880 he385302 (by decide))).trans he384880
                          have he385391 : F385383 q384883 = .inl (I (.object "java/lang/Object"), n385288, .inr (.inr (.inr (.inr f385289)))) := (n385385 q384883 (rn_ao r385282 he385302)).trans r385282
                          have he385392 : F385383 q385291 = .inr (20, [.int p385303, .int p360317, .int p385305, .int p385306, .int p385307, .int p385308, .int p385309]) := e385384
                          have hs385393 : rStr γ [1] F360314 F385383 := rStr_pu2 hs384869 n385385 ht385294 (by decide)
                          have fk385394 : rFk [1] γ F360314 F385383 := rFk_put x384871 n385385 ht385294 (by decide)
                          obtain ⟨z385395, hz385395⟩ : ∃ z : Int32, z = g384866 + Int32.ofInt 1 := ⟨_, rfl⟩
                          have ez385395 : z385395.toInt = g384866.toInt + 1 := gI_inc hz385395 (by decide) bg384866'' (by decide) (by decide)
                          have bz385395 : gB z385395 1 1000000 := ⟨by omega, by omega⟩
                          refine G_iinc (L' := [(5, .int z385395), (6, .ref q385291), (4, .ref q384019), (3, .int g383959), (0, .ref q360315), (1, .int p360316), (2, .int p360317)]) z385395 1 dr_cX17_rename_138 rfl hz385395.symm (Nat.le_of_ble_eq_true rfl) rfl ?_
                          refine G_goto 20 dr_cX17_rename_141 (by decide +kernel) ?_
                          have hT385396 : RS D I P360313 F385383 γ el := RS_set hT384868 n385385 ht385294 (by decide) ⟨p385303, p360317, p385305, p385306, p385307, p385308, p385309, he385392, bp385303, bp360317, bp385307, bp385308, bp385309, r385310, r385311, r385312, r385313, r385314⟩
                          refine G_lv (L' := [(5, .int z385395), (4, .ref q384019), (3, .int g383959), (0, .ref q360315), (1, .int p360316), (2, .int p360317)]) [0, 2, 3, 4, 5, 6] rfl ?_
                          exact ih20_384871 F385383 z385395 (gB_w bz385395 (by decide) (by decide)) hT385396 hs385393 (fun N hv hu hp => rPl_put hT384868 htq360315 rfl (x384870 N hv hu hp) n385385 hp385315 nb385318 hL385316 (fun _ _ _ _ z => z) (rNx_ren he385302 he385392 hu hv (Or.inl rfl) (Or.inl rfl) (Or.inr ⟨rfl, by first | assumption | omega⟩) (by rw [← hp385315]; exact x384870 N hv hu hp _ nb385318 _ hL385316))) fk385394 (mz_up ez385395 (Int.le_trans bg384866''.2 (by decide)) hm20_384871)
                    · have r385398 : p385306.toInt = p360316.toInt := gC_eq hc385367
                      have bp385306' : gB p385306 0 1999 := ⟨by omega, by omega⟩
                      refine G_aload 0 dr_cX17_rename_109 rfl ?_
                      refine G_iload_n 6 dr_cX17_rename_111 rfl ?_
                      refine Gp_put 3 hm385301 he385302 dr_cX17_rename_112 (gk_X15 D I) (Nat.le_of_ble_eq_true rfl) wr_9_186 rfl rfl rfl (Nat.le_of_ble_eq_true rfl) (fun F385399 e385400 n385401 => ?_)
                      have he385402 : F385399 q360315 = .inr (18, [.ref q383970, .ref q383971, .int p383972, .int p383973]) := (n385401 q360315 (rn_oo he384874 he385302 (by decide))).trans he384874
                      have he385403 : F385399 q383970 = .inr (4, [.int p384000, .ref q384002, .int p384001]) := (n385401 q383970 (rn_oo he384875 he385302 (by decide))).trans he384875
                      have he385404 : F385399 q384002 = .inl (I (.object "java/lang/Object"), n384016, .inr (.inr (.inr (.inr f384017)))) := (n385401 q384002 (rn_ao he384876 he385302)).trans he384876
                      have he385405 : F385399 q384019 = .inr (17, [.ref q384028, .ref q384029, .int p384030, .int p384031]) := (n385401 q384019 (rn_oo he384877 he385302 (by decide))).trans he384877
                      have he385406 : F385399 q384028 = .inr (4, [.int p384881, .ref q384883, .int p384882]) := (n385401 q384028 (rn_oo he384880 he385302 (by decide))).trans he384880
                      have he385407 : F385399 q384883 = .inl (I (.object "java/lang/Object"), n385288, .inr (.inr (.inr (.inr f385289)))) := (n385401 q384883 (rn_ao r385282 he385302)).trans r385282
                      have he385408 : F385399 q385291 = .inr (20, [.int p385303, .int p385304, .int p385305, .int p360317, .int p385307, .int p385308, .int p385309]) := e385400
                      have hs385409 : rStr γ [1] F360314 F385399 := rStr_pu2 hs384869 n385401 ht385294 (by decide)
                      have fk385410 : rFk [1] γ F360314 F385399 := rFk_put x384871 n385401 ht385294 (by decide)
                      refine G_aload 0 dr_cX17_rename_115 rfl ?_
                      have hT385411 : RS D I P360313 F385399 γ el := RS_set hT384868 n385401 ht385294 (by decide) ⟨p385303, p385304, p385305, p360317, p385307, p385308, p385309, he385408, bp385303, bp385304, bp385307, bp385308, bp385309, r385310, r385311, (Or.inr bp360317), r385313, r385314⟩
                      refine Gw_callV (As := []) (gV_ok D I) (cp_1654_Row_sets l hl0 D I P360313 F385399 q385291 p385303 p385304 p385305 p360317 p385307 p385308 p385309 hm385301 he385408 bp385303 bp385304 bp385307 bp385308 bp385309) dr_cX17_rename_117 ⟨wr_10_177, wr_1_39, wr_10_180, by decide, rfl, (Nat.le_of_ble_eq_true rfl), (Nat.le_of_ble_eq_true rfl)⟩ wr_10_178 wr_10_179 hm385301 he385408 rfl (show 0 + 0 ≤ 0 by first | omega | decide) (show 0 + 0 ≤ 0 by first | omega | decide) (Nat.le_of_ble_eq_true rfl) (fun r385416 w385417 dc385413 ds385414 hp385415 => ?_) (fun _ _ _ _ _ z => z.elim)
                      obtain ⟨o385418, rfl, rfl, hdc, hds, bo385418⟩ := hp385415
                      change G _ _ _ _ _ _ _ (.int o385418 :: _) _ _ _
                      refine G_widen (cs' := 0) (sl' := 0) (by omega) (by omega) ?_
                      refine G_if_eq 138 dr_cX17_rename_120 (by decide +kernel) (fun hc385419 => ?_) (fun hc385419 => ?_)
                      · have r385420 : o385418.toInt = 0 := gj_eq hc385419 (show Int32.toInt 0 = 0 by decide)
                        have bo385418' : gB o385418 0 0 := gB_t0 r385420
                        obtain ⟨z385421, hz385421⟩ : ∃ z : Int32, z = g384866 + Int32.ofInt 1 := ⟨_, rfl⟩
                        have ez385421 : z385421.toInt = g384866.toInt + 1 := gI_inc hz385421 (by decide) bg384866'' (by decide) (by decide)
                        have bz385421 : gB z385421 1 1000000 := ⟨by omega, by omega⟩
                        refine G_iinc (L' := [(5, .int z385421), (6, .ref q385291), (4, .ref q384019), (3, .int g383959), (0, .ref q360315), (1, .int p360316), (2, .int p360317)]) z385421 1 dr_cX17_rename_138 rfl hz385421.symm (Nat.le_of_ble_eq_true rfl) rfl ?_
                        refine G_goto 20 dr_cX17_rename_141 (by decide +kernel) ?_
                        refine G_lv (L' := [(5, .int z385421), (4, .ref q384019), (3, .int g383959), (0, .ref q360315), (1, .int p360316), (2, .int p360317)]) [0, 2, 3, 4, 5, 6] rfl ?_
                        exact ih20_384871 F385399 z385421 (gB_w bz385421 (by decide) (by decide)) hT385411 hs385409 (fun N hv hu hp => rPl_put hT384868 htq360315 rfl (x384870 N hv hu hp) n385401 hp385315 nb385318 hL385316 (fun _ _ _ _ z => z) (rNx_ren he385302 he385408 hu hv (Or.inl rfl) (Or.inr rfl) (Or.inl rfl) (by rw [← hp385315]; exact x384870 N hv hu hp _ nb385318 _ hL385316))) fk385410 (mz_up ez385421 (Int.le_trans bg384866''.2 (by decide)) hm20_384871)
                      · have r385422 : o385418.toInt ≠ 0 := gj_neq hc385419 (show Int32.toInt 0 = 0 by decide)
                        have bo385418' : gB o385418 1 1 := gB_t1 bo385418 r385422
                        refine G_aload 0 dr_cX17_rename_123 rfl ?_
                        refine Gp_get 1 hm385301 he385408 dr_cX17_rename_125 (gk_X15 D I) (Nat.le_of_ble_eq_true rfl) wr_9_178 rfl ?_
                        refine G_iload_n 5 dr_cX17_rename_128 rfl ?_
                        refine G_icmp_ne 138 dr_cX17_rename_129 (by decide +kernel) (fun hc385423 => ?_) (fun hc385423 => ?_)
                        · have r385424 : p385304.toInt ≠ p360316.toInt := gC_ne hc385423
                          obtain ⟨z385425, hz385425⟩ : ∃ z : Int32, z = g384866 + Int32.ofInt 1 := ⟨_, rfl⟩
                          have ez385425 : z385425.toInt = g384866.toInt + 1 := gI_inc hz385425 (by decide) bg384866'' (by decide) (by decide)
                          have bz385425 : gB z385425 1 1000000 := ⟨by omega, by omega⟩
                          refine G_iinc (L' := [(5, .int z385425), (6, .ref q385291), (4, .ref q384019), (3, .int g383959), (0, .ref q360315), (1, .int p360316), (2, .int p360317)]) z385425 1 dr_cX17_rename_138 rfl hz385425.symm (Nat.le_of_ble_eq_true rfl) rfl ?_
                          refine G_goto 20 dr_cX17_rename_141 (by decide +kernel) ?_
                          refine G_lv (L' := [(5, .int z385425), (4, .ref q384019), (3, .int g383959), (0, .ref q360315), (1, .int p360316), (2, .int p360317)]) [0, 2, 3, 4, 5, 6] rfl ?_
                          exact ih20_384871 F385399 z385425 (gB_w bz385425 (by decide) (by decide)) hT385411 hs385409 (fun N hv hu hp => rPl_put hT384868 htq360315 rfl (x384870 N hv hu hp) n385401 hp385315 nb385318 hL385316 (fun _ _ _ _ z => z) (rNx_ren he385302 he385408 hu hv (Or.inl rfl) (Or.inr rfl) (Or.inl rfl) (by rw [← hp385315]; exact x384870 N hv hu hp _ nb385318 _ hL385316))) fk385410 (mz_up ez385425 (Int.le_trans bg384866''.2 (by decide)) hm20_384871)
                        · have r385426 : p385304.toInt = p360316.toInt := gC_eq hc385423
                          refine G_aload 0 dr_cX17_rename_132 rfl ?_
                          refine G_iload_n 6 dr_cX17_rename_134 rfl ?_
                          refine Gp_put 1 hm385301 he385408 dr_cX17_rename_135 (gk_X15 D I) (Nat.le_of_ble_eq_true rfl) wr_9_178 rfl rfl rfl (Nat.le_of_ble_eq_true rfl) (fun F385427 e385428 n385429 => ?_)
                          have he385430 : F385427 q360315 = .inr (18, [.ref q383970, .ref q383971, .int p383972, .int p383973]) := (n385429 q360315 (rn_oo he385402 he385408 (by decide))).trans he385402
                          have he385431 : F385427 q383970 = .inr (4, [.int p384000, .ref q384002, .int p384001]) := (n385429 q383970 (rn_oo he385403 he385408 (by decide))).trans he385403
                          have he385432 : F385427 q384002 = .inl (I (.object "java/lang/Object"), n384016, .inr (.inr (.inr (.inr f384017)))) := (n385429 q384002 (rn_ao he385404 he385408)).trans he385404
                          have he385433 : F385427 q384019 = .inr (17, [.ref q384028, .ref q384029, .int p384030, .int p384031]) := (n385429 q384019 (rn_oo he385405 he385408 (by decide))).trans he385405
                          have he385434 : F385427 q384028 = .inr (4, [.int p384881, .ref q384883, .int p384882]) := (n385429 q384028 (rn_oo he385406 he385408 (by decide))).trans he385406
                          have he385435 : F385427 q384883 = .inl (I (.object "java/lang/Object"), n385288, .inr (.inr (.inr (.inr f385289)))) := (n385429 q384883 (rn_ao he385407 he385408)).trans he385407
                          have he385436 : F385427 q385291 = .inr (20, [.int p385303, .int p360317, .int p385305, .int p360317, .int p385307, .int p385308, .int p385309]) := e385428
                          have hs385437 : rStr γ [1] F360314 F385427 := rStr_pu2 hs385409 n385429 ht385294 (by decide)
                          have fk385438 : rFk [1] γ F360314 F385427 := rFk_put fk385410 n385429 ht385294 (by decide)
                          obtain ⟨z385439, hz385439⟩ : ∃ z : Int32, z = g384866 + Int32.ofInt 1 := ⟨_, rfl⟩
                          have ez385439 : z385439.toInt = g384866.toInt + 1 := gI_inc hz385439 (by decide) bg384866'' (by decide) (by decide)
                          have bz385439 : gB z385439 1 1000000 := ⟨by omega, by omega⟩
                          refine G_iinc (L' := [(5, .int z385439), (6, .ref q385291), (4, .ref q384019), (3, .int g383959), (0, .ref q360315), (1, .int p360316), (2, .int p360317)]) z385439 1 dr_cX17_rename_138 rfl hz385439.symm (Nat.le_of_ble_eq_true rfl) rfl ?_
                          refine G_goto 20 dr_cX17_rename_141 (by decide +kernel) ?_
                          have hT385440 : RS D I P360313 F385427 γ el := RS_set hT385411 n385429 ht385294 (by decide) ⟨p385303, p360317, p385305, p360317, p385307, p385308, p385309, he385436, bp385303, bp360317, bp385307, bp385308, bp385309, r385310, r385311, (Or.inr bp360317), r385313, r385314⟩
                          have of385441 : ∀ b, b ≠ q385291 → F385427 b = F384867 b := fun b hb => (n385429 b hb).trans (n385401 b hb)
                          refine G_lv (L' := [(5, .int z385439), (4, .ref q384019), (3, .int g383959), (0, .ref q360315), (1, .int p360316), (2, .int p360317)]) [0, 2, 3, 4, 5, 6] rfl ?_
                          exact ih20_384871 F385427 z385439 (gB_w bz385439 (by decide) (by decide)) hT385440 hs385437 (fun N hv hu hp => rPl_put hT384868 htq360315 rfl (x384870 N hv hu hp) of385441 hp385315 nb385318 hL385316 (fun _ _ _ _ z => z) (rNx_ren he385302 he385436 hu hv (Or.inl rfl) (Or.inr rfl) (Or.inr ⟨rfl, by first | assumption | omega⟩) (by rw [← hp385315]; exact x384870 N hv hu hp _ nb385318 _ hL385316))) fk385438 (mz_up ez385439 (Int.le_trans bg384866''.2 (by decide)) hm20_384871)
                · have r385442 : o385324.toInt ≠ 0 := gj_neq hc385326 (show Int32.toInt 0 = 0 by decide)
                  have bo385324' : gB o385324 1 1 := gB_t1 bo385324 r385442
                  refine G_aload 0 dr_cX17_rename_77 rfl ?_
                  refine Gp_get 2 hm385301 he385302 dr_cX17_rename_79 (gk_X15 D I) (Nat.le_of_ble_eq_true rfl) wr_9_182 rfl ?_
                  refine G_iload_n 5 dr_cX17_rename_82 rfl ?_
                  refine G_icmp_ne 92 dr_cX17_rename_83 (by decide +kernel) (fun hc385443 => ?_) (fun hc385443 => ?_)
                  · have r385444 : p385305.toInt ≠ p360316.toInt := gC_ne hc385443
                    refine G_aload 0 dr_cX17_rename_92 rfl ?_
                    refine Gw_callV (As := []) (gV_ok D I) (cp_1693_Row_usesB l hl0 D I P360313 F384867 q385291 p385303 p385304 p385305 p385306 p385307 p385308 p385309 hm385301 he385302 bp385303 bp385304 bp385307 bp385308 bp385309) dr_cX17_rename_94 ⟨wr_10_192, wr_1_39, wr_10_195, by decide, rfl, (Nat.le_of_ble_eq_true rfl), (Nat.le_of_ble_eq_true rfl)⟩ wr_10_193 wr_10_194 hm385301 he385302 rfl (show 0 + 0 ≤ 0 by first | omega | decide) (show 0 + 0 ≤ 0 by first | omega | decide) (Nat.le_of_ble_eq_true rfl) (fun r385448 w385449 dc385445 ds385446 hp385447 => ?_) (fun _ _ _ _ _ z => z.elim)
                    obtain ⟨o385450, rfl, rfl, hdc, hds, bo385450, x385451⟩ := hp385447
                    change G _ _ _ _ _ _ _ (.int o385450 :: _) _ _ _
                    refine G_widen (cs' := 0) (sl' := 0) (by omega) (by omega) ?_
                    refine G_if_eq 115 dr_cX17_rename_97 (by decide +kernel) (fun hc385452 => ?_) (fun hc385452 => ?_)
                    · have r385453 : o385450.toInt = 0 := gj_eq hc385452 (show Int32.toInt 0 = 0 by decide)
                      have bo385450' : gB o385450 0 0 := gB_t0 r385453
                      refine G_aload 0 dr_cX17_rename_115 rfl ?_
                      refine Gw_callV (As := []) (gV_ok D I) (cp_1654_Row_sets l hl0 D I P360313 F384867 q385291 p385303 p385304 p385305 p385306 p385307 p385308 p385309 hm385301 he385302 bp385303 bp385304 bp385307 bp385308 bp385309) dr_cX17_rename_117 ⟨wr_10_177, wr_1_39, wr_10_180, by decide, rfl, (Nat.le_of_ble_eq_true rfl), (Nat.le_of_ble_eq_true rfl)⟩ wr_10_178 wr_10_179 hm385301 he385302 rfl (show 0 + 0 ≤ 0 by first | omega | decide) (show 0 + 0 ≤ 0 by first | omega | decide) (Nat.le_of_ble_eq_true rfl) (fun r385457 w385458 dc385454 ds385455 hp385456 => ?_) (fun _ _ _ _ _ z => z.elim)
                      obtain ⟨o385459, rfl, rfl, hdc, hds, bo385459⟩ := hp385456
                      change G _ _ _ _ _ _ _ (.int o385459 :: _) _ _ _
                      refine G_widen (cs' := 0) (sl' := 0) (by omega) (by omega) ?_
                      refine G_if_eq 138 dr_cX17_rename_120 (by decide +kernel) (fun hc385460 => ?_) (fun hc385460 => ?_)
                      · have r385461 : o385459.toInt = 0 := gj_eq hc385460 (show Int32.toInt 0 = 0 by decide)
                        have bo385459' : gB o385459 0 0 := gB_t0 r385461
                        obtain ⟨z385462, hz385462⟩ : ∃ z : Int32, z = g384866 + Int32.ofInt 1 := ⟨_, rfl⟩
                        have ez385462 : z385462.toInt = g384866.toInt + 1 := gI_inc hz385462 (by decide) bg384866'' (by decide) (by decide)
                        have bz385462 : gB z385462 1 1000000 := ⟨by omega, by omega⟩
                        refine G_iinc (L' := [(5, .int z385462), (6, .ref q385291), (4, .ref q384019), (3, .int g383959), (0, .ref q360315), (1, .int p360316), (2, .int p360317)]) z385462 1 dr_cX17_rename_138 rfl hz385462.symm (Nat.le_of_ble_eq_true rfl) rfl ?_
                        refine G_goto 20 dr_cX17_rename_141 (by decide +kernel) ?_
                        refine G_lv (L' := [(5, .int z385462), (4, .ref q384019), (3, .int g383959), (0, .ref q360315), (1, .int p360316), (2, .int p360317)]) [0, 2, 3, 4, 5, 6] rfl ?_
                        exact ih20_384871 F384867 z385462 (gB_w bz385462 (by decide) (by decide)) hT384868 hs384869 x384870 x384871 (mz_up ez385462 (Int.le_trans bg384866''.2 (by decide)) hm20_384871)
                      · have r385463 : o385459.toInt ≠ 0 := gj_neq hc385460 (show Int32.toInt 0 = 0 by decide)
                        have bo385459' : gB o385459 1 1 := gB_t1 bo385459 r385463
                        refine G_aload 0 dr_cX17_rename_123 rfl ?_
                        refine Gp_get 1 hm385301 he385302 dr_cX17_rename_125 (gk_X15 D I) (Nat.le_of_ble_eq_true rfl) wr_9_178 rfl ?_
                        refine G_iload_n 5 dr_cX17_rename_128 rfl ?_
                        refine G_icmp_ne 138 dr_cX17_rename_129 (by decide +kernel) (fun hc385464 => ?_) (fun hc385464 => ?_)
                        · have r385465 : p385304.toInt ≠ p360316.toInt := gC_ne hc385464
                          obtain ⟨z385466, hz385466⟩ : ∃ z : Int32, z = g384866 + Int32.ofInt 1 := ⟨_, rfl⟩
                          have ez385466 : z385466.toInt = g384866.toInt + 1 := gI_inc hz385466 (by decide) bg384866'' (by decide) (by decide)
                          have bz385466 : gB z385466 1 1000000 := ⟨by omega, by omega⟩
                          refine G_iinc (L' := [(5, .int z385466), (6, .ref q385291), (4, .ref q384019), (3, .int g383959), (0, .ref q360315), (1, .int p360316), (2, .int p360317)]) z385466 1 dr_cX17_rename_138 rfl hz385466.symm (Nat.le_of_ble_eq_true rfl) rfl ?_
                          refine G_goto 20 dr_cX17_rename_141 (by decide +kernel) ?_
                          refine G_lv (L' := [(5, .int z385466), (4, .ref q384019), (3, .int g383959), (0, .ref q360315), (1, .int p360316), (2, .int p360317)]) [0, 2, 3, 4, 5, 6] rfl ?_
                          exact ih20_384871 F384867 z385466 (gB_w bz385466 (by decide) (by decide)) hT384868 hs384869 x384870 x384871 (mz_up ez385466 (Int.le_trans bg384866''.2 (by decide)) hm20_384871)
                        · have r385467 : p385304.toInt = p360316.toInt := gC_eq hc385464
                          refine G_aload 0 dr_cX17_rename_132 rfl ?_
                          refine G_iload_n 6 dr_cX17_rename_134 rfl ?_
                          refine Gp_put 1 hm385301 he385302 dr_cX17_rename_135 (gk_X15 D I) (Nat.le_of_ble_eq_true rfl) wr_9_178 rfl rfl rfl (Nat.le_of_ble_eq_true rfl) (fun F385468 e385469 n385470 => ?_)
                          have he385471 : F385468 q360315 = .inr (18, [.ref q383970, .ref q383971, .int p383972, .int p383973]) := (n385470 q360315 (rn_oo he384874 he385302 (by decide))).trans he384874
                          have he385472 : F385468 q383970 = .inr (4, [.int p384000, .ref q384002, .int p384001]) := (n385470 q383970 (rn_oo he384875 he385302 (by decide))).trans he384875
                          have he385473 : F385468 q384002 = .inl (I (.object "java/lang/Object"), n384016, .inr (.inr (.inr (.inr f384017)))) := (n385470 q384002 (rn_ao he384876 he385302)).trans he384876
                          have he385474 : F385468 q384019 = .inr (17, [.ref q384028, .ref q384029, .int p384030, .int p384031]) := (n385470 q384019 (rn_oo he384877 he385302 (by decide))).trans he384877
                          have he385475 : F385468 q384028 = .inr (4, [.int p384881, .ref q384883, .int p384882]) := (n385470 q384028 (rn_oo he384880 he385302 (by decide))).trans he384880
                          have he385476 : F385468 q384883 = .inl (I (.object "java/lang/Object"), n385288, .inr (.inr (.inr (.inr f385289)))) := (n385470 q384883 (rn_ao r385282 he385302)).trans r385282
                          have he385477 : F385468 q385291 = .inr (20, [.int p385303, .int p360317, .int p385305, .int p385306, .int p385307, .int p385308, .int p385309]) := e385469
                          have hs385478 : rStr γ [1] F360314 F385468 := rStr_pu2 hs384869 n385470 ht385294 (by decide)
                          have fk385479 : rFk [1] γ F360314 F385468 := rFk_put x384871 n385470 ht385294 (by decide)
                          obtain ⟨z385480, hz385480⟩ : ∃ z : Int32, z = g384866 + Int32.ofInt 1 := ⟨_, rfl⟩
                          have ez385480 : z385480.toInt = g384866.toInt + 1 := gI_inc hz385480 (by decide) bg384866'' (by decide) (by decide)
                          have bz385480 : gB z385480 1 1000000 := ⟨by omega, by omega⟩
                          refine G_iinc (L' := [(5, .int z385480), (6, .ref q385291), (4, .ref q384019), (3, .int g383959), (0, .ref q360315), (1, .int p360316), (2, .int p360317)]) z385480 1 dr_cX17_rename_138 rfl hz385480.symm (Nat.le_of_ble_eq_true rfl) rfl ?_
                          refine G_goto 20 dr_cX17_rename_141 (by decide +kernel) ?_
                          have hT385481 : RS D I P360313 F385468 γ el := RS_set hT384868 n385470 ht385294 (by decide) ⟨p385303, p360317, p385305, p385306, p385307, p385308, p385309, he385477, bp385303, bp360317, bp385307, bp385308, bp385309, r385310, r385311, r385312, r385313, r385314⟩
                          refine G_lv (L' := [(5, .int z385480), (4, .ref q384019), (3, .int g383959), (0, .ref q360315), (1, .int p360316), (2, .int p360317)]) [0, 2, 3, 4, 5, 6] rfl ?_
                          exact ih20_384871 F385468 z385480 (gB_w bz385480 (by decide) (by decide)) hT385481 hs385478 (fun N hv hu hp => rPl_put hT384868 htq360315 rfl (x384870 N hv hu hp) n385470 hp385315 nb385318 hL385316 (fun _ _ _ _ z => z) (rNx_ren he385302 he385477 hu hv (Or.inl rfl) (Or.inl rfl) (Or.inr ⟨rfl, by first | assumption | omega⟩) (by rw [← hp385315]; exact x384870 N hv hu hp _ nb385318 _ hL385316))) fk385479 (mz_up ez385480 (Int.le_trans bg384866''.2 (by decide)) hm20_384871)
                    · have r385483 : o385450.toInt ≠ 0 := gj_neq hc385452 (show Int32.toInt 0 = 0 by decide)
                      have bo385450' : gB o385450 1 1 := gB_t1 bo385450 r385483
                      refine G_aload 0 dr_cX17_rename_100 rfl ?_
                      refine Gp_get 3 hm385301 he385302 dr_cX17_rename_102 (gk_X15 D I) (Nat.le_of_ble_eq_true rfl) wr_9_186 rfl ?_
                      refine G_iload_n 5 dr_cX17_rename_105 rfl ?_
                      refine G_icmp_ne 115 dr_cX17_rename_106 (by decide +kernel) (fun hc385484 => ?_) (fun hc385484 => ?_)
                      · have r385485 : p385306.toInt ≠ p360316.toInt := gC_ne hc385484
                        refine G_aload 0 dr_cX17_rename_115 rfl ?_
                        refine Gw_callV (As := []) (gV_ok D I) (cp_1654_Row_sets l hl0 D I P360313 F384867 q385291 p385303 p385304 p385305 p385306 p385307 p385308 p385309 hm385301 he385302 bp385303 bp385304 bp385307 bp385308 bp385309) dr_cX17_rename_117 ⟨wr_10_177, wr_1_39, wr_10_180, by decide, rfl, (Nat.le_of_ble_eq_true rfl), (Nat.le_of_ble_eq_true rfl)⟩ wr_10_178 wr_10_179 hm385301 he385302 rfl (show 0 + 0 ≤ 0 by first | omega | decide) (show 0 + 0 ≤ 0 by first | omega | decide) (Nat.le_of_ble_eq_true rfl) (fun r385489 w385490 dc385486 ds385487 hp385488 => ?_) (fun _ _ _ _ _ z => z.elim)
                        obtain ⟨o385491, rfl, rfl, hdc, hds, bo385491⟩ := hp385488
                        change G _ _ _ _ _ _ _ (.int o385491 :: _) _ _ _
                        refine G_widen (cs' := 0) (sl' := 0) (by omega) (by omega) ?_
                        refine G_if_eq 138 dr_cX17_rename_120 (by decide +kernel) (fun hc385492 => ?_) (fun hc385492 => ?_)
                        · have r385493 : o385491.toInt = 0 := gj_eq hc385492 (show Int32.toInt 0 = 0 by decide)
                          have bo385491' : gB o385491 0 0 := gB_t0 r385493
                          obtain ⟨z385494, hz385494⟩ : ∃ z : Int32, z = g384866 + Int32.ofInt 1 := ⟨_, rfl⟩
                          have ez385494 : z385494.toInt = g384866.toInt + 1 := gI_inc hz385494 (by decide) bg384866'' (by decide) (by decide)
                          have bz385494 : gB z385494 1 1000000 := ⟨by omega, by omega⟩
                          refine G_iinc (L' := [(5, .int z385494), (6, .ref q385291), (4, .ref q384019), (3, .int g383959), (0, .ref q360315), (1, .int p360316), (2, .int p360317)]) z385494 1 dr_cX17_rename_138 rfl hz385494.symm (Nat.le_of_ble_eq_true rfl) rfl ?_
                          refine G_goto 20 dr_cX17_rename_141 (by decide +kernel) ?_
                          refine G_lv (L' := [(5, .int z385494), (4, .ref q384019), (3, .int g383959), (0, .ref q360315), (1, .int p360316), (2, .int p360317)]) [0, 2, 3, 4, 5, 6] rfl ?_
                          exact ih20_384871 F384867 z385494 (gB_w bz385494 (by decide) (by decide)) hT384868 hs384869 x384870 x384871 (mz_up ez385494 (Int.le_trans bg384866''.2 (by decide)) hm20_384871)
                        · have r385495 : o385491.toInt ≠ 0 := gj_neq hc385492 (show Int32.toInt 0 = 0 by decide)
                          have bo385491' : gB o385491 1 1 := gB_t1 bo385491 r385495
                          refine G_aload 0 dr_cX17_rename_123 rfl ?_
                          refine Gp_get 1 hm385301 he385302 dr_cX17_rename_125 (gk_X15 D I) (Nat.le_of_ble_eq_true rfl) wr_9_178 rfl ?_
                          refine G_iload_n 5 dr_cX17_rename_128 rfl ?_
                          refine G_icmp_ne 138 dr_cX17_rename_129 (by decide +kernel) (fun hc385496 => ?_) (fun hc385496 => ?_)
                          · have r385497 : p385304.toInt ≠ p360316.toInt := gC_ne hc385496
                            obtain ⟨z385498, hz385498⟩ : ∃ z : Int32, z = g384866 + Int32.ofInt 1 := ⟨_, rfl⟩
                            have ez385498 : z385498.toInt = g384866.toInt + 1 := gI_inc hz385498 (by decide) bg384866'' (by decide) (by decide)
                            have bz385498 : gB z385498 1 1000000 := ⟨by omega, by omega⟩
                            refine G_iinc (L' := [(5, .int z385498), (6, .ref q385291), (4, .ref q384019), (3, .int g383959), (0, .ref q360315), (1, .int p360316), (2, .int p360317)]) z385498 1 dr_cX17_rename_138 rfl hz385498.symm (Nat.le_of_ble_eq_true rfl) rfl ?_
                            refine G_goto 20 dr_cX17_rename_141 (by decide +kernel) ?_
                            refine G_lv (L' := [(5, .int z385498), (4, .ref q384019), (3, .int g383959), (0, .ref q360315), (1, .int p360316), (2, .int p360317)]) [0, 2, 3, 4, 5, 6] rfl ?_
                            exact ih20_384871 F384867 z385498 (gB_w bz385498 (by decide) (by decide)) hT384868 hs384869 x384870 x384871 (mz_up ez385498 (Int.le_trans bg384866''.2 (by decide)) hm20_384871)
                          · have r385499 : p385304.toInt = p360316.toInt := gC_eq hc385496
                            refine G_aload 0 dr_cX17_rename_132 rfl ?_
                            refine G_iload_n 6 dr_cX17_rename_134 rfl ?_
                            refine Gp_put 1 hm385301 he385302 dr_cX17_rename_135 (gk_X15 D I) (Nat.le_of_ble_eq_true rfl) wr_9_178 rfl rfl rfl (Nat.le_of_ble_eq_true rfl) (fun F385500 e385501 n385502 => ?_)
                            have he385503 : F385500 q360315 = .inr (18, [.ref q383970, .ref q383971, .int p383972, .int p383973]) := (n385502 q360315 (rn_oo he384874 he385302 (by decide))).trans he384874
                            have he385504 : F385500 q383970 = .inr (4, [.int p384000, .ref q384002, .int p384001]) := (n385502 q383970 (rn_oo he384875 he385302 (by decide))).trans he384875
                            have he385505 : F385500 q384002 = .inl (I (.object "java/lang/Object"), n384016, .inr (.inr (.inr (.inr f384017)))) := (n385502 q384002 (rn_ao he384876 he385302)).trans he384876
                            have he385506 : F385500 q384019 = .inr (17, [.ref q384028, .ref q384029, .int p384030, .int p384031]) := (n385502 q384019 (rn_oo he384877 he385302 (by decide))).trans he384877
                            have he385507 : F385500 q384028 = .inr (4, [.int p384881, .ref q384883, .int p384882]) := (n385502 q384028 (rn_oo he384880 he385302 (by decide))).trans he384880
                            have he385508 : F385500 q384883 = .inl (I (.object "java/lang/Object"), n385288, .inr (.inr (.inr (.inr f385289)))) := (n385502 q384883 (rn_ao r385282 he385302)).trans r385282
                            have he385509 : F385500 q385291 = .inr (20, [.int p385303, .int p360317, .int p385305, .int p385306, .int p385307, .int p385308, .int p385309]) := e385501
                            have hs385510 : rStr γ [1] F360314 F385500 := rStr_pu2 hs384869 n385502 ht385294 (by decide)
                            have fk385511 : rFk [1] γ F360314 F385500 := rFk_put x384871 n385502 ht385294 (by decide)
                            obtain ⟨z385512, hz385512⟩ : ∃ z : Int32, z = g384866 + Int32.ofInt 1 := ⟨_, rfl⟩
                            have ez385512 : z385512.toInt = g384866.toInt + 1 := gI_inc hz385512 (by decide) bg384866'' (by decide) (by decide)
                            have bz385512 : gB z385512 1 1000000 := ⟨by omega, by omega⟩
                            refine G_iinc (L' := [(5, .int z385512), (6, .ref q385291), (4, .ref q384019), (3, .int g383959), (0, .ref q360315), (1, .int p360316), (2, .int p360317)]) z385512 1 dr_cX17_rename_138 rfl hz385512.symm (Nat.le_of_ble_eq_true rfl) rfl ?_
                            refine G_goto 20 dr_cX17_rename_141 (by decide +kernel) ?_
                            have hT385513 : RS D I P360313 F385500 γ el := RS_set hT384868 n385502 ht385294 (by decide) ⟨p385303, p360317, p385305, p385306, p385307, p385308, p385309, he385509, bp385303, bp360317, bp385307, bp385308, bp385309, r385310, r385311, r385312, r385313, r385314⟩
                            refine G_lv (L' := [(5, .int z385512), (4, .ref q384019), (3, .int g383959), (0, .ref q360315), (1, .int p360316), (2, .int p360317)]) [0, 2, 3, 4, 5, 6] rfl ?_
                            exact ih20_384871 F385500 z385512 (gB_w bz385512 (by decide) (by decide)) hT385513 hs385510 (fun N hv hu hp => rPl_put hT384868 htq360315 rfl (x384870 N hv hu hp) n385502 hp385315 nb385318 hL385316 (fun _ _ _ _ z => z) (rNx_ren he385302 he385509 hu hv (Or.inl rfl) (Or.inl rfl) (Or.inr ⟨rfl, by first | assumption | omega⟩) (by rw [← hp385315]; exact x384870 N hv hu hp _ nb385318 _ hL385316))) fk385511 (mz_up ez385512 (Int.le_trans bg384866''.2 (by decide)) hm20_384871)
                      · have r385515 : p385306.toInt = p360316.toInt := gC_eq hc385484
                        have bp385306' : gB p385306 0 1999 := ⟨by omega, by omega⟩
                        refine G_aload 0 dr_cX17_rename_109 rfl ?_
                        refine G_iload_n 6 dr_cX17_rename_111 rfl ?_
                        refine Gp_put 3 hm385301 he385302 dr_cX17_rename_112 (gk_X15 D I) (Nat.le_of_ble_eq_true rfl) wr_9_186 rfl rfl rfl (Nat.le_of_ble_eq_true rfl) (fun F385516 e385517 n385518 => ?_)
                        have he385519 : F385516 q360315 = .inr (18, [.ref q383970, .ref q383971, .int p383972, .int p383973]) := (n385518 q360315 (rn_oo he384874 he385302 (by decide))).trans he384874
                        have he385520 : F385516 q383970 = .inr (4, [.int p384000, .ref q384002, .int p384001]) := (n385518 q383970 (rn_oo he384875 he385302 (by decide))).trans he384875
                        have he385521 : F385516 q384002 = .inl (I (.object "java/lang/Object"), n384016, .inr (.inr (.inr (.inr f384017)))) := (n385518 q384002 (rn_ao he384876 he385302)).trans he384876
                        have he385522 : F385516 q384019 = .inr (17, [.ref q384028, .ref q384029, .int p384030, .int p384031]) := (n385518 q384019 (rn_oo he384877 he385302 (by decide))).trans he384877
                        have he385523 : F385516 q384028 = .inr (4, [.int p384881, .ref q384883, .int p384882]) := (n385518 q384028 (rn_oo he384880 he385302 (by decide))).trans he384880
                        have he385524 : F385516 q384883 = .inl (I (.object "java/lang/Object"), n385288, .inr (.inr (.inr (.inr f385289)))) := (n385518 q384883 (rn_ao r385282 he385302)).trans r385282
                        have he385525 : F385516 q385291 = .inr (20, [.int p385303, .int p385304, .int p385305, .int p360317, .int p385307, .int p385308, .int p385309]) := e385517
                        have hs385526 : rStr γ [1] F360314 F385516 := rStr_pu2 hs384869 n385518 ht385294 (by decide)
                        have fk385527 : rFk [1] γ F360314 F385516 := rFk_put x384871 n385518 ht385294 (by decide)
                        refine G_aload 0 dr_cX17_rename_115 rfl ?_
                        have hT385528 : RS D I P360313 F385516 γ el := RS_set hT384868 n385518 ht385294 (by decide) ⟨p385303, p385304, p385305, p360317, p385307, p385308, p385309, he385525, bp385303, bp385304, bp385307, bp385308, bp385309, r385310, r385311, (Or.inr bp360317), r385313, r385314⟩
                        refine Gw_callV (As := []) (gV_ok D I) (cp_1654_Row_sets l hl0 D I P360313 F385516 q385291 p385303 p385304 p385305 p360317 p385307 p385308 p385309 hm385301 he385525 bp385303 bp385304 bp385307 bp385308 bp385309) dr_cX17_rename_117 ⟨wr_10_177, wr_1_39, wr_10_180, by decide, rfl, (Nat.le_of_ble_eq_true rfl), (Nat.le_of_ble_eq_true rfl)⟩ wr_10_178 wr_10_179 hm385301 he385525 rfl (show 0 + 0 ≤ 0 by first | omega | decide) (show 0 + 0 ≤ 0 by first | omega | decide) (Nat.le_of_ble_eq_true rfl) (fun r385533 w385534 dc385530 ds385531 hp385532 => ?_) (fun _ _ _ _ _ z => z.elim)
                        obtain ⟨o385535, rfl, rfl, hdc, hds, bo385535⟩ := hp385532
                        change G _ _ _ _ _ _ _ (.int o385535 :: _) _ _ _
                        refine G_widen (cs' := 0) (sl' := 0) (by omega) (by omega) ?_
                        refine G_if_eq 138 dr_cX17_rename_120 (by decide +kernel) (fun hc385536 => ?_) (fun hc385536 => ?_)
                        · have r385537 : o385535.toInt = 0 := gj_eq hc385536 (show Int32.toInt 0 = 0 by decide)
                          have bo385535' : gB o385535 0 0 := gB_t0 r385537
                          obtain ⟨z385538, hz385538⟩ : ∃ z : Int32, z = g384866 + Int32.ofInt 1 := ⟨_, rfl⟩
                          have ez385538 : z385538.toInt = g384866.toInt + 1 := gI_inc hz385538 (by decide) bg384866'' (by decide) (by decide)
                          have bz385538 : gB z385538 1 1000000 := ⟨by omega, by omega⟩
                          refine G_iinc (L' := [(5, .int z385538), (6, .ref q385291), (4, .ref q384019), (3, .int g383959), (0, .ref q360315), (1, .int p360316), (2, .int p360317)]) z385538 1 dr_cX17_rename_138 rfl hz385538.symm (Nat.le_of_ble_eq_true rfl) rfl ?_
                          refine G_goto 20 dr_cX17_rename_141 (by decide +kernel) ?_
                          refine G_lv (L' := [(5, .int z385538), (4, .ref q384019), (3, .int g383959), (0, .ref q360315), (1, .int p360316), (2, .int p360317)]) [0, 2, 3, 4, 5, 6] rfl ?_
                          exact ih20_384871 F385516 z385538 (gB_w bz385538 (by decide) (by decide)) hT385528 hs385526 (fun N hv hu hp => rPl_put hT384868 htq360315 rfl (x384870 N hv hu hp) n385518 hp385315 nb385318 hL385316 (fun _ _ _ _ z => z) (rNx_ren he385302 he385525 hu hv (Or.inl rfl) (Or.inr rfl) (Or.inl rfl) (by rw [← hp385315]; exact x384870 N hv hu hp _ nb385318 _ hL385316))) fk385527 (mz_up ez385538 (Int.le_trans bg384866''.2 (by decide)) hm20_384871)
                        · have r385539 : o385535.toInt ≠ 0 := gj_neq hc385536 (show Int32.toInt 0 = 0 by decide)
                          have bo385535' : gB o385535 1 1 := gB_t1 bo385535 r385539
                          refine G_aload 0 dr_cX17_rename_123 rfl ?_
                          refine Gp_get 1 hm385301 he385525 dr_cX17_rename_125 (gk_X15 D I) (Nat.le_of_ble_eq_true rfl) wr_9_178 rfl ?_
                          refine G_iload_n 5 dr_cX17_rename_128 rfl ?_
                          refine G_icmp_ne 138 dr_cX17_rename_129 (by decide +kernel) (fun hc385540 => ?_) (fun hc385540 => ?_)
                          · have r385541 : p385304.toInt ≠ p360316.toInt := gC_ne hc385540
                            obtain ⟨z385542, hz385542⟩ : ∃ z : Int32, z = g384866 + Int32.ofInt 1 := ⟨_, rfl⟩
                            have ez385542 : z385542.toInt = g384866.toInt + 1 := gI_inc hz385542 (by decide) bg384866'' (by decide) (by decide)
                            have bz385542 : gB z385542 1 1000000 := ⟨by omega, by omega⟩
                            refine G_iinc (L' := [(5, .int z385542), (6, .ref q385291), (4, .ref q384019), (3, .int g383959), (0, .ref q360315), (1, .int p360316), (2, .int p360317)]) z385542 1 dr_cX17_rename_138 rfl hz385542.symm (Nat.le_of_ble_eq_true rfl) rfl ?_
                            refine G_goto 20 dr_cX17_rename_141 (by decide +kernel) ?_
                            refine G_lv (L' := [(5, .int z385542), (4, .ref q384019), (3, .int g383959), (0, .ref q360315), (1, .int p360316), (2, .int p360317)]) [0, 2, 3, 4, 5, 6] rfl ?_
                            exact ih20_384871 F385516 z385542 (gB_w bz385542 (by decide) (by decide)) hT385528 hs385526 (fun N hv hu hp => rPl_put hT384868 htq360315 rfl (x384870 N hv hu hp) n385518 hp385315 nb385318 hL385316 (fun _ _ _ _ z => z) (rNx_ren he385302 he385525 hu hv (Or.inl rfl) (Or.inr rfl) (Or.inl rfl) (by rw [← hp385315]; exact x384870 N hv hu hp _ nb385318 _ hL385316))) fk385527 (mz_up ez385542 (Int.le_trans bg384866''.2 (by decide)) hm20_384871)
                          · have r385543 : p385304.toInt = p360316.toInt := gC_eq hc385540
                            refine G_aload 0 dr_cX17_rename_132 rfl ?_
                            refine G_iload_n 6 dr_cX17_rename_134 rfl ?_
                            refine Gp_put 1 hm385301 he385525 dr_cX17_rename_135 (gk_X15 D I) (Nat.le_of_ble_eq_true rfl) wr_9_178 rfl rfl rfl (Nat.le_of_ble_eq_true rfl) (fun F385544 e385545 n385546 => ?_)
                            have he385547 : F385544 q360315 = .inr (18, [.ref q383970, .ref q383971, .int p383972, .int p383973]) := (n385546 q360315 (rn_oo he385519 he385525 (by decide))).trans he385519
                            have he385548 : F385544 q383970 = .inr (4, [.int p384000, .ref q384002, .int p384001]) := (n385546 q383970 (rn_oo he385520 he385525 (by decide))).trans he385520
                            have he385549 : F385544 q384002 = .inl (I (.object "java/lang/Object"), n384016, .inr (.inr (.inr (.inr f384017)))) := (n385546 q384002 (rn_ao he385521 he385525)).trans he385521
                            have he385550 : F385544 q384019 = .inr (17, [.ref q384028, .ref q384029, .int p384030, .int p384031]) := (n385546 q384019 (rn_oo he385522 he385525 (by decide))).trans he385522
                            have he385551 : F385544 q384028 = .inr (4, [.int p384881, .ref q384883, .int p384882]) := (n385546 q384028 (rn_oo he385523 he385525 (by decide))).trans he385523
                            have he385552 : F385544 q384883 = .inl (I (.object "java/lang/Object"), n385288, .inr (.inr (.inr (.inr f385289)))) := (n385546 q384883 (rn_ao he385524 he385525)).trans he385524
                            have he385553 : F385544 q385291 = .inr (20, [.int p385303, .int p360317, .int p385305, .int p360317, .int p385307, .int p385308, .int p385309]) := e385545
                            have hs385554 : rStr γ [1] F360314 F385544 := rStr_pu2 hs385526 n385546 ht385294 (by decide)
                            have fk385555 : rFk [1] γ F360314 F385544 := rFk_put fk385527 n385546 ht385294 (by decide)
                            obtain ⟨z385556, hz385556⟩ : ∃ z : Int32, z = g384866 + Int32.ofInt 1 := ⟨_, rfl⟩
                            have ez385556 : z385556.toInt = g384866.toInt + 1 := gI_inc hz385556 (by decide) bg384866'' (by decide) (by decide)
                            have bz385556 : gB z385556 1 1000000 := ⟨by omega, by omega⟩
                            refine G_iinc (L' := [(5, .int z385556), (6, .ref q385291), (4, .ref q384019), (3, .int g383959), (0, .ref q360315), (1, .int p360316), (2, .int p360317)]) z385556 1 dr_cX17_rename_138 rfl hz385556.symm (Nat.le_of_ble_eq_true rfl) rfl ?_
                            refine G_goto 20 dr_cX17_rename_141 (by decide +kernel) ?_
                            have hT385557 : RS D I P360313 F385544 γ el := RS_set hT385528 n385546 ht385294 (by decide) ⟨p385303, p360317, p385305, p360317, p385307, p385308, p385309, he385553, bp385303, bp360317, bp385307, bp385308, bp385309, r385310, r385311, (Or.inr bp360317), r385313, r385314⟩
                            have of385558 : ∀ b, b ≠ q385291 → F385544 b = F384867 b := fun b hb => (n385546 b hb).trans (n385518 b hb)
                            refine G_lv (L' := [(5, .int z385556), (4, .ref q384019), (3, .int g383959), (0, .ref q360315), (1, .int p360316), (2, .int p360317)]) [0, 2, 3, 4, 5, 6] rfl ?_
                            exact ih20_384871 F385544 z385556 (gB_w bz385556 (by decide) (by decide)) hT385557 hs385554 (fun N hv hu hp => rPl_put hT384868 htq360315 rfl (x384870 N hv hu hp) of385558 hp385315 nb385318 hL385316 (fun _ _ _ _ z => z) (rNx_ren he385302 he385553 hu hv (Or.inl rfl) (Or.inr rfl) (Or.inr ⟨rfl, by first | assumption | omega⟩) (by rw [← hp385315]; exact x384870 N hv hu hp _ nb385318 _ hL385316))) fk385555 (mz_up ez385556 (Int.le_trans bg384866''.2 (by decide)) hm20_384871)
                  · have r385559 : p385305.toInt = p360316.toInt := gC_eq hc385443
                    have bp385305' : gB p385305 0 1999 := ⟨by omega, by omega⟩
                    refine G_aload 0 dr_cX17_rename_86 rfl ?_
                    refine G_iload_n 6 dr_cX17_rename_88 rfl ?_
                    refine Gp_put 2 hm385301 he385302 dr_cX17_rename_89 (gk_X15 D I) (Nat.le_of_ble_eq_true rfl) wr_9_182 rfl rfl rfl (Nat.le_of_ble_eq_true rfl) (fun F385560 e385561 n385562 => ?_)
                    have he385563 : F385560 q360315 = .inr (18, [.ref q383970, .ref q383971, .int p383972, .int p383973]) := (n385562 q360315 (rn_oo he384874 he385302 (by decide))).trans he384874
                    have he385564 : F385560 q383970 = .inr (4, [.int p384000, .ref q384002, .int p384001]) := (n385562 q383970 (rn_oo he384875 he385302 (by decide))).trans he384875
                    have he385565 : F385560 q384002 = .inl (I (.object "java/lang/Object"), n384016, .inr (.inr (.inr (.inr f384017)))) := (n385562 q384002 (rn_ao he384876 he385302)).trans he384876
                    have he385566 : F385560 q384019 = .inr (17, [.ref q384028, .ref q384029, .int p384030, .int p384031]) := (n385562 q384019 (rn_oo he384877 he385302 (by decide))).trans he384877
                    have he385567 : F385560 q384028 = .inr (4, [.int p384881, .ref q384883, .int p384882]) := (n385562 q384028 (rn_oo he384880 he385302 (by decide))).trans he384880
                    have he385568 : F385560 q384883 = .inl (I (.object "java/lang/Object"), n385288, .inr (.inr (.inr (.inr f385289)))) := (n385562 q384883 (rn_ao r385282 he385302)).trans r385282
                    have he385569 : F385560 q385291 = .inr (20, [.int p385303, .int p385304, .int p360317, .int p385306, .int p385307, .int p385308, .int p385309]) := e385561
                    have hs385570 : rStr γ [1] F360314 F385560 := rStr_pu2 hs384869 n385562 ht385294 (by decide)
                    have fk385571 : rFk [1] γ F360314 F385560 := rFk_put x384871 n385562 ht385294 (by decide)
                    refine G_aload 0 dr_cX17_rename_92 rfl ?_
                    have hT385572 : RS D I P360313 F385560 γ el := RS_set hT384868 n385562 ht385294 (by decide) ⟨p385303, p385304, p360317, p385306, p385307, p385308, p385309, he385569, bp385303, bp385304, bp385307, bp385308, bp385309, r385310, (Or.inr bp360317), r385312, r385313, r385314⟩
                    refine Gw_callV (As := []) (gV_ok D I) (cp_1693_Row_usesB l hl0 D I P360313 F385560 q385291 p385303 p385304 p360317 p385306 p385307 p385308 p385309 hm385301 he385569 bp385303 bp385304 bp385307 bp385308 bp385309) dr_cX17_rename_94 ⟨wr_10_192, wr_1_39, wr_10_195, by decide, rfl, (Nat.le_of_ble_eq_true rfl), (Nat.le_of_ble_eq_true rfl)⟩ wr_10_193 wr_10_194 hm385301 he385569 rfl (show 0 + 0 ≤ 0 by first | omega | decide) (show 0 + 0 ≤ 0 by first | omega | decide) (Nat.le_of_ble_eq_true rfl) (fun r385577 w385578 dc385574 ds385575 hp385576 => ?_) (fun _ _ _ _ _ z => z.elim)
                    obtain ⟨o385579, rfl, rfl, hdc, hds, bo385579, x385580⟩ := hp385576
                    change G _ _ _ _ _ _ _ (.int o385579 :: _) _ _ _
                    refine G_widen (cs' := 0) (sl' := 0) (by omega) (by omega) ?_
                    refine G_if_eq 115 dr_cX17_rename_97 (by decide +kernel) (fun hc385581 => ?_) (fun hc385581 => ?_)
                    · have r385582 : o385579.toInt = 0 := gj_eq hc385581 (show Int32.toInt 0 = 0 by decide)
                      have bo385579' : gB o385579 0 0 := gB_t0 r385582
                      refine G_aload 0 dr_cX17_rename_115 rfl ?_
                      refine Gw_callV (As := []) (gV_ok D I) (cp_1654_Row_sets l hl0 D I P360313 F385560 q385291 p385303 p385304 p360317 p385306 p385307 p385308 p385309 hm385301 he385569 bp385303 bp385304 bp385307 bp385308 bp385309) dr_cX17_rename_117 ⟨wr_10_177, wr_1_39, wr_10_180, by decide, rfl, (Nat.le_of_ble_eq_true rfl), (Nat.le_of_ble_eq_true rfl)⟩ wr_10_178 wr_10_179 hm385301 he385569 rfl (show 0 + 0 ≤ 0 by first | omega | decide) (show 0 + 0 ≤ 0 by first | omega | decide) (Nat.le_of_ble_eq_true rfl) (fun r385586 w385587 dc385583 ds385584 hp385585 => ?_) (fun _ _ _ _ _ z => z.elim)
                      obtain ⟨o385588, rfl, rfl, hdc, hds, bo385588⟩ := hp385585
                      change G _ _ _ _ _ _ _ (.int o385588 :: _) _ _ _
                      refine G_widen (cs' := 0) (sl' := 0) (by omega) (by omega) ?_
                      refine G_if_eq 138 dr_cX17_rename_120 (by decide +kernel) (fun hc385589 => ?_) (fun hc385589 => ?_)
                      · have r385590 : o385588.toInt = 0 := gj_eq hc385589 (show Int32.toInt 0 = 0 by decide)
                        have bo385588' : gB o385588 0 0 := gB_t0 r385590
                        obtain ⟨z385591, hz385591⟩ : ∃ z : Int32, z = g384866 + Int32.ofInt 1 := ⟨_, rfl⟩
                        have ez385591 : z385591.toInt = g384866.toInt + 1 := gI_inc hz385591 (by decide) bg384866'' (by decide) (by decide)
                        have bz385591 : gB z385591 1 1000000 := ⟨by omega, by omega⟩
                        refine G_iinc (L' := [(5, .int z385591), (6, .ref q385291), (4, .ref q384019), (3, .int g383959), (0, .ref q360315), (1, .int p360316), (2, .int p360317)]) z385591 1 dr_cX17_rename_138 rfl hz385591.symm (Nat.le_of_ble_eq_true rfl) rfl ?_
                        refine G_goto 20 dr_cX17_rename_141 (by decide +kernel) ?_
                        refine G_lv (L' := [(5, .int z385591), (4, .ref q384019), (3, .int g383959), (0, .ref q360315), (1, .int p360316), (2, .int p360317)]) [0, 2, 3, 4, 5, 6] rfl ?_
                        exact ih20_384871 F385560 z385591 (gB_w bz385591 (by decide) (by decide)) hT385572 hs385570 (fun N hv hu hp => rPl_put hT384868 htq360315 rfl (x384870 N hv hu hp) n385562 hp385315 nb385318 hL385316 (fun _ _ _ _ z => z) (rNx_ren he385302 he385569 hu hv (Or.inr rfl) (Or.inl rfl) (Or.inl rfl) (by rw [← hp385315]; exact x384870 N hv hu hp _ nb385318 _ hL385316))) fk385571 (mz_up ez385591 (Int.le_trans bg384866''.2 (by decide)) hm20_384871)
                      · have r385592 : o385588.toInt ≠ 0 := gj_neq hc385589 (show Int32.toInt 0 = 0 by decide)
                        have bo385588' : gB o385588 1 1 := gB_t1 bo385588 r385592
                        refine G_aload 0 dr_cX17_rename_123 rfl ?_
                        refine Gp_get 1 hm385301 he385569 dr_cX17_rename_125 (gk_X15 D I) (Nat.le_of_ble_eq_true rfl) wr_9_178 rfl ?_
                        refine G_iload_n 5 dr_cX17_rename_128 rfl ?_
                        refine G_icmp_ne 138 dr_cX17_rename_129 (by decide +kernel) (fun hc385593 => ?_) (fun hc385593 => ?_)
                        · have r385594 : p385304.toInt ≠ p360316.toInt := gC_ne hc385593
                          obtain ⟨z385595, hz385595⟩ : ∃ z : Int32, z = g384866 + Int32.ofInt 1 := ⟨_, rfl⟩
                          have ez385595 : z385595.toInt = g384866.toInt + 1 := gI_inc hz385595 (by decide) bg384866'' (by decide) (by decide)
                          have bz385595 : gB z385595 1 1000000 := ⟨by omega, by omega⟩
                          refine G_iinc (L' := [(5, .int z385595), (6, .ref q385291), (4, .ref q384019), (3, .int g383959), (0, .ref q360315), (1, .int p360316), (2, .int p360317)]) z385595 1 dr_cX17_rename_138 rfl hz385595.symm (Nat.le_of_ble_eq_true rfl) rfl ?_
                          refine G_goto 20 dr_cX17_rename_141 (by decide +kernel) ?_
                          refine G_lv (L' := [(5, .int z385595), (4, .ref q384019), (3, .int g383959), (0, .ref q360315), (1, .int p360316), (2, .int p360317)]) [0, 2, 3, 4, 5, 6] rfl ?_
                          exact ih20_384871 F385560 z385595 (gB_w bz385595 (by decide) (by decide)) hT385572 hs385570 (fun N hv hu hp => rPl_put hT384868 htq360315 rfl (x384870 N hv hu hp) n385562 hp385315 nb385318 hL385316 (fun _ _ _ _ z => z) (rNx_ren he385302 he385569 hu hv (Or.inr rfl) (Or.inl rfl) (Or.inl rfl) (by rw [← hp385315]; exact x384870 N hv hu hp _ nb385318 _ hL385316))) fk385571 (mz_up ez385595 (Int.le_trans bg384866''.2 (by decide)) hm20_384871)
                        · have r385596 : p385304.toInt = p360316.toInt := gC_eq hc385593
                          refine G_aload 0 dr_cX17_rename_132 rfl ?_
                          refine G_iload_n 6 dr_cX17_rename_134 rfl ?_
                          refine Gp_put 1 hm385301 he385569 dr_cX17_rename_135 (gk_X15 D I) (Nat.le_of_ble_eq_true rfl) wr_9_178 rfl rfl rfl (Nat.le_of_ble_eq_true rfl) (fun F385597 e385598 n385599 => ?_)
                          have he385600 : F385597 q360315 = .inr (18, [.ref q383970, .ref q383971, .int p383972, .int p383973]) := (n385599 q360315 (rn_oo he385563 he385569 (by decide))).trans he385563
                          have he385601 : F385597 q383970 = .inr (4, [.int p384000, .ref q384002, .int p384001]) := (n385599 q383970 (rn_oo he385564 he385569 (by decide))).trans he385564
                          have he385602 : F385597 q384002 = .inl (I (.object "java/lang/Object"), n384016, .inr (.inr (.inr (.inr f384017)))) := (n385599 q384002 (rn_ao he385565 he385569)).trans he385565
                          have he385603 : F385597 q384019 = .inr (17, [.ref q384028, .ref q384029, .int p384030, .int p384031]) := (n385599 q384019 (rn_oo he385566 he385569 (by decide))).trans he385566
                          have he385604 : F385597 q384028 = .inr (4, [.int p384881, .ref q384883, .int p384882]) := (n385599 q384028 (rn_oo he385567 he385569 (by decide))).trans he385567
                          have he385605 : F385597 q384883 = .inl (I (.object "java/lang/Object"), n385288, .inr (.inr (.inr (.inr f385289)))) := (n385599 q384883 (rn_ao he385568 he385569)).trans he385568
                          have he385606 : F385597 q385291 = .inr (20, [.int p385303, .int p360317, .int p360317, .int p385306, .int p385307, .int p385308, .int p385309]) := e385598
                          have hs385607 : rStr γ [1] F360314 F385597 := rStr_pu2 hs385570 n385599 ht385294 (by decide)
                          have fk385608 : rFk [1] γ F360314 F385597 := rFk_put fk385571 n385599 ht385294 (by decide)
                          obtain ⟨z385609, hz385609⟩ : ∃ z : Int32, z = g384866 + Int32.ofInt 1 := ⟨_, rfl⟩
                          have ez385609 : z385609.toInt = g384866.toInt + 1 := gI_inc hz385609 (by decide) bg384866'' (by decide) (by decide)
                          have bz385609 : gB z385609 1 1000000 := ⟨by omega, by omega⟩
                          refine G_iinc (L' := [(5, .int z385609), (6, .ref q385291), (4, .ref q384019), (3, .int g383959), (0, .ref q360315), (1, .int p360316), (2, .int p360317)]) z385609 1 dr_cX17_rename_138 rfl hz385609.symm (Nat.le_of_ble_eq_true rfl) rfl ?_
                          refine G_goto 20 dr_cX17_rename_141 (by decide +kernel) ?_
                          have hT385610 : RS D I P360313 F385597 γ el := RS_set hT385572 n385599 ht385294 (by decide) ⟨p385303, p360317, p360317, p385306, p385307, p385308, p385309, he385606, bp385303, bp360317, bp385307, bp385308, bp385309, r385310, (Or.inr bp360317), r385312, r385313, r385314⟩
                          have of385611 : ∀ b, b ≠ q385291 → F385597 b = F384867 b := fun b hb => (n385599 b hb).trans (n385562 b hb)
                          refine G_lv (L' := [(5, .int z385609), (4, .ref q384019), (3, .int g383959), (0, .ref q360315), (1, .int p360316), (2, .int p360317)]) [0, 2, 3, 4, 5, 6] rfl ?_
                          exact ih20_384871 F385597 z385609 (gB_w bz385609 (by decide) (by decide)) hT385610 hs385607 (fun N hv hu hp => rPl_put hT384868 htq360315 rfl (x384870 N hv hu hp) of385611 hp385315 nb385318 hL385316 (fun _ _ _ _ z => z) (rNx_ren he385302 he385606 hu hv (Or.inr rfl) (Or.inl rfl) (Or.inr ⟨rfl, by first | assumption | omega⟩) (by rw [← hp385315]; exact x384870 N hv hu hp _ nb385318 _ hL385316))) fk385608 (mz_up ez385609 (Int.le_trans bg384866''.2 (by decide)) hm20_384871)
                    · have r385612 : o385579.toInt ≠ 0 := gj_neq hc385581 (show Int32.toInt 0 = 0 by decide)
                      have bo385579' : gB o385579 1 1 := gB_t1 bo385579 r385612
                      refine G_aload 0 dr_cX17_rename_100 rfl ?_
                      refine Gp_get 3 hm385301 he385569 dr_cX17_rename_102 (gk_X15 D I) (Nat.le_of_ble_eq_true rfl) wr_9_186 rfl ?_
                      refine G_iload_n 5 dr_cX17_rename_105 rfl ?_
                      refine G_icmp_ne 115 dr_cX17_rename_106 (by decide +kernel) (fun hc385613 => ?_) (fun hc385613 => ?_)
                      · have r385614 : p385306.toInt ≠ p360316.toInt := gC_ne hc385613
                        refine G_aload 0 dr_cX17_rename_115 rfl ?_
                        refine Gw_callV (As := []) (gV_ok D I) (cp_1654_Row_sets l hl0 D I P360313 F385560 q385291 p385303 p385304 p360317 p385306 p385307 p385308 p385309 hm385301 he385569 bp385303 bp385304 bp385307 bp385308 bp385309) dr_cX17_rename_117 ⟨wr_10_177, wr_1_39, wr_10_180, by decide, rfl, (Nat.le_of_ble_eq_true rfl), (Nat.le_of_ble_eq_true rfl)⟩ wr_10_178 wr_10_179 hm385301 he385569 rfl (show 0 + 0 ≤ 0 by first | omega | decide) (show 0 + 0 ≤ 0 by first | omega | decide) (Nat.le_of_ble_eq_true rfl) (fun r385618 w385619 dc385615 ds385616 hp385617 => ?_) (fun _ _ _ _ _ z => z.elim)
                        obtain ⟨o385620, rfl, rfl, hdc, hds, bo385620⟩ := hp385617
                        change G _ _ _ _ _ _ _ (.int o385620 :: _) _ _ _
                        refine G_widen (cs' := 0) (sl' := 0) (by omega) (by omega) ?_
                        refine G_if_eq 138 dr_cX17_rename_120 (by decide +kernel) (fun hc385621 => ?_) (fun hc385621 => ?_)
                        · have r385622 : o385620.toInt = 0 := gj_eq hc385621 (show Int32.toInt 0 = 0 by decide)
                          have bo385620' : gB o385620 0 0 := gB_t0 r385622
                          obtain ⟨z385623, hz385623⟩ : ∃ z : Int32, z = g384866 + Int32.ofInt 1 := ⟨_, rfl⟩
                          have ez385623 : z385623.toInt = g384866.toInt + 1 := gI_inc hz385623 (by decide) bg384866'' (by decide) (by decide)
                          have bz385623 : gB z385623 1 1000000 := ⟨by omega, by omega⟩
                          refine G_iinc (L' := [(5, .int z385623), (6, .ref q385291), (4, .ref q384019), (3, .int g383959), (0, .ref q360315), (1, .int p360316), (2, .int p360317)]) z385623 1 dr_cX17_rename_138 rfl hz385623.symm (Nat.le_of_ble_eq_true rfl) rfl ?_
                          refine G_goto 20 dr_cX17_rename_141 (by decide +kernel) ?_
                          refine G_lv (L' := [(5, .int z385623), (4, .ref q384019), (3, .int g383959), (0, .ref q360315), (1, .int p360316), (2, .int p360317)]) [0, 2, 3, 4, 5, 6] rfl ?_
                          exact ih20_384871 F385560 z385623 (gB_w bz385623 (by decide) (by decide)) hT385572 hs385570 (fun N hv hu hp => rPl_put hT384868 htq360315 rfl (x384870 N hv hu hp) n385562 hp385315 nb385318 hL385316 (fun _ _ _ _ z => z) (rNx_ren he385302 he385569 hu hv (Or.inr rfl) (Or.inl rfl) (Or.inl rfl) (by rw [← hp385315]; exact x384870 N hv hu hp _ nb385318 _ hL385316))) fk385571 (mz_up ez385623 (Int.le_trans bg384866''.2 (by decide)) hm20_384871)
                        · have r385624 : o385620.toInt ≠ 0 := gj_neq hc385621 (show Int32.toInt 0 = 0 by decide)
                          have bo385620' : gB o385620 1 1 := gB_t1 bo385620 r385624
                          refine G_aload 0 dr_cX17_rename_123 rfl ?_
                          refine Gp_get 1 hm385301 he385569 dr_cX17_rename_125 (gk_X15 D I) (Nat.le_of_ble_eq_true rfl) wr_9_178 rfl ?_
                          refine G_iload_n 5 dr_cX17_rename_128 rfl ?_
                          refine G_icmp_ne 138 dr_cX17_rename_129 (by decide +kernel) (fun hc385625 => ?_) (fun hc385625 => ?_)
                          · have r385626 : p385304.toInt ≠ p360316.toInt := gC_ne hc385625
                            obtain ⟨z385627, hz385627⟩ : ∃ z : Int32, z = g384866 + Int32.ofInt 1 := ⟨_, rfl⟩
                            have ez385627 : z385627.toInt = g384866.toInt + 1 := gI_inc hz385627 (by decide) bg384866'' (by decide) (by decide)
                            have bz385627 : gB z385627 1 1000000 := ⟨by omega, by omega⟩
                            refine G_iinc (L' := [(5, .int z385627), (6, .ref q385291), (4, .ref q384019), (3, .int g383959), (0, .ref q360315), (1, .int p360316), (2, .int p360317)]) z385627 1 dr_cX17_rename_138 rfl hz385627.symm (Nat.le_of_ble_eq_true rfl) rfl ?_
                            refine G_goto 20 dr_cX17_rename_141 (by decide +kernel) ?_
                            refine G_lv (L' := [(5, .int z385627), (4, .ref q384019), (3, .int g383959), (0, .ref q360315), (1, .int p360316), (2, .int p360317)]) [0, 2, 3, 4, 5, 6] rfl ?_
                            exact ih20_384871 F385560 z385627 (gB_w bz385627 (by decide) (by decide)) hT385572 hs385570 (fun N hv hu hp => rPl_put hT384868 htq360315 rfl (x384870 N hv hu hp) n385562 hp385315 nb385318 hL385316 (fun _ _ _ _ z => z) (rNx_ren he385302 he385569 hu hv (Or.inr rfl) (Or.inl rfl) (Or.inl rfl) (by rw [← hp385315]; exact x384870 N hv hu hp _ nb385318 _ hL385316))) fk385571 (mz_up ez385627 (Int.le_trans bg384866''.2 (by decide)) hm20_384871)
                          · have r385628 : p385304.toInt = p360316.toInt := gC_eq hc385625
                            refine G_aload 0 dr_cX17_rename_132 rfl ?_
                            refine G_iload_n 6 dr_cX17_rename_134 rfl ?_
                            refine Gp_put 1 hm385301 he385569 dr_cX17_rename_135 (gk_X15 D I) (Nat.le_of_ble_eq_true rfl) wr_9_178 rfl rfl rfl (Nat.le_of_ble_eq_true rfl) (fun F385629 e385630 n385631 => ?_)
                            have he385632 : F385629 q360315 = .inr (18, [.ref q383970, .ref q383971, .int p383972, .int p383973]) := (n385631 q360315 (rn_oo he385563 he385569 (by decide))).trans he385563
                            have he385633 : F385629 q383970 = .inr (4, [.int p384000, .ref q384002, .int p384001]) := (n385631 q383970 (rn_oo he385564 he385569 (by decide))).trans he385564
                            have he385634 : F385629 q384002 = .inl (I (.object "java/lang/Object"), n384016, .inr (.inr (.inr (.inr f384017)))) := (n385631 q384002 (rn_ao he385565 he385569)).trans he385565
                            have he385635 : F385629 q384019 = .inr (17, [.ref q384028, .ref q384029, .int p384030, .int p384031]) := (n385631 q384019 (rn_oo he385566 he385569 (by decide))).trans he385566
                            have he385636 : F385629 q384028 = .inr (4, [.int p384881, .ref q384883, .int p384882]) := (n385631 q384028 (rn_oo he385567 he385569 (by decide))).trans he385567
                            have he385637 : F385629 q384883 = .inl (I (.object "java/lang/Object"), n385288, .inr (.inr (.inr (.inr f385289)))) := (n385631 q384883 (rn_ao he385568 he385569)).trans he385568
                            have he385638 : F385629 q385291 = .inr (20, [.int p385303, .int p360317, .int p360317, .int p385306, .int p385307, .int p385308, .int p385309]) := e385630
                            have hs385639 : rStr γ [1] F360314 F385629 := rStr_pu2 hs385570 n385631 ht385294 (by decide)
                            have fk385640 : rFk [1] γ F360314 F385629 := rFk_put fk385571 n385631 ht385294 (by decide)
                            obtain ⟨z385641, hz385641⟩ : ∃ z : Int32, z = g384866 + Int32.ofInt 1 := ⟨_, rfl⟩
                            have ez385641 : z385641.toInt = g384866.toInt + 1 := gI_inc hz385641 (by decide) bg384866'' (by decide) (by decide)
                            have bz385641 : gB z385641 1 1000000 := ⟨by omega, by omega⟩
                            refine G_iinc (L' := [(5, .int z385641), (6, .ref q385291), (4, .ref q384019), (3, .int g383959), (0, .ref q360315), (1, .int p360316), (2, .int p360317)]) z385641 1 dr_cX17_rename_138 rfl hz385641.symm (Nat.le_of_ble_eq_true rfl) rfl ?_
                            refine G_goto 20 dr_cX17_rename_141 (by decide +kernel) ?_
                            have hT385642 : RS D I P360313 F385629 γ el := RS_set hT385572 n385631 ht385294 (by decide) ⟨p385303, p360317, p360317, p385306, p385307, p385308, p385309, he385638, bp385303, bp360317, bp385307, bp385308, bp385309, r385310, (Or.inr bp360317), r385312, r385313, r385314⟩
                            have of385643 : ∀ b, b ≠ q385291 → F385629 b = F384867 b := fun b hb => (n385631 b hb).trans (n385562 b hb)
                            refine G_lv (L' := [(5, .int z385641), (4, .ref q384019), (3, .int g383959), (0, .ref q360315), (1, .int p360316), (2, .int p360317)]) [0, 2, 3, 4, 5, 6] rfl ?_
                            exact ih20_384871 F385629 z385641 (gB_w bz385641 (by decide) (by decide)) hT385642 hs385639 (fun N hv hu hp => rPl_put hT384868 htq360315 rfl (x384870 N hv hu hp) of385643 hp385315 nb385318 hL385316 (fun _ _ _ _ z => z) (rNx_ren he385302 he385638 hu hv (Or.inr rfl) (Or.inl rfl) (Or.inr ⟨rfl, by first | assumption | omega⟩) (by rw [← hp385315]; exact x384870 N hv hu hp _ nb385318 _ hL385316))) fk385640 (mz_up ez385641 (Int.le_trans bg384866''.2 (by decide)) hm20_384871)
                      · have r385644 : p385306.toInt = p360316.toInt := gC_eq hc385613
                        have bp385306' : gB p385306 0 1999 := ⟨by omega, by omega⟩
                        refine G_aload 0 dr_cX17_rename_109 rfl ?_
                        refine G_iload_n 6 dr_cX17_rename_111 rfl ?_
                        refine Gp_put 3 hm385301 he385569 dr_cX17_rename_112 (gk_X15 D I) (Nat.le_of_ble_eq_true rfl) wr_9_186 rfl rfl rfl (Nat.le_of_ble_eq_true rfl) (fun F385645 e385646 n385647 => ?_)
                        have he385648 : F385645 q360315 = .inr (18, [.ref q383970, .ref q383971, .int p383972, .int p383973]) := (n385647 q360315 (rn_oo he385563 he385569 (by decide))).trans he385563
                        have he385649 : F385645 q383970 = .inr (4, [.int p384000, .ref q384002, .int p384001]) := (n385647 q383970 (rn_oo he385564 he385569 (by decide))).trans he385564
                        have he385650 : F385645 q384002 = .inl (I (.object "java/lang/Object"), n384016, .inr (.inr (.inr (.inr f384017)))) := (n385647 q384002 (rn_ao he385565 he385569)).trans he385565
                        have he385651 : F385645 q384019 = .inr (17, [.ref q384028, .ref q384029, .int p384030, .int p384031]) := (n385647 q384019 (rn_oo he385566 he385569 (by decide))).trans he385566
                        have he385652 : F385645 q384028 = .inr (4, [.int p384881, .ref q384883, .int p384882]) := (n385647 q384028 (rn_oo he385567 he385569 (by decide))).trans he385567
                        have he385653 : F385645 q384883 = .inl (I (.object "java/lang/Object"), n385288, .inr (.inr (.inr (.inr f385289)))) := (n385647 q384883 (rn_ao he385568 he385569)).trans he385568
                        have he385654 : F385645 q385291 = .inr (20, [.int p385303, .int p385304, .int p360317, .int p360317, .int p385307, .int p385308, .int p385309]) := e385646
                        have hs385655 : rStr γ [1] F360314 F385645 := rStr_pu2 hs385570 n385647 ht385294 (by decide)
                        have fk385656 : rFk [1] γ F360314 F385645 := rFk_put fk385571 n385647 ht385294 (by decide)
                        refine G_aload 0 dr_cX17_rename_115 rfl ?_
                        have hT385657 : RS D I P360313 F385645 γ el := RS_set hT385572 n385647 ht385294 (by decide) ⟨p385303, p385304, p360317, p360317, p385307, p385308, p385309, he385654, bp385303, bp385304, bp385307, bp385308, bp385309, r385310, (Or.inr bp360317), (Or.inr bp360317), r385313, r385314⟩
                        have of385658 : ∀ b, b ≠ q385291 → F385645 b = F384867 b := fun b hb => (n385647 b hb).trans (n385562 b hb)
                        refine Gw_callV (As := []) (gV_ok D I) (cp_1654_Row_sets l hl0 D I P360313 F385645 q385291 p385303 p385304 p360317 p360317 p385307 p385308 p385309 hm385301 he385654 bp385303 bp385304 bp385307 bp385308 bp385309) dr_cX17_rename_117 ⟨wr_10_177, wr_1_39, wr_10_180, by decide, rfl, (Nat.le_of_ble_eq_true rfl), (Nat.le_of_ble_eq_true rfl)⟩ wr_10_178 wr_10_179 hm385301 he385654 rfl (show 0 + 0 ≤ 0 by first | omega | decide) (show 0 + 0 ≤ 0 by first | omega | decide) (Nat.le_of_ble_eq_true rfl) (fun r385662 w385663 dc385659 ds385660 hp385661 => ?_) (fun _ _ _ _ _ z => z.elim)
                        obtain ⟨o385664, rfl, rfl, hdc, hds, bo385664⟩ := hp385661
                        change G _ _ _ _ _ _ _ (.int o385664 :: _) _ _ _
                        refine G_widen (cs' := 0) (sl' := 0) (by omega) (by omega) ?_
                        refine G_if_eq 138 dr_cX17_rename_120 (by decide +kernel) (fun hc385665 => ?_) (fun hc385665 => ?_)
                        · have r385666 : o385664.toInt = 0 := gj_eq hc385665 (show Int32.toInt 0 = 0 by decide)
                          have bo385664' : gB o385664 0 0 := gB_t0 r385666
                          obtain ⟨z385667, hz385667⟩ : ∃ z : Int32, z = g384866 + Int32.ofInt 1 := ⟨_, rfl⟩
                          have ez385667 : z385667.toInt = g384866.toInt + 1 := gI_inc hz385667 (by decide) bg384866'' (by decide) (by decide)
                          have bz385667 : gB z385667 1 1000000 := ⟨by omega, by omega⟩
                          refine G_iinc (L' := [(5, .int z385667), (6, .ref q385291), (4, .ref q384019), (3, .int g383959), (0, .ref q360315), (1, .int p360316), (2, .int p360317)]) z385667 1 dr_cX17_rename_138 rfl hz385667.symm (Nat.le_of_ble_eq_true rfl) rfl ?_
                          refine G_goto 20 dr_cX17_rename_141 (by decide +kernel) ?_
                          refine G_lv (L' := [(5, .int z385667), (4, .ref q384019), (3, .int g383959), (0, .ref q360315), (1, .int p360316), (2, .int p360317)]) [0, 2, 3, 4, 5, 6] rfl ?_
                          exact ih20_384871 F385645 z385667 (gB_w bz385667 (by decide) (by decide)) hT385657 hs385655 (fun N hv hu hp => rPl_put hT384868 htq360315 rfl (x384870 N hv hu hp) of385658 hp385315 nb385318 hL385316 (fun _ _ _ _ z => z) (rNx_ren he385302 he385654 hu hv (Or.inr rfl) (Or.inr rfl) (Or.inl rfl) (by rw [← hp385315]; exact x384870 N hv hu hp _ nb385318 _ hL385316))) fk385656 (mz_up ez385667 (Int.le_trans bg384866''.2 (by decide)) hm20_384871)
                        · have r385668 : o385664.toInt ≠ 0 := gj_neq hc385665 (show Int32.toInt 0 = 0 by decide)
                          have bo385664' : gB o385664 1 1 := gB_t1 bo385664 r385668
                          refine G_aload 0 dr_cX17_rename_123 rfl ?_
                          refine Gp_get 1 hm385301 he385654 dr_cX17_rename_125 (gk_X15 D I) (Nat.le_of_ble_eq_true rfl) wr_9_178 rfl ?_
                          refine G_iload_n 5 dr_cX17_rename_128 rfl ?_
                          refine G_icmp_ne 138 dr_cX17_rename_129 (by decide +kernel) (fun hc385669 => ?_) (fun hc385669 => ?_)
                          · have r385670 : p385304.toInt ≠ p360316.toInt := gC_ne hc385669
                            obtain ⟨z385671, hz385671⟩ : ∃ z : Int32, z = g384866 + Int32.ofInt 1 := ⟨_, rfl⟩
                            have ez385671 : z385671.toInt = g384866.toInt + 1 := gI_inc hz385671 (by decide) bg384866'' (by decide) (by decide)
                            have bz385671 : gB z385671 1 1000000 := ⟨by omega, by omega⟩
                            refine G_iinc (L' := [(5, .int z385671), (6, .ref q385291), (4, .ref q384019), (3, .int g383959), (0, .ref q360315), (1, .int p360316), (2, .int p360317)]) z385671 1 dr_cX17_rename_138 rfl hz385671.symm (Nat.le_of_ble_eq_true rfl) rfl ?_
                            refine G_goto 20 dr_cX17_rename_141 (by decide +kernel) ?_
                            refine G_lv (L' := [(5, .int z385671), (4, .ref q384019), (3, .int g383959), (0, .ref q360315), (1, .int p360316), (2, .int p360317)]) [0, 2, 3, 4, 5, 6] rfl ?_
                            exact ih20_384871 F385645 z385671 (gB_w bz385671 (by decide) (by decide)) hT385657 hs385655 (fun N hv hu hp => rPl_put hT384868 htq360315 rfl (x384870 N hv hu hp) of385658 hp385315 nb385318 hL385316 (fun _ _ _ _ z => z) (rNx_ren he385302 he385654 hu hv (Or.inr rfl) (Or.inr rfl) (Or.inl rfl) (by rw [← hp385315]; exact x384870 N hv hu hp _ nb385318 _ hL385316))) fk385656 (mz_up ez385671 (Int.le_trans bg384866''.2 (by decide)) hm20_384871)
                          · have r385672 : p385304.toInt = p360316.toInt := gC_eq hc385669
                            refine G_aload 0 dr_cX17_rename_132 rfl ?_
                            refine G_iload_n 6 dr_cX17_rename_134 rfl ?_
                            refine Gp_put 1 hm385301 he385654 dr_cX17_rename_135 (gk_X15 D I) (Nat.le_of_ble_eq_true rfl) wr_9_178 rfl rfl rfl (Nat.le_of_ble_eq_true rfl) (fun F385673 e385674 n385675 => ?_)
                            have he385676 : F385673 q360315 = .inr (18, [.ref q383970, .ref q383971, .int p383972, .int p383973]) := (n385675 q360315 (rn_oo he385648 he385654 (by decide))).trans he385648
                            have he385677 : F385673 q383970 = .inr (4, [.int p384000, .ref q384002, .int p384001]) := (n385675 q383970 (rn_oo he385649 he385654 (by decide))).trans he385649
                            have he385678 : F385673 q384002 = .inl (I (.object "java/lang/Object"), n384016, .inr (.inr (.inr (.inr f384017)))) := (n385675 q384002 (rn_ao he385650 he385654)).trans he385650
                            have he385679 : F385673 q384019 = .inr (17, [.ref q384028, .ref q384029, .int p384030, .int p384031]) := (n385675 q384019 (rn_oo he385651 he385654 (by decide))).trans he385651
                            have he385680 : F385673 q384028 = .inr (4, [.int p384881, .ref q384883, .int p384882]) := (n385675 q384028 (rn_oo he385652 he385654 (by decide))).trans he385652
                            have he385681 : F385673 q384883 = .inl (I (.object "java/lang/Object"), n385288, .inr (.inr (.inr (.inr f385289)))) := (n385675 q384883 (rn_ao he385653 he385654)).trans he385653
                            have he385682 : F385673 q385291 = .inr (20, [.int p385303, .int p360317, .int p360317, .int p360317, .int p385307, .int p385308, .int p385309]) := e385674
                            have hs385683 : rStr γ [1] F360314 F385673 := rStr_pu2 hs385655 n385675 ht385294 (by decide)
                            have fk385684 : rFk [1] γ F360314 F385673 := rFk_put fk385656 n385675 ht385294 (by decide)
                            obtain ⟨z385685, hz385685⟩ : ∃ z : Int32, z = g384866 + Int32.ofInt 1 := ⟨_, rfl⟩
                            have ez385685 : z385685.toInt = g384866.toInt + 1 := gI_inc hz385685 (by decide) bg384866'' (by decide) (by decide)
                            have bz385685 : gB z385685 1 1000000 := ⟨by omega, by omega⟩
                            refine G_iinc (L' := [(5, .int z385685), (6, .ref q385291), (4, .ref q384019), (3, .int g383959), (0, .ref q360315), (1, .int p360316), (2, .int p360317)]) z385685 1 dr_cX17_rename_138 rfl hz385685.symm (Nat.le_of_ble_eq_true rfl) rfl ?_
                            refine G_goto 20 dr_cX17_rename_141 (by decide +kernel) ?_
                            have hT385686 : RS D I P360313 F385673 γ el := RS_set hT385657 n385675 ht385294 (by decide) ⟨p385303, p360317, p360317, p360317, p385307, p385308, p385309, he385682, bp385303, bp360317, bp385307, bp385308, bp385309, r385310, (Or.inr bp360317), (Or.inr bp360317), r385313, r385314⟩
                            have of385687 : ∀ b, b ≠ q385291 → F385673 b = F384867 b := fun b hb => (n385675 b hb).trans (of385658 b hb)
                            refine G_lv (L' := [(5, .int z385685), (4, .ref q384019), (3, .int g383959), (0, .ref q360315), (1, .int p360316), (2, .int p360317)]) [0, 2, 3, 4, 5, 6] rfl ?_
                            exact ih20_384871 F385673 z385685 (gB_w bz385685 (by decide) (by decide)) hT385686 hs385683 (fun N hv hu hp => rPl_put hT384868 htq360315 rfl (x384870 N hv hu hp) of385687 hp385315 nb385318 hL385316 (fun _ _ _ _ z => z) (rNx_ren he385302 he385682 hu hv (Or.inr rfl) (Or.inr rfl) (Or.inr ⟨rfl, by first | assumption | omega⟩) (by rw [← hp385315]; exact x384870 N hv hu hp _ nb385318 _ hL385316))) fk385684 (mz_up ez385685 (Int.le_trans bg384866''.2 (by decide)) hm20_384871)
        exact hlp20_384871 (((1000002 : Int) - 0).toNat + 1) F383960 0 (gB_w (gBl (show Int32.toInt 0 = 0 by decide)) (by decide) (by decide)) hT383961 hs383962 x383963 x383964 (Nat.lt_succ_self _)
  exact hlp2_383964 (((1000001 : Int) - 0).toNat + 1) F360314 0 (gB_w (gBl (show Int32.toInt 0 = 0 by decide)) (by decide) (by decide)) hT (rStr_rf (γ := γ) (W := [1]) (F := F360314)) (fun N _ _ h => h) (rFk_rf) (Nat.lt_succ_self _)
