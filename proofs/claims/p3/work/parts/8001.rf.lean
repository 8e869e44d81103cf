abbrev ky_360372_SpillForgeModel_rename : gKey := (cX17_rename, 7, "SpillForgeModel", none, [], "rename", fun _ _ => True)
def pt_360372_SpillForgeModel_rename (D : va_G) (I : FieldType → ClassId) (γ el : Nat → Nat → Nat) (P360366 : List Nat) (F360367 : Nat → va_E) (q360368 : Nat) (p360369 : Int32) (p360370 : Int32) : Option Value → va_W → Nat → Nat → Prop := fun r w dc ds => ∃ (F385741 : Nat → va_E), r = none ∧ w = va_pl P360366 F385741 ∧ RS D I P360366 F385741 γ el ∧ rStr γ [1] F360367 F385741 ∧ dc ≤ 0 ∧ ds ≤ 0 ∧ (∀ N : Nat → Prop, N (p360370.toInt : Int).toNat → p360369.toInt < 100 → rPl γ el F360367 q360368 (γ 6 (γ 1 q360368)) (fun _ _ => rNx N) → rPl γ el F385741 q360368 (γ 6 (γ 1 q360368)) (fun _ _ => rNx N)) ∧ rFk [1] γ F360367 F385741
set_option maxRecDepth 100000 in
set_option maxHeartbeats 4000000 in
theorem ct_360372_SpillForgeModel_rename (l : Launch) (hl0 : l.stackTraces = false) (D : va_G) (I : FieldType → ClassId) (γ el : Nat → Nat → Nat) (P360366 : List Nat) (F360367 : Nat → va_E) (q360368 : Nat) (p360369 : Int32) (p360370 : Int32) (hT : RS D I P360366 F360367 γ el) (htq360368 : rKd γ q360368 9) (bp360369 : gB p360369 0 1999) (bp360370 : gB p360370 0 1999) (x360371 : 0 < γ 6 (γ 1 q360368)) : CtA (gV D I) l yX17_rename cX17_rename 7 none 4 85 0 0 [.ref q360368, .int p360369, .int p360370] (va_pl P360366 F360367) (pt_360372_SpillForgeModel_rename D I γ el P360366 F360367 q360368 p360369 p360370) gNA := by
  refine CtA_of hl0 (by decide) (Nat.le_of_ble_eq_true rfl) ?_
  refine G_iconst 0 dr_cX17_rename_0 (by decide +kernel) ?_
  refine G_istore_n (L' := [(3, .int 0), (0, .ref q360368), (1, .int p360369), (2, .int p360370)]) dr_cX17_rename_1 (Nat.le_of_ble_eq_true rfl) rfl ?_
  have hlp2_384017 : ∀ (n2_384017 : Nat) (F384013 : Nat → va_E) (g384012 : Int32), gB g384012 0 1000000 → RS D I P360366 F384013 γ el → rStr γ [1] F360367 F384013 → (∀ N : Nat → Prop, N (p360370.toInt : Int).toNat → p360369.toInt < 100 → rPl γ el F360367 q360368 (γ 6 (γ 1 q360368)) (fun _ _ => rNx N) → rPl γ el F384013 q360368 (γ 6 (γ 1 q360368)) (fun _ _ => rNx N)) → rFk [1] γ F360367 F384013 → ((1000001 : Int) - g384012.toInt).toNat < n2_384017 → G (gV D I) l (gRm 4 85 0 0) (gMA (gV D I) (pt_360372_SpillForgeModel_rename D I γ el P360366 F360367 q360368 p360369 p360370) gNA 0 0) ky_360372_SpillForgeModel_rename 2 [(3, .int g384012), (0, .ref q360368), (1, .int p360369), (2, .int p360370)] [] (va_pl P360366 F384013) 0 0 := by
    intro n2_384017
    induction n2_384017 with
    | zero => intro F384013 g384012 bg384012 hT384014 hs384015 x384016 x384017 hm2_384017; exact absurd hm2_384017 (Nat.not_lt_zero _)
    | succ n2_384017 ih2_384017 =>
      intro F384013 g384012 bg384012 hT384014 hs384015 x384016 x384017 hm2_384017
      have hs384019 : rStr γ [1] F360367 F384013 := fun b h0 hb hw => (hs384015 b h0 hb hw).trans ((rStr_rf (γ := γ) (W := [1]) (F := F360367)) b h0 hb hw).symm
      have hs384020 : rStr γ [1] F360367 F384013 := rStr_tr (rStr_rf (γ := γ) (W := [1]) (F := F360367)) hs384019
      refine G_iload_n 0 dr_cX17_rename_2 rfl ?_
      refine G_aload_n 1 dr_cX17_rename_3 rfl ?_
      have hm384021 : q360368 ∈ P360366 := RS_m hT384014 htq360368 (by decide)
      obtain ⟨q384023, q384024, p384025, p384026, he384022, ht384042, ht384027, ht384028, ht384029, ht384030, r384031, r384032, r384033, r384034, r384035, r384036, r384037, r384038, r384039, r384040, r384041⟩ := show rk_9 γ el q360368 (F384013 q360368) from RS_o hT384014 htq360368
      have bp384025 : gB p384025 0 1000000 := ⟨by omega, by omega⟩
      have bp384026 : gB p384026 0 1000000 := ⟨by omega, by omega⟩
      refine Gw_callV (As := []) (gV_ok D I) (cp_12496_Code_size l hl0 D I P360366 F384013 q360368 q384023 q384024 p384025 p384026 hm384021 he384022) dr_cX17_rename_4 ⟨wr_10_160, wr_1_15, wr_9_131, by decide, rfl, (Nat.le_of_ble_eq_true rfl), (Nat.le_of_ble_eq_true rfl)⟩ wr_9_129 wr_9_130 hm384021 he384022 rfl (show 0 + 0 ≤ 0 by first | omega | decide) (show 0 + 0 ≤ 0 by first | omega | decide) (Nat.le_of_ble_eq_true rfl) (fun r384046 w384047 dc384043 ds384044 hp384045 => ?_) (fun _ _ _ _ _ z => z.elim)
      obtain ⟨rfl, rfl, hdc, hds⟩ := hp384045
      change G _ _ _ _ _ _ _ (.int p384026 :: _) _ _ _
      refine G_widen (cs' := 0) (sl' := 0) (by omega) (by omega) ?_
      refine G_icmp_ge 150 dr_cX17_rename_7 (by decide +kernel) (fun hc384048 => ?_) (fun hc384048 => ?_)
      · have r384049 : p384026.toInt ≤ g384012.toInt := gC_le hc384048
        exact G_vretA dr_cX17_rename_150 rfl (Nat.le_of_ble_eq_true rfl) (Nat.le_of_ble_eq_true rfl) ⟨F384013, rfl, rfl, hT384014, hs384015, (Nat.le_of_ble_eq_true rfl), (Nat.le_of_ble_eq_true rfl), x384016, x384017⟩
      · have r384050 : g384012.toInt < p384026.toInt := gC_nle hc384048
        have bg384012' : gB g384012 0 999999 := ⟨by omega, by omega⟩
        have bp384026' : gB p384026 1 1000000 := ⟨by omega, by omega⟩
        refine G_aload_n 1 dr_cX17_rename_10 rfl ?_
        refine G_iload_n 0 dr_cX17_rename_11 rfl ?_
        have hm384051 : q384023 ∈ P360366 := RS_m hT384014 ht384027 (by decide)
        obtain ⟨⟨p384053, p384054, q384055, he384052, r384056, r384057, r384058, r384060⟩, r384059⟩ := show rk_4 D I γ el F384013 q384023 from RS_o hT384014 ht384027
        have bp384053 := gB_any p384053
        have bp384054 : gB p384054 0 1000000 := ⟨by omega, by omega⟩
        obtain ⟨r384061, r384062, n384069, f384070, r384063, r384064, r384065, r384066, r384067, r384068⟩ := rLC_n r384058 (by omega)
        have hm384071 : q384055 ∈ P360366 := RS_m hT384014 r384061 (by decide)
        obtain ⟨q384072, hx384073⟩ : ∃ x, x = el q384023 g384012.toInt.toNat := ⟨_, rfl⟩
        have hx384074 : f384070 g384012.toNatClampNeg = some q384072 := (r384067 _ (show g384012.toInt.toNat < γ 2 q384023 by omega)).trans (by rw [hx384073])
        have ht384077 : rKd γ q384072 2 := by rw [hx384073]; exact (r384038 _ (by omega)).resolve_right (fun z => absurd z.1 (by omega))
        have ht384078 : rFm γ q384072 q384023 := by rw [hx384073]; exact (r384059 _ (show g384012.toInt.toNat < γ 2 q384023 by omega)).2.1
        have hm384079 : q384072 ∈ P360366 := RS_m hT384014 ht384077 (by decide)
        obtain ⟨q384081, q384082, p384083, p384084, he384080, ht384091, ht384085, ht384086, ht384087, ht384088, ht384089, bp384083, bp384084, r384090, r384092, r384093⟩ := show rk_2 γ q384072 (F384013 q384072) from RS_o hT384014 ht384077
        refine Gw_callV (As := [.int g384012]) (gV_ok D I) (cp_7737_Code_get l hl0 D I P360366 F384013 q360368 q384023 q384055 g384012 q384024 p384025 p384026 p384053 p384054 f384070 n384069 q384072 q384081 q384082 p384083 p384084 hm384021 hm384051 hm384071 hm384079 he384022 he384052 r384063 he384080 (gB_w bg384012' (by decide) (by decide)) (gB_w bp384054 (by decide) (by decide)) (by omega) (by omega) (by assumption) (by omega)) dr_cX17_rename_12 ⟨wr_10_161, wr_1_15, wr_10_141, by decide, rfl, (Nat.le_of_ble_eq_true rfl), (Nat.le_of_ble_eq_true rfl)⟩ wr_10_139 wr_10_140 hm384021 he384022 rfl (show 0 + 0 ≤ 0 by first | omega | decide) (show 0 + 0 ≤ 0 by first | omega | decide) (Nat.le_of_ble_eq_true rfl) (fun r384097 w384098 dc384094 ds384095 hp384096 => ?_) (fun _ _ _ _ _ z => z.elim)
        obtain ⟨rfl, rfl, hdc, hds⟩ := hp384096
        change G _ _ _ _ _ _ _ (.ref q384072 :: _) _ _ _
        refine G_widen (cs' := 0) (sl' := 0) (by omega) (by omega) ?_
        have hb384099 : el (γ 14 q360368) (g384012.toInt : Int).toNat = q384072 := by rw [ht384042.1, hx384073]
        refine G_astore (L' := [(4, .ref q384072), (3, .int g384012), (0, .ref q360368), (1, .int p360369), (2, .int p360370)]) dr_cX17_rename_15 (Nat.le_of_ble_eq_true rfl) rfl ?_
        refine G_iconst 0 dr_cX17_rename_17 (by decide +kernel) ?_
        refine G_istore (L' := [(5, .int 0), (4, .ref q384072), (3, .int g384012), (0, .ref q360368), (1, .int p360369), (2, .int p360370)]) dr_cX17_rename_18 (Nat.le_of_ble_eq_true rfl) rfl ?_
        have hlp20_384924 : ∀ (n20_384924 : Nat) (F384920 : Nat → va_E) (g384919 : Int32), gB g384919 0 1000001 → RS D I P360366 F384920 γ el → rStr γ [1] F360367 F384920 → (∀ N : Nat → Prop, N (p360370.toInt : Int).toNat → p360369.toInt < 100 → rPl γ el F360367 q360368 (γ 6 (γ 1 q360368)) (fun _ _ => rNx N) → rPl γ el F384920 q360368 (γ 6 (γ 1 q360368)) (fun _ _ => rNx N)) → rFk [1] γ F360367 F384920 → ((1000002 : Int) - g384919.toInt).toNat < n20_384924 → G (gV D I) l (gRm 4 85 0 0) (gMA (gV D I) (pt_360372_SpillForgeModel_rename D I γ el P360366 F360367 q360368 p360369 p360370) gNA 0 0) ky_360372_SpillForgeModel_rename 20 [(5, .int g384919), (4, .ref q384072), (3, .int g384012), (0, .ref q360368), (1, .int p360369), (2, .int p360370)] [] (va_pl P360366 F384920) 0 0 := by
          intro n20_384924
          induction n20_384924 with
          | zero => intro F384920 g384919 bg384919 hT384921 hs384922 x384923 x384924 hm20_384924; exact absurd hm20_384924 (Nat.not_lt_zero _)
          | succ n20_384924 ih20_384924 =>
            intro F384920 g384919 bg384919 hT384921 hs384922 x384923 x384924 hm20_384924
            have hs384926 : rStr γ [1] F384013 F384920 := fun b h0 hb hw => (hs384922 b h0 hb hw).trans (hs384015 b h0 hb hw).symm
            have he384927 : F384920 q360368 = .inr (18, [.ref q384023, .ref q384024, .int p384025, .int p384026]) := (hs384926 q360368 (rT0 htq360368 (by decide)) (rT1 htq360368 (by decide)) (rT2 htq360368 (by decide))).trans he384022
            have he384928 : F384920 q384023 = .inr (4, [.int p384053, .ref q384055, .int p384054]) := (hs384926 q384023 (rT0 ht384027 (by decide)) (rT1 ht384027 (by decide)) (rT2 ht384027 (by decide))).trans he384052
            have he384929 : F384920 q384055 = .inl (I (.object "java/lang/Object"), n384069, .inr (.inr (.inr (.inr f384070)))) := (hs384926 q384055 (rT0 r384061 (by decide)) (rT1 r384061 (by decide)) (rT2 r384061 (by decide))).trans r384063
            have he384930 : F384920 q384072 = .inr (17, [.ref q384081, .ref q384082, .int p384083, .int p384084]) := (hs384926 q384072 (rT0 ht384077 (by decide)) (rT1 ht384077 (by decide)) (rT2 ht384077 (by decide))).trans he384080
            have hs384931 : rStr γ [1] F360367 F384920 := rStr_tr hs384015 hs384926
            refine G_iload 0 dr_cX17_rename_20 rfl ?_
            refine G_aload 1 dr_cX17_rename_22 rfl ?_
            refine Gp_get 0 hm384079 he384930 dr_cX17_rename_24 (gk_X12 D I) (Nat.le_of_ble_eq_true rfl) wr_9_220 rfl ?_
            have hm384932 : q384081 ∈ P360366 := RS_m hT384921 ht384085 (by decide)
            obtain ⟨⟨p384934, p384935, q384936, he384933, r384937, r384938, r384939, r384941⟩, r384940⟩ := show rk_3 D I γ el F384920 q384081 from RS_o hT384921 ht384085
            have bp384934 := gB_any p384934
            have bp384935 : gB p384935 0 1000000 := ⟨by omega, by omega⟩
            refine Gw_callV (As := []) (gV_ok D I) (cp_7_ArrayList_size l hl0 D I P360366 F384920 q384081 p384934 q384936 p384935 hm384932 he384933 (gB_w bp384935 (by decide) (by decide))) dr_cX17_rename_27 ⟨wr_10_200, wr_1_18, wr_9_160, by decide, rfl, (Nat.le_of_ble_eq_true rfl), (Nat.le_of_ble_eq_true rfl)⟩ wr_9_158 wr_9_159 hm384932 he384933 rfl (show 0 + 0 ≤ 0 by first | omega | decide) (show 0 + 0 ≤ 0 by first | omega | decide) (Nat.le_of_ble_eq_true rfl) (fun r384945 w384946 dc384942 ds384943 hp384944 => ?_) (fun _ _ _ _ _ z => z.elim)
            obtain ⟨rfl, rfl, hdc, hds⟩ := hp384944
            change G _ _ _ _ _ _ _ (.int p384935 :: _) _ _ _
            refine G_widen (cs' := 0) (sl' := 0) (by omega) (by omega) ?_
            refine G_icmp_gt 144 dr_cX17_rename_30 (by decide +kernel) (fun hc384947 => ?_) (fun hc384947 => ?_)
            · have r384948 : p384935.toInt < g384919.toInt := gC_lt hc384947
              have bg384919' : gB g384919 1 1000001 := ⟨by omega, by omega⟩
              obtain ⟨z384949, hz384949⟩ : ∃ z : Int32, z = g384012 + Int32.ofInt 1 := ⟨_, rfl⟩
              have ez384949 : z384949.toInt = g384012.toInt + 1 := gI_inc hz384949 (by decide) bg384012' (by decide) (by decide)
              have bz384949 : gB z384949 1 1000000 := ⟨by omega, by omega⟩
              refine G_iinc (L' := [(3, .int z384949), (5, .int g384919), (4, .ref q384072), (0, .ref q360368), (1, .int p360369), (2, .int p360370)]) z384949 2 dr_cX17_rename_144 rfl hz384949.symm (Nat.le_of_ble_eq_true rfl) rfl ?_
              refine G_goto 2 dr_cX17_rename_147 (by decide +kernel) ?_
              refine G_lv (L' := [(3, .int z384949), (0, .ref q360368), (1, .int p360369), (2, .int p360370)]) [0, 3, 4, 5] rfl ?_
              exact ih2_384017 F384920 z384949 (gB_w bz384949 (by decide) (by decide)) hT384921 hs384922 x384923 x384924 (mz_up ez384949 (Int.le_trans bg384012'.2 (by decide)) hm2_384017)
            · have r384950 : g384919.toInt ≤ p384935.toInt := gC_nlt hc384947
              have bg384919' : gB g384919 0 1000000 := ⟨by omega, by omega⟩
              refine G_iload 0 dr_cX17_rename_33 rfl ?_
              refine G_aload 1 dr_cX17_rename_35 rfl ?_
              refine Gp_get 0 hm384079 he384930 dr_cX17_rename_37 (gk_X12 D I) (Nat.le_of_ble_eq_true rfl) wr_9_220 rfl ?_
              refine Gw_callV (As := []) (gV_ok D I) (cp_7_ArrayList_size l hl0 D I P360366 F384920 q384081 p384934 q384936 p384935 hm384932 he384933 (gB_w bp384935 (by decide) (by decide))) dr_cX17_rename_40 ⟨wr_10_200, wr_1_18, wr_9_160, by decide, rfl, (Nat.le_of_ble_eq_true rfl), (Nat.le_of_ble_eq_true rfl)⟩ wr_9_158 wr_9_159 hm384932 he384933 rfl (show 0 + 0 ≤ 0 by first | omega | decide) (show 0 + 0 ≤ 0 by first | omega | decide) (Nat.le_of_ble_eq_true rfl) (fun r384954 w384955 dc384951 ds384952 hp384953 => ?_) (fun _ _ _ _ _ z => z.elim)
              obtain ⟨rfl, rfl, hdc, hds⟩ := hp384953
              change G _ _ _ _ _ _ _ (.int p384935 :: _) _ _ _
              refine G_widen (cs' := 0) (sl' := 0) (by omega) (by omega) ?_
              refine G_icmp_ge 62 dr_cX17_rename_43 (by decide +kernel) (fun hc384956 => ?_) (fun hc384956 => ?_)
              · have r384957 : p384935.toInt ≤ g384919.toInt := gC_le hc384956
                refine G_aload 1 dr_cX17_rename_62 rfl ?_
                refine Gp_get 1 hm384079 he384930 dr_cX17_rename_64 (gk_X12 D I) (Nat.le_of_ble_eq_true rfl) wr_9_223 rfl ?_
                have fl384960 : p384935.toInt = γ 2 q384081 := r384937
                have hp384958 : rAt γ el q360368 (g384012.toInt : Int).toNat (g384919.toInt : Int).toNat = q384082 := (rAt_e hb384099 ht384091.1 (by omega)).trans ht384091.2.1
                have hL384959 : (g384919.toInt : Int).toNat ≤ γ 2 (rwL γ el q360368 (g384012.toInt : Int).toNat) := by unfold rwL; rw [hb384099, ht384091.1]; omega
                have nb384961 : (g384012.toInt : Int).toNat < γ 6 (γ 1 q360368) := by omega
                have hm384962 : q384082 ∈ P360366 := RS_m hT384921 ht384087 (by decide)
                obtain ⟨p384964, p384965, p384966, p384967, p384968, p384969, p384970, he384963, bp384964, bp384965, bp384968, bp384969, bp384970, r384971, r384972, r384973, r384974, r384975⟩ := show rk_1 γ q384082 (F384920 q384082) from RS_o hT384921 ht384087
                have bp384966 := gB_any p384966
                have bp384967 := gB_any p384967
                refine G_astore (L' := [(6, .ref q384082), (5, .int g384919), (4, .ref q384072), (3, .int g384012), (0, .ref q360368), (1, .int p360369), (2, .int p360370)]) dr_cX17_rename_67 (Nat.le_of_ble_eq_true rfl) rfl ?_
                refine G_aload 0 dr_cX17_rename_69 rfl ?_
                refine Gw_callV (As := []) (gV_ok D I) (cp_1669_Row_usesA l hl0 D I P360366 F384920 q384082 p384964 p384965 p384966 p384967 p384968 p384969 p384970 hm384962 he384963 bp384964 bp384965 bp384968 bp384969 bp384970) dr_cX17_rename_71 ⟨wr_10_192, wr_1_39, wr_10_195, by decide, rfl, (Nat.le_of_ble_eq_true rfl), (Nat.le_of_ble_eq_true rfl)⟩ wr_10_193 wr_10_194 hm384962 he384963 rfl (show 0 + 0 ≤ 0 by first | omega | decide) (show 0 + 0 ≤ 0 by first | omega | decide) (Nat.le_of_ble_eq_true rfl) (fun r384979 w384980 dc384976 ds384977 hp384978 => ?_) (fun _ _ _ _ _ z => z.elim)
                obtain ⟨o384981, rfl, rfl, hdc, hds, bo384981, x384982⟩ := hp384978
                change G _ _ _ _ _ _ _ (.int o384981 :: _) _ _ _
                refine G_widen (cs' := 0) (sl' := 0) (by omega) (by omega) ?_
                refine G_if_eq 92 dr_cX17_rename_74 (by decide +kernel) (fun hc384983 => ?_) (fun hc384983 => ?_)
                · have r384984 : o384981.toInt = 0 := gj_eq hc384983 (show Int32.toInt 0 = 0 by decide)
                  have bo384981' : gB o384981 0 0 := gB_t0 r384984
                  refine G_aload 0 dr_cX17_rename_92 rfl ?_
                  refine Gw_callV (As := []) (gV_ok D I) (cp_1693_Row_usesB l hl0 D I P360366 F384920 q384082 p384964 p384965 p384966 p384967 p384968 p384969 p384970 hm384962 he384963 bp384964 bp384965 bp384968 bp384969 bp384970) dr_cX17_rename_94 ⟨wr_10_196, wr_1_39, wr_10_199, by decide, rfl, (Nat.le_of_ble_eq_true rfl), (Nat.le_of_ble_eq_true rfl)⟩ wr_10_197 wr_10_198 hm384962 he384963 rfl (show 0 + 0 ≤ 0 by first | omega | decide) (show 0 + 0 ≤ 0 by first | omega | decide) (Nat.le_of_ble_eq_true rfl) (fun r384988 w384989 dc384985 ds384986 hp384987 => ?_) (fun _ _ _ _ _ z => z.elim)
                  obtain ⟨o384990, rfl, rfl, hdc, hds, bo384990, x384991⟩ := hp384987
                  change G _ _ _ _ _ _ _ (.int o384990 :: _) _ _ _
                  refine G_widen (cs' := 0) (sl' := 0) (by omega) (by omega) ?_
                  refine G_if_eq 115 dr_cX17_rename_97 (by decide +kernel) (fun hc384992 => ?_) (fun hc384992 => ?_)
                  · have r384993 : o384990.toInt = 0 := gj_eq hc384992 (show Int32.toInt 0 = 0 by decide)
                    have bo384990' : gB o384990 0 0 := gB_t0 r384993
                    refine G_aload 0 dr_cX17_rename_115 rfl ?_
                    refine Gw_callV (As := []) (gV_ok D I) (cp_1654_Row_sets l hl0 D I P360366 F384920 q384082 p384964 p384965 p384966 p384967 p384968 p384969 p384970 hm384962 he384963 bp384964 bp384965 bp384968 bp384969 bp384970) dr_cX17_rename_117 ⟨wr_10_181, wr_1_39, wr_10_184, by decide, rfl, (Nat.le_of_ble_eq_true rfl), (Nat.le_of_ble_eq_true rfl)⟩ wr_10_182 wr_10_183 hm384962 he384963 rfl (show 0 + 0 ≤ 0 by first | omega | decide) (show 0 + 0 ≤ 0 by first | omega | decide) (Nat.le_of_ble_eq_true rfl) (fun r384997 w384998 dc384994 ds384995 hp384996 => ?_) (fun _ _ _ _ _ z => z.elim)
                    obtain ⟨o384999, rfl, rfl, hdc, hds, bo384999⟩ := hp384996
                    change G _ _ _ _ _ _ _ (.int o384999 :: _) _ _ _
                    refine G_widen (cs' := 0) (sl' := 0) (by omega) (by omega) ?_
                    refine G_if_eq 138 dr_cX17_rename_120 (by decide +kernel) (fun hc385000 => ?_) (fun hc385000 => ?_)
                    · have r385001 : o384999.toInt = 0 := gj_eq hc385000 (show Int32.toInt 0 = 0 by decide)
                      have bo384999' : gB o384999 0 0 := gB_t0 r385001
                      obtain ⟨z385002, hz385002⟩ : ∃ z : Int32, z = g384919 + Int32.ofInt 1 := ⟨_, rfl⟩
                      have ez385002 : z385002.toInt = g384919.toInt + 1 := gI_inc hz385002 (by decide) bg384919' (by decide) (by decide)
                      have bz385002 : gB z385002 1 1000001 := ⟨by omega, by omega⟩
                      refine G_iinc (L' := [(5, .int z385002), (6, .ref q384082), (4, .ref q384072), (3, .int g384012), (0, .ref q360368), (1, .int p360369), (2, .int p360370)]) z385002 1 dr_cX17_rename_138 rfl hz385002.symm (Nat.le_of_ble_eq_true rfl) rfl ?_
                      refine G_goto 20 dr_cX17_rename_141 (by decide +kernel) ?_
                      refine G_lv (L' := [(5, .int z385002), (4, .ref q384072), (3, .int g384012), (0, .ref q360368), (1, .int p360369), (2, .int p360370)]) [0, 2, 3, 4, 5, 6] rfl ?_
                      exact ih20_384924 F384920 z385002 (gB_w bz385002 (by decide) (by decide)) hT384921 hs384922 x384923 x384924 (mz_up ez385002 (Int.le_trans bg384919'.2 (by decide)) hm20_384924)
                    · have r385003 : o384999.toInt ≠ 0 := gj_neq hc385000 (show Int32.toInt 0 = 0 by decide)
                      have bo384999' : gB o384999 1 1 := gB_t1 bo384999 r385003
                      refine G_aload 0 dr_cX17_rename_123 rfl ?_
                      refine Gp_get 1 hm384962 he384963 dr_cX17_rename_125 (gk_X15 D I) (Nat.le_of_ble_eq_true rfl) wr_9_182 rfl ?_
                      refine G_iload_n 5 dr_cX17_rename_128 rfl ?_
                      refine G_icmp_ne 138 dr_cX17_rename_129 (by decide +kernel) (fun hc385004 => ?_) (fun hc385004 => ?_)
                      · have r385005 : p384965.toInt ≠ p360369.toInt := gC_ne hc385004
                        obtain ⟨z385006, hz385006⟩ : ∃ z : Int32, z = g384919 + Int32.ofInt 1 := ⟨_, rfl⟩
                        have ez385006 : z385006.toInt = g384919.toInt + 1 := gI_inc hz385006 (by decide) bg384919' (by decide) (by decide)
                        have bz385006 : gB z385006 1 1000001 := ⟨by omega, by omega⟩
                        refine G_iinc (L' := [(5, .int z385006), (6, .ref q384082), (4, .ref q384072), (3, .int g384012), (0, .ref q360368), (1, .int p360369), (2, .int p360370)]) z385006 1 dr_cX17_rename_138 rfl hz385006.symm (Nat.le_of_ble_eq_true rfl) rfl ?_
                        refine G_goto 20 dr_cX17_rename_141 (by decide +kernel) ?_
                        refine G_lv (L' := [(5, .int z385006), (4, .ref q384072), (3, .int g384012), (0, .ref q360368), (1, .int p360369), (2, .int p360370)]) [0, 2, 3, 4, 5, 6] rfl ?_
                        exact ih20_384924 F384920 z385006 (gB_w bz385006 (by decide) (by decide)) hT384921 hs384922 x384923 x384924 (mz_up ez385006 (Int.le_trans bg384919'.2 (by decide)) hm20_384924)
                      · have r385007 : p384965.toInt = p360369.toInt := gC_eq hc385004
                        refine G_aload 0 dr_cX17_rename_132 rfl ?_
                        refine G_iload_n 6 dr_cX17_rename_134 rfl ?_
                        refine Gp_put 1 hm384962 he384963 dr_cX17_rename_135 (gk_X15 D I) (Nat.le_of_ble_eq_true rfl) wr_9_182 rfl rfl rfl (Nat.le_of_ble_eq_true rfl) (fun F385008 e385009 n385010 => ?_)
                        have he385011 : F385008 q360368 = .inr (18, [.ref q384023, .ref q384024, .int p384025, .int p384026]) := (n385010 q360368 (rn_oo he384927 he384963 (by decide))).trans he384927
                        have he385012 : F385008 q384023 = .inr (4, [.int p384053, .ref q384055, .int p384054]) := (n385010 q384023 (rn_oo he384928 he384963 (by decide))).trans he384928
                        have he385013 : F385008 q384055 = .inl (I (.object "java/lang/Object"), n384069, .inr (.inr (.inr (.inr f384070)))) := (n385010 q384055 (rn_ao he384929 he384963)).trans he384929
                        have he385014 : F385008 q384072 = .inr (17, [.ref q384081, .ref q384082, .int p384083, .int p384084]) := (n385010 q384072 (rn_oo he384930 he384963 (by decide))).trans he384930
                        have he385015 : F385008 q384081 = .inr (4, [.int p384934, .ref q384936, .int p384935]) := (n385010 q384081 (rn_oo he384933 he384963 (by decide))).trans he384933
                        have he385016 : F385008 q384082 = .inr (20, [.int p384964, .int p360370, .int p384966, .int p384967, .int p384968, .int p384969, .int p384970]) := e385009
                        have hs385017 : rStr γ [1] F360367 F385008 := rStr_pu2 hs384922 n385010 ht384087 (by decide)
                        have fk385018 : rFk [1] γ F360367 F385008 := rFk_put x384924 n385010 ht384087 (by decide)
                        obtain ⟨z385019, hz385019⟩ : ∃ z : Int32, z = g384919 + Int32.ofInt 1 := ⟨_, rfl⟩
                        have ez385019 : z385019.toInt = g384919.toInt + 1 := gI_inc hz385019 (by decide) bg384919' (by decide) (by decide)
                        have bz385019 : gB z385019 1 1000001 := ⟨by omega, by omega⟩
                        refine G_iinc (L' := [(5, .int z385019), (6, .ref q384082), (4, .ref q384072), (3, .int g384012), (0, .ref q360368), (1, .int p360369), (2, .int p360370)]) z385019 1 dr_cX17_rename_138 rfl hz385019.symm (Nat.le_of_ble_eq_true rfl) rfl ?_
                        refine G_goto 20 dr_cX17_rename_141 (by decide +kernel) ?_
                        have hT385020 : RS D I P360366 F385008 γ el := RS_set hT384921 n385010 ht384087 (by decide) ⟨p384964, p360370, p384966, p384967, p384968, p384969, p384970, he385016, bp384964, bp360370, bp384968, bp384969, bp384970, r384971, r384972, r384973, r384974, r384975⟩
                        refine G_lv (L' := [(5, .int z385019), (4, .ref q384072), (3, .int g384012), (0, .ref q360368), (1, .int p360369), (2, .int p360370)]) [0, 2, 3, 4, 5, 6] rfl ?_
                        exact ih20_384924 F385008 z385019 (gB_w bz385019 (by decide) (by decide)) hT385020 hs385017 (fun N hv hu hp => rPl_put hT384921 htq360368 rfl (x384923 N hv hu hp) n385010 hp384958 nb384961 hL384959 (fun _ _ _ _ z => z) (rNx_ren he384963 he385016 hu hv (Or.inl rfl) (Or.inl rfl) (Or.inr ⟨rfl, by first | assumption | omega⟩) (by rw [← hp384958]; exact x384923 N hv hu hp _ nb384961 _ hL384959))) fk385018 (mz_up ez385019 (Int.le_trans bg384919'.2 (by decide)) hm20_384924)
                  · have r385022 : o384990.toInt ≠ 0 := gj_neq hc384992 (show Int32.toInt 0 = 0 by decide)
                    have bo384990' : gB o384990 1 1 := gB_t1 bo384990 r385022
                    refine G_aload 0 dr_cX17_rename_100 rfl ?_
                    refine Gp_get 3 hm384962 he384963 dr_cX17_rename_102 (gk_X15 D I) (Nat.le_of_ble_eq_true rfl) wr_9_190 rfl ?_
                    refine G_iload_n 5 dr_cX17_rename_105 rfl ?_
                    refine G_icmp_ne 115 dr_cX17_rename_106 (by decide +kernel) (fun hc385023 => ?_) (fun hc385023 => ?_)
                    · have r385024 : p384967.toInt ≠ p360369.toInt := gC_ne hc385023
                      refine G_aload 0 dr_cX17_rename_115 rfl ?_
                      refine Gw_callV (As := []) (gV_ok D I) (cp_1654_Row_sets l hl0 D I P360366 F384920 q384082 p384964 p384965 p384966 p384967 p384968 p384969 p384970 hm384962 he384963 bp384964 bp384965 bp384968 bp384969 bp384970) dr_cX17_rename_117 ⟨wr_10_181, wr_1_39, wr_10_184, by decide, rfl, (Nat.le_of_ble_eq_true rfl), (Nat.le_of_ble_eq_true rfl)⟩ wr_10_182 wr_10_183 hm384962 he384963 rfl (show 0 + 0 ≤ 0 by first | omega | decide) (show 0 + 0 ≤ 0 by first | omega | decide) (Nat.le_of_ble_eq_true rfl) (fun r385028 w385029 dc385025 ds385026 hp385027 => ?_) (fun _ _ _ _ _ z => z.elim)
                      obtain ⟨o385030, rfl, rfl, hdc, hds, bo385030⟩ := hp385027
                      change G _ _ _ _ _ _ _ (.int o385030 :: _) _ _ _
                      refine G_widen (cs' := 0) (sl' := 0) (by omega) (by omega) ?_
                      refine G_if_eq 138 dr_cX17_rename_120 (by decide +kernel) (fun hc385031 => ?_) (fun hc385031 => ?_)
                      · have r385032 : o385030.toInt = 0 := gj_eq hc385031 (show Int32.toInt 0 = 0 by decide)
                        have bo385030' : gB o385030 0 0 := gB_t0 r385032
                        obtain ⟨z385033, hz385033⟩ : ∃ z : Int32, z = g384919 + Int32.ofInt 1 := ⟨_, rfl⟩
                        have ez385033 : z385033.toInt = g384919.toInt + 1 := gI_inc hz385033 (by decide) bg384919' (by decide) (by decide)
                        have bz385033 : gB z385033 1 1000001 := ⟨by omega, by omega⟩
                        refine G_iinc (L' := [(5, .int z385033), (6, .ref q384082), (4, .ref q384072), (3, .int g384012), (0, .ref q360368), (1, .int p360369), (2, .int p360370)]) z385033 1 dr_cX17_rename_138 rfl hz385033.symm (Nat.le_of_ble_eq_true rfl) rfl ?_
                        refine G_goto 20 dr_cX17_rename_141 (by decide +kernel) ?_
                        refine G_lv (L' := [(5, .int z385033), (4, .ref q384072), (3, .int g384012), (0, .ref q360368), (1, .int p360369), (2, .int p360370)]) [0, 2, 3, 4, 5, 6] rfl ?_
                        exact ih20_384924 F384920 z385033 (gB_w bz385033 (by decide) (by decide)) hT384921 hs384922 x384923 x384924 (mz_up ez385033 (Int.le_trans bg384919'.2 (by decide)) hm20_384924)
                      · have r385034 : o385030.toInt ≠ 0 := gj_neq hc385031 (show Int32.toInt 0 = 0 by decide)
                        have bo385030' : gB o385030 1 1 := gB_t1 bo385030 r385034
                        refine G_aload 0 dr_cX17_rename_123 rfl ?_
                        refine Gp_get 1 hm384962 he384963 dr_cX17_rename_125 (gk_X15 D I) (Nat.le_of_ble_eq_true rfl) wr_9_182 rfl ?_
                        refine G_iload_n 5 dr_cX17_rename_128 rfl ?_
                        refine G_icmp_ne 138 dr_cX17_rename_129 (by decide +kernel) (fun hc385035 => ?_) (fun hc385035 => ?_)
                        · have r385036 : p384965.toInt ≠ p360369.toInt := gC_ne hc385035
                          obtain ⟨z385037, hz385037⟩ : ∃ z : Int32, z = g384919 + Int32.ofInt 1 := ⟨_, rfl⟩
                          have ez385037 : z385037.toInt = g384919.toInt + 1 := gI_inc hz385037 (by decide) bg384919' (by decide) (by decide)
                          have bz385037 : gB z385037 1 1000001 := ⟨by omega, by omega⟩
                          refine G_iinc (L' := [(5, .int z385037), (6, .ref q384082), (4, .ref q384072), (3, .int g384012), (0, .ref q360368), (1, .int p360369), (2, .int p360370)]) z385037 1 dr_cX17_rename_138 rfl hz385037.symm (Nat.le_of_ble_eq_true rfl) rfl ?_
                          refine G_goto 20 dr_cX17_rename_141 (by decide +kernel) ?_
                          refine G_lv (L' := [(5, .int z385037), (4, .ref q384072), (3, .int g384012), (0, .ref q360368), (1, .int p360369), (2, .int p360370)]) [0, 2, 3, 4, 5, 6] rfl ?_
                          exact ih20_384924 F384920 z385037 (gB_w bz385037 (by decide) (by decide)) hT384921 hs384922 x384923 x384924 (mz_up ez385037 (Int.le_trans bg384919'.2 (by decide)) hm20_384924)
                        · have r385038 : p384965.toInt = p360369.toInt := gC_eq hc385035
                          refine G_aload 0 dr_cX17_rename_132 rfl ?_
                          refine G_iload_n 6 dr_cX17_rename_134 rfl ?_
                          refine Gp_put 1 hm384962 he384963 dr_cX17_rename_135 (gk_X15 D I) (Nat.le_of_ble_eq_true rfl) wr_9_182 rfl rfl rfl (Nat.le_of_ble_eq_true rfl) (fun F385039 e385040 n385041 => ?_)
                          have he385042 : F385039 q360368 = .inr (18, [.ref q384023, .ref q384024, .int p384025, .int p384026]) := (n385041 q360368 (rn_oo he384927 he384963 (by decide))).trans he384927
                          have he385043 : F385039 q384023 = .inr (4, [.int p384053, .ref q384055, .int p384054]) := (n385041 q384023 (rn_oo he384928 he384963 (by decide))).trans he384928
                          have he385044 : F385039 q384055 = .inl (I (.object "java/lang/Object"), n384069, .inr (.inr (.inr (.inr f384070)))) := (n385041 q384055 (rn_ao he384929 he384963)).trans he384929
                          have he385045 : F385039 q384072 = .inr (17, [.ref q384081, .ref q384082, .int p384083, .int p384084]) := (n385041 q384072 (rn_oo he384930 he384963 (by decide))).trans he384930
                          have he385046 : F385039 q384081 = .inr (4, [.int p384934, .ref q384936, .int p384935]) := (n385041 q384081 (rn_oo he384933 he384963 (by decide))).trans he384933
                          have he385047 : F385039 q384082 = .inr (20, [.int p384964, .int p360370, .int p384966, .int p384967, .int p384968, .int p384969, .int p384970]) := e385040
                          have hs385048 : rStr γ [1] F360367 F385039 := rStr_pu2 hs384922 n385041 ht384087 (by decide)
                          have fk385049 : rFk [1] γ F360367 F385039 := rFk_put x384924 n385041 ht384087 (by decide)
                          obtain ⟨z385050, hz385050⟩ : ∃ z : Int32, z = g384919 + Int32.ofInt 1 := ⟨_, rfl⟩
                          have ez385050 : z385050.toInt = g384919.toInt + 1 := gI_inc hz385050 (by decide) bg384919' (by decide) (by decide)
                          have bz385050 : gB z385050 1 1000001 := ⟨by omega, by omega⟩
                          refine G_iinc (L' := [(5, .int z385050), (6, .ref q384082), (4, .ref q384072), (3, .int g384012), (0, .ref q360368), (1, .int p360369), (2, .int p360370)]) z385050 1 dr_cX17_rename_138 rfl hz385050.symm (Nat.le_of_ble_eq_true rfl) rfl ?_
                          refine G_goto 20 dr_cX17_rename_141 (by decide +kernel) ?_
                          have hT385051 : RS D I P360366 F385039 γ el := RS_set hT384921 n385041 ht384087 (by decide) ⟨p384964, p360370, p384966, p384967, p384968, p384969, p384970, he385047, bp384964, bp360370, bp384968, bp384969, bp384970, r384971, r384972, r384973, r384974, r384975⟩
                          refine G_lv (L' := [(5, .int z385050), (4, .ref q384072), (3, .int g384012), (0, .ref q360368), (1, .int p360369), (2, .int p360370)]) [0, 2, 3, 4, 5, 6] rfl ?_
                          exact ih20_384924 F385039 z385050 (gB_w bz385050 (by decide) (by decide)) hT385051 hs385048 (fun N hv hu hp => rPl_put hT384921 htq360368 rfl (x384923 N hv hu hp) n385041 hp384958 nb384961 hL384959 (fun _ _ _ _ z => z) (rNx_ren he384963 he385047 hu hv (Or.inl rfl) (Or.inl rfl) (Or.inr ⟨rfl, by first | assumption | omega⟩) (by rw [← hp384958]; exact x384923 N hv hu hp _ nb384961 _ hL384959))) fk385049 (mz_up ez385050 (Int.le_trans bg384919'.2 (by decide)) hm20_384924)
                    · have r385053 : p384967.toInt = p360369.toInt := gC_eq hc385023
                      have bp384967' : gB p384967 0 1999 := ⟨by omega, by omega⟩
                      refine G_aload 0 dr_cX17_rename_109 rfl ?_
                      refine G_iload_n 6 dr_cX17_rename_111 rfl ?_
                      refine Gp_put 3 hm384962 he384963 dr_cX17_rename_112 (gk_X15 D I) (Nat.le_of_ble_eq_true rfl) wr_9_190 rfl rfl rfl (Nat.le_of_ble_eq_true rfl) (fun F385054 e385055 n385056 => ?_)
                      have he385057 : F385054 q360368 = .inr (18, [.ref q384023, .ref q384024, .int p384025, .int p384026]) := (n385056 q360368 (rn_oo he384927 he384963 (by decide))).trans he384927
                      have he385058 : F385054 q384023 = .inr (4, [.int p384053, .ref q384055, .int p384054]) := (n385056 q384023 (rn_oo he384928 he384963 (by decide))).trans he384928
                      have he385059 : F385054 q384055 = .inl (I (.object "java/lang/Object"), n384069, .inr (.inr (.inr (.inr f384070)))) := (n385056 q384055 (rn_ao he384929 he384963)).trans he384929
                      have he385060 : F385054 q384072 = .inr (17, [.ref q384081, .ref q384082, .int p384083, .int p384084]) := (n385056 q384072 (rn_oo he384930 he384963 (by decide))).trans he384930
                      have he385061 : F385054 q384081 = .inr (4, [.int p384934, .ref q384936, .int p384935]) := (n385056 q384081 (rn_oo he384933 he384963 (by decide))).trans he384933
                      have he385062 : F385054 q384082 = .inr (20, [.int p384964, .int p384965, .int p384966, .int p360370, .int p384968, .int p384969, .int p384970]) := e385055
                      have hs385063 : rStr γ [1] F360367 F385054 := rStr_pu2 hs384922 n385056 ht384087 (by decide)
                      have fk385064 : rFk [1] γ F360367 F385054 := rFk_put x384924 n385056 ht384087 (by decide)
                      refine G_aload 0 dr_cX17_rename_115 rfl ?_
                      have hT385065 : RS D I P360366 F385054 γ el := RS_set hT384921 n385056 ht384087 (by decide) ⟨p384964, p384965, p384966, p360370, p384968, p384969, p384970, he385062, bp384964, bp384965, bp384968, bp384969, bp384970, r384971, r384972, (Or.inr bp360370), r384974, r384975⟩
                      refine Gw_callV (As := []) (gV_ok D I) (cp_1654_Row_sets l hl0 D I P360366 F385054 q384082 p384964 p384965 p384966 p360370 p384968 p384969 p384970 hm384962 he385062 bp384964 bp384965 bp384968 bp384969 bp384970) dr_cX17_rename_117 ⟨wr_10_181, wr_1_39, wr_10_184, by decide, rfl, (Nat.le_of_ble_eq_true rfl), (Nat.le_of_ble_eq_true rfl)⟩ wr_10_182 wr_10_183 hm384962 he385062 rfl (show 0 + 0 ≤ 0 by first | omega | decide) (show 0 + 0 ≤ 0 by first | omega | decide) (Nat.le_of_ble_eq_true rfl) (fun r385070 w385071 dc385067 ds385068 hp385069 => ?_) (fun _ _ _ _ _ z => z.elim)
                      obtain ⟨o385072, rfl, rfl, hdc, hds, bo385072⟩ := hp385069
                      change G _ _ _ _ _ _ _ (.int o385072 :: _) _ _ _
                      refine G_widen (cs' := 0) (sl' := 0) (by omega) (by omega) ?_
                      refine G_if_eq 138 dr_cX17_rename_120 (by decide +kernel) (fun hc385073 => ?_) (fun hc385073 => ?_)
                      · have r385074 : o385072.toInt = 0 := gj_eq hc385073 (show Int32.toInt 0 = 0 by decide)
                        have bo385072' : gB o385072 0 0 := gB_t0 r385074
                        obtain ⟨z385075, hz385075⟩ : ∃ z : Int32, z = g384919 + Int32.ofInt 1 := ⟨_, rfl⟩
                        have ez385075 : z385075.toInt = g384919.toInt + 1 := gI_inc hz385075 (by decide) bg384919' (by decide) (by decide)
                        have bz385075 : gB z385075 1 1000001 := ⟨by omega, by omega⟩
                        refine G_iinc (L' := [(5, .int z385075), (6, .ref q384082), (4, .ref q384072), (3, .int g384012), (0, .ref q360368), (1, .int p360369), (2, .int p360370)]) z385075 1 dr_cX17_rename_138 rfl hz385075.symm (Nat.le_of_ble_eq_true rfl) rfl ?_
                        refine G_goto 20 dr_cX17_rename_141 (by decide +kernel) ?_
                        refine G_lv (L' := [(5, .int z385075), (4, .ref q384072), (3, .int g384012), (0, .ref q360368), (1, .int p360369), (2, .int p360370)]) [0, 2, 3, 4, 5, 6] rfl ?_
                        exact ih20_384924 F385054 z385075 (gB_w bz385075 (by decide) (by decide)) hT385065 hs385063 (fun N hv hu hp => rPl_put hT384921 htq360368 rfl (x384923 N hv hu hp) n385056 hp384958 nb384961 hL384959 (fun _ _ _ _ z => z) (rNx_ren he384963 he385062 hu hv (Or.inl rfl) (Or.inr rfl) (Or.inl rfl) (by rw [← hp384958]; exact x384923 N hv hu hp _ nb384961 _ hL384959))) fk385064 (mz_up ez385075 (Int.le_trans bg384919'.2 (by decide)) hm20_384924)
                      · have r385076 : o385072.toInt ≠ 0 := gj_neq hc385073 (show Int32.toInt 0 = 0 by decide)
                        have bo385072' : gB o385072 1 1 := gB_t1 bo385072 r385076
                        refine G_aload 0 dr_cX17_rename_123 rfl ?_
                        refine Gp_get 1 hm384962 he385062 dr_cX17_rename_125 (gk_X15 D I) (Nat.le_of_ble_eq_true rfl) wr_9_182 rfl ?_
                        refine G_iload_n 5 dr_cX17_rename_128 rfl ?_
                        refine G_icmp_ne 138 dr_cX17_rename_129 (by decide +kernel) (fun hc385077 => ?_) (fun hc385077 => ?_)
                        · have r385078 : p384965.toInt ≠ p360369.toInt := gC_ne hc385077
                          obtain ⟨z385079, hz385079⟩ : ∃ z : Int32, z = g384919 + Int32.ofInt 1 := ⟨_, rfl⟩
                          have ez385079 : z385079.toInt = g384919.toInt + 1 := gI_inc hz385079 (by decide) bg384919' (by decide) (by decide)
                          have bz385079 : gB z385079 1 1000001 := ⟨by omega, by omega⟩
                          refine G_iinc (L' := [(5, .int z385079), (6, .ref q384082), (4, .ref q384072), (3, .int g384012), (0, .ref q360368), (1, .int p360369), (2, .int p360370)]) z385079 1 dr_cX17_rename_138 rfl hz385079.symm (Nat.le_of_ble_eq_true rfl) rfl ?_
                          refine G_goto 20 dr_cX17_rename_141 (by decide +kernel) ?_
                          refine G_lv (L' := [(5, .int z385079), (4, .ref q384072), (3, .int g384012), (0, .ref q360368), (1, .int p360369), (2, .int p360370)]) [0, 2, 3, 4, 5, 6] rfl ?_
                          exact ih20_384924 F385054 z385079 (gB_w bz385079 (by decide) (by decide)) hT385065 hs385063 (fun N hv hu hp => rPl_put hT384921 htq360368 rfl (x384923 N hv hu hp) n385056 hp384958 nb384961 hL384959 (fun _ _ _ _ z => z) (rNx_ren he384963 he385062 hu hv (Or.inl rfl) (Or.inr rfl) (Or.inl rfl) (by rw [← hp384958]; exact x384923 N hv hu hp _ nb384961 _ hL384959))) fk385064 (mz_up ez385079 (Int.le_trans bg384919'.2 (by decide)) hm20_384924)
                        · have r385080 : p384965.toInt = p360369.toInt := gC_eq hc385077
                          refine G_aload 0 dr_cX17_rename_132 rfl ?_
                          refine G_iload_n 6 dr_cX17_rename_134 rfl ?_
                          refine Gp_put 1 hm384962 he385062 dr_cX17_rename_135 (gk_X15 D I) (Nat.le_of_ble_eq_true rfl) wr_9_182 rfl rfl rfl (Nat.le_of_ble_eq_true rfl) (fun F385081 e385082 n385083 => ?_)
                          have he385084 : F385081 q360368 = .inr (18, [.ref q384023, .ref q384024, .int p384025, .int p384026]) := (n385083 q360368 (rn_oo he385057 he385062 (by decide))).trans he385057
                          have he385085 : F385081 q384023 = .inr (4, [.int p384053, .ref q384055, .int p384054]) := (n385083 q384023 (rn_oo he385058 he385062 (by decide))).trans he385058
                          have he385086 : F385081 q384055 = .inl (I (.object "java/lang/Object"), n384069, .inr (.inr (.inr (.inr f384070)))) := (n385083 q384055 (rn_ao he385059 he385062)).trans he385059
                          have he385087 : F385081 q384072 = .inr (17, [.ref q384081, .ref q384082, .int p384083, .int p384084]) := (n385083 q384072 (rn_oo he385060 he385062 (by decide))).trans he385060
                          have he385088 : F385081 q384081 = .inr (4, [.int p384934, .ref q384936, .int p384935]) := (n385083 q384081 (rn_oo he385061 he385062 (by decide))).trans he385061
                          have he385089 : F385081 q384082 = .inr (20, [.int p384964, .int p360370, .int p384966, .int p360370, .int p384968, .int p384969, .int p384970]) := e385082
                          have hs385090 : rStr γ [1] F360367 F385081 := rStr_pu2 hs385063 n385083 ht384087 (by decide)
                          have fk385091 : rFk [1] γ F360367 F385081 := rFk_put fk385064 n385083 ht384087 (by decide)
                          obtain ⟨z385092, hz385092⟩ : ∃ z : Int32, z = g384919 + Int32.ofInt 1 := ⟨_, rfl⟩
                          have ez385092 : z385092.toInt = g384919.toInt + 1 := gI_inc hz385092 (by decide) bg384919' (by decide) (by decide)
                          have bz385092 : gB z385092 1 1000001 := ⟨by omega, by omega⟩
                          refine G_iinc (L' := [(5, .int z385092), (6, .ref q384082), (4, .ref q384072), (3, .int g384012), (0, .ref q360368), (1, .int p360369), (2, .int p360370)]) z385092 1 dr_cX17_rename_138 rfl hz385092.symm (Nat.le_of_ble_eq_true rfl) rfl ?_
                          refine G_goto 20 dr_cX17_rename_141 (by decide +kernel) ?_
                          have hT385093 : RS D I P360366 F385081 γ el := RS_set hT385065 n385083 ht384087 (by decide) ⟨p384964, p360370, p384966, p360370, p384968, p384969, p384970, he385089, bp384964, bp360370, bp384968, bp384969, bp384970, r384971, r384972, (Or.inr bp360370), r384974, r384975⟩
                          have of385094 : ∀ b, b ≠ q384082 → F385081 b = F384920 b := fun b hb => (n385083 b hb).trans (n385056 b hb)
                          refine G_lv (L' := [(5, .int z385092), (4, .ref q384072), (3, .int g384012), (0, .ref q360368), (1, .int p360369), (2, .int p360370)]) [0, 2, 3, 4, 5, 6] rfl ?_
                          exact ih20_384924 F385081 z385092 (gB_w bz385092 (by decide) (by decide)) hT385093 hs385090 (fun N hv hu hp => rPl_put hT384921 htq360368 rfl (x384923 N hv hu hp) of385094 hp384958 nb384961 hL384959 (fun _ _ _ _ z => z) (rNx_ren he384963 he385089 hu hv (Or.inl rfl) (Or.inr rfl) (Or.inr ⟨rfl, by first | assumption | omega⟩) (by rw [← hp384958]; exact x384923 N hv hu hp _ nb384961 _ hL384959))) fk385091 (mz_up ez385092 (Int.le_trans bg384919'.2 (by decide)) hm20_384924)
                · have r385095 : o384981.toInt ≠ 0 := gj_neq hc384983 (show Int32.toInt 0 = 0 by decide)
                  have bo384981' : gB o384981 1 1 := gB_t1 bo384981 r385095
                  refine G_aload 0 dr_cX17_rename_77 rfl ?_
                  refine Gp_get 2 hm384962 he384963 dr_cX17_rename_79 (gk_X15 D I) (Nat.le_of_ble_eq_true rfl) wr_9_186 rfl ?_
                  refine G_iload_n 5 dr_cX17_rename_82 rfl ?_
                  refine G_icmp_ne 92 dr_cX17_rename_83 (by decide +kernel) (fun hc385096 => ?_) (fun hc385096 => ?_)
                  · have r385097 : p384966.toInt ≠ p360369.toInt := gC_ne hc385096
                    refine G_aload 0 dr_cX17_rename_92 rfl ?_
                    refine Gw_callV (As := []) (gV_ok D I) (cp_1693_Row_usesB l hl0 D I P360366 F384920 q384082 p384964 p384965 p384966 p384967 p384968 p384969 p384970 hm384962 he384963 bp384964 bp384965 bp384968 bp384969 bp384970) dr_cX17_rename_94 ⟨wr_10_196, wr_1_39, wr_10_199, by decide, rfl, (Nat.le_of_ble_eq_true rfl), (Nat.le_of_ble_eq_true rfl)⟩ wr_10_197 wr_10_198 hm384962 he384963 rfl (show 0 + 0 ≤ 0 by first | omega | decide) (show 0 + 0 ≤ 0 by first | omega | decide) (Nat.le_of_ble_eq_true rfl) (fun r385101 w385102 dc385098 ds385099 hp385100 => ?_) (fun _ _ _ _ _ z => z.elim)
                    obtain ⟨o385103, rfl, rfl, hdc, hds, bo385103, x385104⟩ := hp385100
                    change G _ _ _ _ _ _ _ (.int o385103 :: _) _ _ _
                    refine G_widen (cs' := 0) (sl' := 0) (by omega) (by omega) ?_
                    refine G_if_eq 115 dr_cX17_rename_97 (by decide +kernel) (fun hc385105 => ?_) (fun hc385105 => ?_)
                    · have r385106 : o385103.toInt = 0 := gj_eq hc385105 (show Int32.toInt 0 = 0 by decide)
                      have bo385103' : gB o385103 0 0 := gB_t0 r385106
                      refine G_aload 0 dr_cX17_rename_115 rfl ?_
                      refine Gw_callV (As := []) (gV_ok D I) (cp_1654_Row_sets l hl0 D I P360366 F384920 q384082 p384964 p384965 p384966 p384967 p384968 p384969 p384970 hm384962 he384963 bp384964 bp384965 bp384968 bp384969 bp384970) dr_cX17_rename_117 ⟨wr_10_181, wr_1_39, wr_10_184, by decide, rfl, (Nat.le_of_ble_eq_true rfl), (Nat.le_of_ble_eq_true rfl)⟩ wr_10_182 wr_10_183 hm384962 he384963 rfl (show 0 + 0 ≤ 0 by first | omega | decide) (show 0 + 0 ≤ 0 by first | omega | decide) (Nat.le_of_ble_eq_true rfl) (fun r385110 w385111 dc385107 ds385108 hp385109 => ?_) (fun _ _ _ _ _ z => z.elim)
                      obtain ⟨o385112, rfl, rfl, hdc, hds, bo385112⟩ := hp385109
                      change G _ _ _ _ _ _ _ (.int o385112 :: _) _ _ _
                      refine G_widen (cs' := 0) (sl' := 0) (by omega) (by omega) ?_
                      refine G_if_eq 138 dr_cX17_rename_120 (by decide +kernel) (fun hc385113 => ?_) (fun hc385113 => ?_)
                      · have r385114 : o385112.toInt = 0 := gj_eq hc385113 (show Int32.toInt 0 = 0 by decide)
                        have bo385112' : gB o385112 0 0 := gB_t0 r385114
                        obtain ⟨z385115, hz385115⟩ : ∃ z : Int32, z = g384919 + Int32.ofInt 1 := ⟨_, rfl⟩
                        have ez385115 : z385115.toInt = g384919.toInt + 1 := gI_inc hz385115 (by decide) bg384919' (by decide) (by decide)
                        have bz385115 : gB z385115 1 1000001 := ⟨by omega, by omega⟩
                        refine G_iinc (L' := [(5, .int z385115), (6, .ref q384082), (4, .ref q384072), (3, .int g384012), (0, .ref q360368), (1, .int p360369), (2, .int p360370)]) z385115 1 dr_cX17_rename_138 rfl hz385115.symm (Nat.le_of_ble_eq_true rfl) rfl ?_
                        refine G_goto 20 dr_cX17_rename_141 (by decide +kernel) ?_
                        refine G_lv (L' := [(5, .int z385115), (4, .ref q384072), (3, .int g384012), (0, .ref q360368), (1, .int p360369), (2, .int p360370)]) [0, 2, 3, 4, 5, 6] rfl ?_
                        exact ih20_384924 F384920 z385115 (gB_w bz385115 (by decide) (by decide)) hT384921 hs384922 x384923 x384924 (mz_up ez385115 (Int.le_trans bg384919'.2 (by decide)) hm20_384924)
                      · have r385116 : o385112.toInt ≠ 0 := gj_neq hc385113 (show Int32.toInt 0 = 0 by decide)
                        have bo385112' : gB o385112 1 1 := gB_t1 bo385112 r385116
                        refine G_aload 0 dr_cX17_rename_123 rfl ?_
                        refine Gp_get 1 hm384962 he384963 dr_cX17_rename_125 (gk_X15 D I) (Nat.le_of_ble_eq_true rfl) wr_9_182 rfl ?_
                        refine G_iload_n 5 dr_cX17_rename_128 rfl ?_
                        refine G_icmp_ne 138 dr_cX17_rename_129 (by decide +kernel) (fun hc385117 => ?_) (fun hc385117 => ?_)
                        · have r385118 : p384965.toInt ≠ p360369.toInt := gC_ne hc385117
                          obtain ⟨z385119, hz385119⟩ : ∃ z : Int32, z = g384919 + Int32.ofInt 1 := ⟨_, rfl⟩
                          have ez385119 : z385119.toInt = g384919.toInt + 1 := gI_inc hz385119 (by decide) bg384919' (by decide) (by decide)
                          have bz385119 : gB z385119 1 1000001 := ⟨by omega, by omega⟩
                          refine G_iinc (L' := [(5, .int z385119), (6, .ref q384082), (4, .ref q384072), (3, .int g384012), (0, .ref q360368), (1, .int p360369), (2, .int p360370)]) z385119 1 dr_cX17_rename_138 rfl hz385119.symm (Nat.le_of_ble_eq_true rfl) rfl ?_
                          refine G_goto 20 dr_cX17_rename_141 (by decide +kernel) ?_
                          refine G_lv (L' := [(5, .int z385119), (4, .ref q384072), (3, .int g384012), (0, .ref q360368), (1, .int p360369), (2, .int p360370)]) [0, 2, 3, 4, 5, 6] rfl ?_
                          exact ih20_384924 F384920 z385119 (gB_w bz385119 (by decide) (by decide)) hT384921 hs384922 x384923 x384924 (mz_up ez385119 (Int.le_trans bg384919'.2 (by decide)) hm20_384924)
                        · have r385120 : p384965.toInt = p360369.toInt := gC_eq hc385117
                          refine G_aload 0 dr_cX17_rename_132 rfl ?_
                          refine G_iload_n 6 dr_cX17_rename_134 rfl ?_
                          refine Gp_put 1 hm384962 he384963 dr_cX17_rename_135 (gk_X15 D I) (Nat.le_of_ble_eq_true rfl) wr_9_182 rfl rfl rfl (Nat.le_of_ble_eq_true rfl) (fun F385121 e385122 n385123 => ?_)
                          have he385124 : F385121 q360368 = .inr (18, [.ref q384023, .ref q384024, .int p384025, .int p384026]) := (n385123 q360368 (rn_oo he384927 he384963 (by decide))).trans he384927
                          have he385125 : F385121 q384023 = .inr (4, [.int p384053, .ref q384055, .int p384054]) := (n385123 q384023 (rn_oo he384928 he384963 (by decide))).trans he384928
                          have he385126 : F385121 q384055 = .inl (I (.object "java/lang/Object"), n384069, .inr (.inr (.inr (.inr f384070)))) := (n385123 q384055 (rn_ao he384929 he384963)).trans he384929
                          have he385127 : F385121 q384072 = .inr (17, [.ref q384081, .ref q384082, .int p384083, .int p384084]) := (n385123 q384072 (rn_oo he384930 he384963 (by decide))).trans he384930
                          have he385128 : F385121 q384081 = .inr (4, [.int p384934, .ref q384936, .int p384935]) := (n385123 q384081 (rn_oo he384933 he384963 (by decide))).trans he384933
                          have he385129 : F385121 q384082 = .inr (20, [.int p384964, .int p360370, .int p384966, .int p384967, .int p384968, .int p384969, .int p384970]) := e385122
                          have hs385130 : rStr γ [1] F360367 F385121 := rStr_pu2 hs384922 n385123 ht384087 (by decide)
                          have fk385131 : rFk [1] γ F360367 F385121 := rFk_put x384924 n385123 ht384087 (by decide)
                          obtain ⟨z385132, hz385132⟩ : ∃ z : Int32, z = g384919 + Int32.ofInt 1 := ⟨_, rfl⟩
                          have ez385132 : z385132.toInt = g384919.toInt + 1 := gI_inc hz385132 (by decide) bg384919' (by decide) (by decide)
                          have bz385132 : gB z385132 1 1000001 := ⟨by omega, by omega⟩
                          refine G_iinc (L' := [(5, .int z385132), (6, .ref q384082), (4, .ref q384072), (3, .int g384012), (0, .ref q360368), (1, .int p360369), (2, .int p360370)]) z385132 1 dr_cX17_rename_138 rfl hz385132.symm (Nat.le_of_ble_eq_true rfl) rfl ?_
                          refine G_goto 20 dr_cX17_rename_141 (by decide +kernel) ?_
                          have hT385133 : RS D I P360366 F385121 γ el := RS_set hT384921 n385123 ht384087 (by decide) ⟨p384964, p360370, p384966, p384967, p384968, p384969, p384970, he385129, bp384964, bp360370, bp384968, bp384969, bp384970, r384971, r384972, r384973, r384974, r384975⟩
                          refine G_lv (L' := [(5, .int z385132), (4, .ref q384072), (3, .int g384012), (0, .ref q360368), (1, .int p360369), (2, .int p360370)]) [0, 2, 3, 4, 5, 6] rfl ?_
                          exact ih20_384924 F385121 z385132 (gB_w bz385132 (by decide) (by decide)) hT385133 hs385130 (fun N hv hu hp => rPl_put hT384921 htq360368 rfl (x384923 N hv hu hp) n385123 hp384958 nb384961 hL384959 (fun _ _ _ _ z => z) (rNx_ren he384963 he385129 hu hv (Or.inl rfl) (Or.inl rfl) (Or.inr ⟨rfl, by first | assumption | omega⟩) (by rw [← hp384958]; exact x384923 N hv hu hp _ nb384961 _ hL384959))) fk385131 (mz_up ez385132 (Int.le_trans bg384919'.2 (by decide)) hm20_384924)
                    · have r385135 : o385103.toInt ≠ 0 := gj_neq hc385105 (show Int32.toInt 0 = 0 by decide)
                      have bo385103' : gB o385103 1 1 := gB_t1 bo385103 r385135
                      refine G_aload 0 dr_cX17_rename_100 rfl ?_
                      refine Gp_get 3 hm384962 he384963 dr_cX17_rename_102 (gk_X15 D I) (Nat.le_of_ble_eq_true rfl) wr_9_190 rfl ?_
                      refine G_iload_n 5 dr_cX17_rename_105 rfl ?_
                      refine G_icmp_ne 115 dr_cX17_rename_106 (by decide +kernel) (fun hc385136 => ?_) (fun hc385136 => ?_)
                      · have r385137 : p384967.toInt ≠ p360369.toInt := gC_ne hc385136
                        refine G_aload 0 dr_cX17_rename_115 rfl ?_
                        refine Gw_callV (As := []) (gV_ok D I) (cp_1654_Row_sets l hl0 D I P360366 F384920 q384082 p384964 p384965 p384966 p384967 p384968 p384969 p384970 hm384962 he384963 bp384964 bp384965 bp384968 bp384969 bp384970) dr_cX17_rename_117 ⟨wr_10_181, wr_1_39, wr_10_184, by decide, rfl, (Nat.le_of_ble_eq_true rfl), (Nat.le_of_ble_eq_true rfl)⟩ wr_10_182 wr_10_183 hm384962 he384963 rfl (show 0 + 0 ≤ 0 by first | omega | decide) (show 0 + 0 ≤ 0 by first | omega | decide) (Nat.le_of_ble_eq_true rfl) (fun r385141 w385142 dc385138 ds385139 hp385140 => ?_) (fun _ _ _ _ _ z => z.elim)
                        obtain ⟨o385143, rfl, rfl, hdc, hds, bo385143⟩ := hp385140
                        change G _ _ _ _ _ _ _ (.int o385143 :: _) _ _ _
                        refine G_widen (cs' := 0) (sl' := 0) (by omega) (by omega) ?_
                        refine G_if_eq 138 dr_cX17_rename_120 (by decide +kernel) (fun hc385144 => ?_) (fun hc385144 => ?_)
                        · have r385145 : o385143.toInt = 0 := gj_eq hc385144 (show Int32.toInt 0 = 0 by decide)
                          have bo385143' : gB o385143 0 0 := gB_t0 r385145
                          obtain ⟨z385146, hz385146⟩ : ∃ z : Int32, z = g384919 + Int32.ofInt 1 := ⟨_, rfl⟩
                          have ez385146 : z385146.toInt = g384919.toInt + 1 := gI_inc hz385146 (by decide) bg384919' (by decide) (by decide)
                          have bz385146 : gB z385146 1 1000001 := ⟨by omega, by omega⟩
                          refine G_iinc (L' := [(5, .int z385146), (6, .ref q384082), (4, .ref q384072), (3, .int g384012), (0, .ref q360368), (1, .int p360369), (2, .int p360370)]) z385146 1 dr_cX17_rename_138 rfl hz385146.symm (Nat.le_of_ble_eq_true rfl) rfl ?_
                          refine G_goto 20 dr_cX17_rename_141 (by decide +kernel) ?_
                          refine G_lv (L' := [(5, .int z385146), (4, .ref q384072), (3, .int g384012), (0, .ref q360368), (1, .int p360369), (2, .int p360370)]) [0, 2, 3, 4, 5, 6] rfl ?_
                          exact ih20_384924 F384920 z385146 (gB_w bz385146 (by decide) (by decide)) hT384921 hs384922 x384923 x384924 (mz_up ez385146 (Int.le_trans bg384919'.2 (by decide)) hm20_384924)
                        · have r385147 : o385143.toInt ≠ 0 := gj_neq hc385144 (show Int32.toInt 0 = 0 by decide)
                          have bo385143' : gB o385143 1 1 := gB_t1 bo385143 r385147
                          refine G_aload 0 dr_cX17_rename_123 rfl ?_
                          refine Gp_get 1 hm384962 he384963 dr_cX17_rename_125 (gk_X15 D I) (Nat.le_of_ble_eq_true rfl) wr_9_182 rfl ?_
                          refine G_iload_n 5 dr_cX17_rename_128 rfl ?_
                          refine G_icmp_ne 138 dr_cX17_rename_129 (by decide +kernel) (fun hc385148 => ?_) (fun hc385148 => ?_)
                          · have r385149 : p384965.toInt ≠ p360369.toInt := gC_ne hc385148
                            obtain ⟨z385150, hz385150⟩ : ∃ z : Int32, z = g384919 + Int32.ofInt 1 := ⟨_, rfl⟩
                            have ez385150 : z385150.toInt = g384919.toInt + 1 := gI_inc hz385150 (by decide) bg384919' (by decide) (by decide)
                            have bz385150 : gB z385150 1 1000001 := ⟨by omega, by omega⟩
                            refine G_iinc (L' := [(5, .int z385150), (6, .ref q384082), (4, .ref q384072), (3, .int g384012), (0, .ref q360368), (1, .int p360369), (2, .int p360370)]) z385150 1 dr_cX17_rename_138 rfl hz385150.symm (Nat.le_of_ble_eq_true rfl) rfl ?_
                            refine G_goto 20 dr_cX17_rename_141 (by decide +kernel) ?_
                            refine G_lv (L' := [(5, .int z385150), (4, .ref q384072), (3, .int g384012), (0, .ref q360368), (1, .int p360369), (2, .int p360370)]) [0, 2, 3, 4, 5, 6] rfl ?_
                            exact ih20_384924 F384920 z385150 (gB_w bz385150 (by decide) (by decide)) hT384921 hs384922 x384923 x384924 (mz_up ez385150 (Int.le_trans bg384919'.2 (by decide)) hm20_384924)
                          · have r385151 : p384965.toInt = p360369.toInt := gC_eq hc385148
                            refine G_aload 0 dr_cX17_rename_132 rfl ?_
                            refine G_iload_n 6 dr_cX17_rename_134 rfl ?_
                            refine Gp_put 1 hm384962 he384963 dr_cX17_rename_135 (gk_X15 D I) (Nat.le_of_ble_eq_true rfl) wr_9_182 rfl rfl rfl (Nat.le_of_ble_eq_true rfl) (fun F385152 e385153 n385154 => ?_)
                            have he385155 : F385152 q360368 = .inr (18, [.ref q384023, .ref q384024, .int p384025, .int p384026]) := (n385154 q360368 (rn_oo he384927 he384963 (by decide))).trans he384927
                            have he385156 : F385152 q384023 = .inr (4, [.int p384053, .ref q384055, .int p384054]) := (n385154 q384023 (rn_oo he384928 he384963 (by decide))).trans he384928
                            have he385157 : F385152 q384055 = .inl (I (.object "java/lang/Object"), n384069, .inr (.inr (.inr (.inr f384070)))) := (n385154 q384055 (rn_ao he384929 he384963)).trans he384929
                            have he385158 : F385152 q384072 = .inr (17, [.ref q384081, .ref q384082, .int p384083, .int p384084]) := (n385154 q384072 (rn_oo he384930 he384963 (by decide))).trans he384930
                            have he385159 : F385152 q384081 = .inr (4, [.int p384934, .ref q384936, .int p384935]) := (n385154 q384081 (rn_oo he384933 he384963 (by decide))).trans he384933
                            have he385160 : F385152 q384082 = .inr (20, [.int p384964, .int p360370, .int p384966, .int p384967, .int p384968, .int p384969, .int p384970]) := e385153
                            have hs385161 : rStr γ [1] F360367 F385152 := rStr_pu2 hs384922 n385154 ht384087 (by decide)
                            have fk385162 : rFk [1] γ F360367 F385152 := rFk_put x384924 n385154 ht384087 (by decide)
                            obtain ⟨z385163, hz385163⟩ : ∃ z : Int32, z = g384919 + Int32.ofInt 1 := ⟨_, rfl⟩
                            have ez385163 : z385163.toInt = g384919.toInt + 1 := gI_inc hz385163 (by decide) bg384919' (by decide) (by decide)
                            have bz385163 : gB z385163 1 1000001 := ⟨by omega, by omega⟩
                            refine G_iinc (L' := [(5, .int z385163), (6, .ref q384082), (4, .ref q384072), (3, .int g384012), (0, .ref q360368), (1, .int p360369), (2, .int p360370)]) z385163 1 dr_cX17_rename_138 rfl hz385163.symm (Nat.le_of_ble_eq_true rfl) rfl ?_
                            refine G_goto 20 dr_cX17_rename_141 (by decide +kernel) ?_
                            have hT385164 : RS D I P360366 F385152 γ el := RS_set hT384921 n385154 ht384087 (by decide) ⟨p384964, p360370, p384966, p384967, p384968, p384969, p384970, he385160, bp384964, bp360370, bp384968, bp384969, bp384970, r384971, r384972, r384973, r384974, r384975⟩
                            refine G_lv (L' := [(5, .int z385163), (4, .ref q384072), (3, .int g384012), (0, .ref q360368), (1, .int p360369), (2, .int p360370)]) [0, 2, 3, 4, 5, 6] rfl ?_
                            exact ih20_384924 F385152 z385163 (gB_w bz385163 (by decide) (by decide)) hT385164 hs385161 (fun N hv hu hp => rPl_put hT384921 htq360368 rfl (x384923 N hv hu hp) n385154 hp384958 nb384961 hL384959 (fun _ _ _ _ z => z) (rNx_ren he384963 he385160 hu hv (Or.inl rfl) (Or.inl rfl) (Or.inr ⟨rfl, by first | assumption | omega⟩) (by rw [← hp384958]; exact x384923 N hv hu hp _ nb384961 _ hL384959))) fk385162 (mz_up ez385163 (Int.le_trans bg384919'.2 (by decide)) hm20_384924)
                      · have r385166 : p384967.toInt = p360369.toInt := gC_eq hc385136
                        have bp384967' : gB p384967 0 1999 := ⟨by omega, by omega⟩
                        refine G_aload 0 dr_cX17_rename_109 rfl ?_
                        refine G_iload_n 6 dr_cX17_rename_111 rfl ?_
                        refine Gp_put 3 hm384962 he384963 dr_cX17_rename_112 (gk_X15 D I) (Nat.le_of_ble_eq_true rfl) wr_9_190 rfl rfl rfl (Nat.le_of_ble_eq_true rfl) (fun F385167 e385168 n385169 => ?_)
                        have he385170 : F385167 q360368 = .inr (18, [.ref q384023, .ref q384024, .int p384025, .int p384026]) := (n385169 q360368 (rn_oo he384927 he384963 (by decide))).trans he384927
                        have he385171 : F385167 q384023 = .inr (4, [.int p384053, .ref q384055, .int p384054]) := (n385169 q384023 (rn_oo he384928 he384963 (by decide))).trans he384928
                        have he385172 : F385167 q384055 = .inl (I (.object "java/lang/Object"), n384069, .inr (.inr (.inr (.inr f384070)))) := (n385169 q384055 (rn_ao he384929 he384963)).trans he384929
                        have he385173 : F385167 q384072 = .inr (17, [.ref q384081, .ref q384082, .int p384083, .int p384084]) := (n385169 q384072 (rn_oo he384930 he384963 (by decide))).trans he384930
                        have he385174 : F385167 q384081 = .inr (4, [.int p384934, .ref q384936, .int p384935]) := (n385169 q384081 (rn_oo he384933 he384963 (by decide))).trans he384933
                        have he385175 : F385167 q384082 = .inr (20, [.int p384964, .int p384965, .int p384966, .int p360370, .int p384968, .int p384969, .int p384970]) := e385168
                        have hs385176 : rStr γ [1] F360367 F385167 := rStr_pu2 hs384922 n385169 ht384087 (by decide)
                        have fk385177 : rFk [1] γ F360367 F385167 := rFk_put x384924 n385169 ht384087 (by decide)
                        refine G_aload 0 dr_cX17_rename_115 rfl ?_
                        have hT385178 : RS D I P360366 F385167 γ el := RS_set hT384921 n385169 ht384087 (by decide) ⟨p384964, p384965, p384966, p360370, p384968, p384969, p384970, he385175, bp384964, bp384965, bp384968, bp384969, bp384970, r384971, r384972, (Or.inr bp360370), r384974, r384975⟩
                        refine Gw_callV (As := []) (gV_ok D I) (cp_1654_Row_sets l hl0 D I P360366 F385167 q384082 p384964 p384965 p384966 p360370 p384968 p384969 p384970 hm384962 he385175 bp384964 bp384965 bp384968 bp384969 bp384970) dr_cX17_rename_117 ⟨wr_10_181, wr_1_39, wr_10_184, by decide, rfl, (Nat.le_of_ble_eq_true rfl), (Nat.le_of_ble_eq_true rfl)⟩ wr_10_182 wr_10_183 hm384962 he385175 rfl (show 0 + 0 ≤ 0 by first | omega | decide) (show 0 + 0 ≤ 0 by first | omega | decide) (Nat.le_of_ble_eq_true rfl) (fun r385183 w385184 dc385180 ds385181 hp385182 => ?_) (fun _ _ _ _ _ z => z.elim)
                        obtain ⟨o385185, rfl, rfl, hdc, hds, bo385185⟩ := hp385182
                        change G _ _ _ _ _ _ _ (.int o385185 :: _) _ _ _
                        refine G_widen (cs' := 0) (sl' := 0) (by omega) (by omega) ?_
                        refine G_if_eq 138 dr_cX17_rename_120 (by decide +kernel) (fun hc385186 => ?_) (fun hc385186 => ?_)
                        · have r385187 : o385185.toInt = 0 := gj_eq hc385186 (show Int32.toInt 0 = 0 by decide)
                          have bo385185' : gB o385185 0 0 := gB_t0 r385187
                          obtain ⟨z385188, hz385188⟩ : ∃ z : Int32, z = g384919 + Int32.ofInt 1 := ⟨_, rfl⟩
                          have ez385188 : z385188.toInt = g384919.toInt + 1 := gI_inc hz385188 (by decide) bg384919' (by decide) (by decide)
                          have bz385188 : gB z385188 1 1000001 := ⟨by omega, by omega⟩
                          refine G_iinc (L' := [(5, .int z385188), (6, .ref q384082), (4, .ref q384072), (3, .int g384012), (0, .ref q360368), (1, .int p360369), (2, .int p360370)]) z385188 1 dr_cX17_rename_138 rfl hz385188.symm (Nat.le_of_ble_eq_true rfl) rfl ?_
                          refine G_goto 20 dr_cX17_rename_141 (by decide +kernel) ?_
                          refine G_lv (L' := [(5, .int z385188), (4, .ref q384072), (3, .int g384012), (0, .ref q360368), (1, .int p360369), (2, .int p360370)]) [0, 2, 3, 4, 5, 6] rfl ?_
                          exact ih20_384924 F385167 z385188 (gB_w bz385188 (by decide) (by decide)) hT385178 hs385176 (fun N hv hu hp => rPl_put hT384921 htq360368 rfl (x384923 N hv hu hp) n385169 hp384958 nb384961 hL384959 (fun _ _ _ _ z => z) (rNx_ren he384963 he385175 hu hv (Or.inl rfl) (Or.inr rfl) (Or.inl rfl) (by rw [← hp384958]; exact x384923 N hv hu hp _ nb384961 _ hL384959))) fk385177 (mz_up ez385188 (Int.le_trans bg384919'.2 (by decide)) hm20_384924)
                        · have r385189 : o385185.toInt ≠ 0 := gj_neq hc385186 (show Int32.toInt 0 = 0 by decide)
                          have bo385185' : gB o385185 1 1 := gB_t1 bo385185 r385189
                          refine G_aload 0 dr_cX17_rename_123 rfl ?_
                          refine Gp_get 1 hm384962 he385175 dr_cX17_rename_125 (gk_X15 D I) (Nat.le_of_ble_eq_true rfl) wr_9_182 rfl ?_
                          refine G_iload_n 5 dr_cX17_rename_128 rfl ?_
                          refine G_icmp_ne 138 dr_cX17_rename_129 (by decide +kernel) (fun hc385190 => ?_) (fun hc385190 => ?_)
                          · have r385191 : p384965.toInt ≠ p360369.toInt := gC_ne hc385190
                            obtain ⟨z385192, hz385192⟩ : ∃ z : Int32, z = g384919 + Int32.ofInt 1 := ⟨_, rfl⟩
                            have ez385192 : z385192.toInt = g384919.toInt + 1 := gI_inc hz385192 (by decide) bg384919' (by decide) (by decide)
                            have bz385192 : gB z385192 1 1000001 := ⟨by omega, by omega⟩
                            refine G_iinc (L' := [(5, .int z385192), (6, .ref q384082), (4, .ref q384072), (3, .int g384012), (0, .ref q360368), (1, .int p360369), (2, .int p360370)]) z385192 1 dr_cX17_rename_138 rfl hz385192.symm (Nat.le_of_ble_eq_true rfl) rfl ?_
                            refine G_goto 20 dr_cX17_rename_141 (by decide +kernel) ?_
                            refine G_lv (L' := [(5, .int z385192), (4, .ref q384072), (3, .int g384012), (0, .ref q360368), (1, .int p360369), (2, .int p360370)]) [0, 2, 3, 4, 5, 6] rfl ?_
                            exact ih20_384924 F385167 z385192 (gB_w bz385192 (by decide) (by decide)) hT385178 hs385176 (fun N hv hu hp => rPl_put hT384921 htq360368 rfl (x384923 N hv hu hp) n385169 hp384958 nb384961 hL384959 (fun _ _ _ _ z => z) (rNx_ren he384963 he385175 hu hv (Or.inl rfl) (Or.inr rfl) (Or.inl rfl) (by rw [← hp384958]; exact x384923 N hv hu hp _ nb384961 _ hL384959))) fk385177 (mz_up ez385192 (Int.le_trans bg384919'.2 (by decide)) hm20_384924)
                          · have r385193 : p384965.toInt = p360369.toInt := gC_eq hc385190
                            refine G_aload 0 dr_cX17_rename_132 rfl ?_
                            refine G_iload_n 6 dr_cX17_rename_134 rfl ?_
                            refine Gp_put 1 hm384962 he385175 dr_cX17_rename_135 (gk_X15 D I) (Nat.le_of_ble_eq_true rfl) wr_9_182 rfl rfl rfl (Nat.le_of_ble_eq_true rfl) (fun F385194 e385195 n385196 => ?_)
                            have he385197 : F385194 q360368 = .inr (18, [.ref q384023, .ref q384024, .int p384025, .int p384026]) := (n385196 q360368 (rn_oo he385170 he385175 (by decide))).trans he385170
                            have he385198 : F385194 q384023 = .inr (4, [.int p384053, .ref q384055, .int p384054]) := (n385196 q384023 (rn_oo he385171 he385175 (by decide))).trans he385171
                            have he385199 : F385194 q384055 = .inl (I (.object "java/lang/Object"), n384069, .inr (.inr (.inr (.inr f384070)))) := (n385196 q384055 (rn_ao he385172 he385175)).trans he385172
                            have he385200 : F385194 q384072 = .inr (17, [.ref q384081, .ref q384082, .int p384083, .int p384084]) := (n385196 q384072 (rn_oo he385173 he385175 (by decide))).trans he385173
                            have he385201 : F385194 q384081 = .inr (4, [.int p384934, .ref q384936, .int p384935]) := (n385196 q384081 (rn_oo he385174 he385175 (by decide))).trans he385174
                            have he385202 : F385194 q384082 = .inr (20, [.int p384964, .int p360370, .int p384966, .int p360370, .int p384968, .int p384969, .int p384970]) := e385195
                            have hs385203 : rStr γ [1] F360367 F385194 := rStr_pu2 hs385176 n385196 ht384087 (by decide)
                            have fk385204 : rFk [1] γ F360367 F385194 := rFk_put fk385177 n385196 ht384087 (by decide)
                            obtain ⟨z385205, hz385205⟩ : ∃ z : Int32, z = g384919 + Int32.ofInt 1 := ⟨_, rfl⟩
                            have ez385205 : z385205.toInt = g384919.toInt + 1 := gI_inc hz385205 (by decide) bg384919' (by decide) (by decide)
                            have bz385205 : gB z385205 1 1000001 := ⟨by omega, by omega⟩
                            refine G_iinc (L' := [(5, .int z385205), (6, .ref q384082), (4, .ref q384072), (3, .int g384012), (0, .ref q360368), (1, .int p360369), (2, .int p360370)]) z385205 1 dr_cX17_rename_138 rfl hz385205.symm (Nat.le_of_ble_eq_true rfl) rfl ?_
                            refine G_goto 20 dr_cX17_rename_141 (by decide +kernel) ?_
                            have hT385206 : RS D I P360366 F385194 γ el := RS_set hT385178 n385196 ht384087 (by decide) ⟨p384964, p360370, p384966, p360370, p384968, p384969, p384970, he385202, bp384964, bp360370, bp384968, bp384969, bp384970, r384971, r384972, (Or.inr bp360370), r384974, r384975⟩
                            have of385207 : ∀ b, b ≠ q384082 → F385194 b = F384920 b := fun b hb => (n385196 b hb).trans (n385169 b hb)
                            refine G_lv (L' := [(5, .int z385205), (4, .ref q384072), (3, .int g384012), (0, .ref q360368), (1, .int p360369), (2, .int p360370)]) [0, 2, 3, 4, 5, 6] rfl ?_
                            exact ih20_384924 F385194 z385205 (gB_w bz385205 (by decide) (by decide)) hT385206 hs385203 (fun N hv hu hp => rPl_put hT384921 htq360368 rfl (x384923 N hv hu hp) of385207 hp384958 nb384961 hL384959 (fun _ _ _ _ z => z) (rNx_ren he384963 he385202 hu hv (Or.inl rfl) (Or.inr rfl) (Or.inr ⟨rfl, by first | assumption | omega⟩) (by rw [← hp384958]; exact x384923 N hv hu hp _ nb384961 _ hL384959))) fk385204 (mz_up ez385205 (Int.le_trans bg384919'.2 (by decide)) hm20_384924)
                  · have r385208 : p384966.toInt = p360369.toInt := gC_eq hc385096
                    have bp384966' : gB p384966 0 1999 := ⟨by omega, by omega⟩
                    refine G_aload 0 dr_cX17_rename_86 rfl ?_
                    refine G_iload_n 6 dr_cX17_rename_88 rfl ?_
                    refine Gp_put 2 hm384962 he384963 dr_cX17_rename_89 (gk_X15 D I) (Nat.le_of_ble_eq_true rfl) wr_9_186 rfl rfl rfl (Nat.le_of_ble_eq_true rfl) (fun F385209 e385210 n385211 => ?_)
                    have he385212 : F385209 q360368 = .inr (18, [.ref q384023, .ref q384024, .int p384025, .int p384026]) := (n385211 q360368 (rn_oo he384927 he384963 (by decide))).trans he384927
                    have he385213 : F385209 q384023 = .inr (4, [.int p384053, .ref q384055, .int p384054]) := (n385211 q384023 (rn_oo he384928 he384963 (by decide))).trans he384928
                    have he385214 : F385209 q384055 = .inl (I (.object "java/lang/Object"), n384069, .inr (.inr (.inr (.inr f384070)))) := (n385211 q384055 (rn_ao he384929 he384963)).trans he384929
                    have he385215 : F385209 q384072 = .inr (17, [.ref q384081, .ref q384082, .int p384083, .int p384084]) := (n385211 q384072 (rn_oo he384930 he384963 (by decide))).trans he384930
                    have he385216 : F385209 q384081 = .inr (4, [.int p384934, .ref q384936, .int p384935]) := (n385211 q384081 (rn_oo he384933 he384963 (by decide))).trans he384933
                    have he385217 : F385209 q384082 = .inr (20, [.int p384964, .int p384965, .int p360370, .int p384967, .int p384968, .int p384969, .int p384970]) := e385210
                    have hs385218 : rStr γ [1] F360367 F385209 := rStr_pu2 hs384922 n385211 ht384087 (by decide)
                    have fk385219 : rFk [1] γ F360367 F385209 := rFk_put x384924 n385211 ht384087 (by decide)
                    refine G_aload 0 dr_cX17_rename_92 rfl ?_
                    have hT385220 : RS D I P360366 F385209 γ el := RS_set hT384921 n385211 ht384087 (by decide) ⟨p384964, p384965, p360370, p384967, p384968, p384969, p384970, he385217, bp384964, bp384965, bp384968, bp384969, bp384970, r384971, (Or.inr bp360370), r384973, r384974, r384975⟩
                    refine Gw_callV (As := []) (gV_ok D I) (cp_1693_Row_usesB l hl0 D I P360366 F385209 q384082 p384964 p384965 p360370 p384967 p384968 p384969 p384970 hm384962 he385217 bp384964 bp384965 bp384968 bp384969 bp384970) dr_cX17_rename_94 ⟨wr_10_196, wr_1_39, wr_10_199, by decide, rfl, (Nat.le_of_ble_eq_true rfl), (Nat.le_of_ble_eq_true rfl)⟩ wr_10_197 wr_10_198 hm384962 he385217 rfl (show 0 + 0 ≤ 0 by first | omega | decide) (show 0 + 0 ≤ 0 by first | omega | decide) (Nat.le_of_ble_eq_true rfl) (fun r385225 w385226 dc385222 ds385223 hp385224 => ?_) (fun _ _ _ _ _ z => z.elim)
                    obtain ⟨o385227, rfl, rfl, hdc, hds, bo385227, x385228⟩ := hp385224
                    change G _ _ _ _ _ _ _ (.int o385227 :: _) _ _ _
                    refine G_widen (cs' := 0) (sl' := 0) (by omega) (by omega) ?_
                    refine G_if_eq 115 dr_cX17_rename_97 (by decide +kernel) (fun hc385229 => ?_) (fun hc385229 => ?_)
                    · have r385230 : o385227.toInt = 0 := gj_eq hc385229 (show Int32.toInt 0 = 0 by decide)
                      have bo385227' : gB o385227 0 0 := gB_t0 r385230
                      refine G_aload 0 dr_cX17_rename_115 rfl ?_
                      refine Gw_callV (As := []) (gV_ok D I) (cp_1654_Row_sets l hl0 D I P360366 F385209 q384082 p384964 p384965 p360370 p384967 p384968 p384969 p384970 hm384962 he385217 bp384964 bp384965 bp384968 bp384969 bp384970) dr_cX17_rename_117 ⟨wr_10_181, wr_1_39, wr_10_184, by decide, rfl, (Nat.le_of_ble_eq_true rfl), (Nat.le_of_ble_eq_true rfl)⟩ wr_10_182 wr_10_183 hm384962 he385217 rfl (show 0 + 0 ≤ 0 by first | omega | decide) (show 0 + 0 ≤ 0 by first | omega | decide) (Nat.le_of_ble_eq_true rfl) (fun r385234 w385235 dc385231 ds385232 hp385233 => ?_) (fun _ _ _ _ _ z => z.elim)
                      obtain ⟨o385236, rfl, rfl, hdc, hds, bo385236⟩ := hp385233
                      change G _ _ _ _ _ _ _ (.int o385236 :: _) _ _ _
                      refine G_widen (cs' := 0) (sl' := 0) (by omega) (by omega) ?_
                      refine G_if_eq 138 dr_cX17_rename_120 (by decide +kernel) (fun hc385237 => ?_) (fun hc385237 => ?_)
                      · have r385238 : o385236.toInt = 0 := gj_eq hc385237 (show Int32.toInt 0 = 0 by decide)
                        have bo385236' : gB o385236 0 0 := gB_t0 r385238
                        obtain ⟨z385239, hz385239⟩ : ∃ z : Int32, z = g384919 + Int32.ofInt 1 := ⟨_, rfl⟩
                        have ez385239 : z385239.toInt = g384919.toInt + 1 := gI_inc hz385239 (by decide) bg384919' (by decide) (by decide)
                        have bz385239 : gB z385239 1 1000001 := ⟨by omega, by omega⟩
                        refine G_iinc (L' := [(5, .int z385239), (6, .ref q384082), (4, .ref q384072), (3, .int g384012), (0, .ref q360368), (1, .int p360369), (2, .int p360370)]) z385239 1 dr_cX17_rename_138 rfl hz385239.symm (Nat.le_of_ble_eq_true rfl) rfl ?_
                        refine G_goto 20 dr_cX17_rename_141 (by decide +kernel) ?_
                        refine G_lv (L' := [(5, .int z385239), (4, .ref q384072), (3, .int g384012), (0, .ref q360368), (1, .int p360369), (2, .int p360370)]) [0, 2, 3, 4, 5, 6] rfl ?_
                        exact ih20_384924 F385209 z385239 (gB_w bz385239 (by decide) (by decide)) hT385220 hs385218 (fun N hv hu hp => rPl_put hT384921 htq360368 rfl (x384923 N hv hu hp) n385211 hp384958 nb384961 hL384959 (fun _ _ _ _ z => z) (rNx_ren he384963 he385217 hu hv (Or.inr rfl) (Or.inl rfl) (Or.inl rfl) (by rw [← hp384958]; exact x384923 N hv hu hp _ nb384961 _ hL384959))) fk385219 (mz_up ez385239 (Int.le_trans bg384919'.2 (by decide)) hm20_384924)
                      · have r385240 : o385236.toInt ≠ 0 := gj_neq hc385237 (show Int32.toInt 0 = 0 by decide)
                        have bo385236' : gB o385236 1 1 := gB_t1 bo385236 r385240
                        refine G_aload 0 dr_cX17_rename_123 rfl ?_
                        refine Gp_get 1 hm384962 he385217 dr_cX17_rename_125 (gk_X15 D I) (Nat.le_of_ble_eq_true rfl) wr_9_182 rfl ?_
                        refine G_iload_n 5 dr_cX17_rename_128 rfl ?_
                        refine G_icmp_ne 138 dr_cX17_rename_129 (by decide +kernel) (fun hc385241 => ?_) (fun hc385241 => ?_)
                        · have r385242 : p384965.toInt ≠ p360369.toInt := gC_ne hc385241
                          obtain ⟨z385243, hz385243⟩ : ∃ z : Int32, z = g384919 + Int32.ofInt 1 := ⟨_, rfl⟩
                          have ez385243 : z385243.toInt = g384919.toInt + 1 := gI_inc hz385243 (by decide) bg384919' (by decide) (by decide)
                          have bz385243 : gB z385243 1 1000001 := ⟨by omega, by omega⟩
                          refine G_iinc (L' := [(5, .int z385243), (6, .ref q384082), (4, .ref q384072), (3, .int g384012), (0, .ref q360368), (1, .int p360369), (2, .int p360370)]) z385243 1 dr_cX17_rename_138 rfl hz385243.symm (Nat.le_of_ble_eq_true rfl) rfl ?_
                          refine G_goto 20 dr_cX17_rename_141 (by decide +kernel) ?_
                          refine G_lv (L' := [(5, .int z385243), (4, .ref q384072), (3, .int g384012), (0, .ref q360368), (1, .int p360369), (2, .int p360370)]) [0, 2, 3, 4, 5, 6] rfl ?_
                          exact ih20_384924 F385209 z385243 (gB_w bz385243 (by decide) (by decide)) hT385220 hs385218 (fun N hv hu hp => rPl_put hT384921 htq360368 rfl (x384923 N hv hu hp) n385211 hp384958 nb384961 hL384959 (fun _ _ _ _ z => z) (rNx_ren he384963 he385217 hu hv (Or.inr rfl) (Or.inl rfl) (Or.inl rfl) (by rw [← hp384958]; exact x384923 N hv hu hp _ nb384961 _ hL384959))) fk385219 (mz_up ez385243 (Int.le_trans bg384919'.2 (by decide)) hm20_384924)
                        · have r385244 : p384965.toInt = p360369.toInt := gC_eq hc385241
                          refine G_aload 0 dr_cX17_rename_132 rfl ?_
                          refine G_iload_n 6 dr_cX17_rename_134 rfl ?_
                          refine Gp_put 1 hm384962 he385217 dr_cX17_rename_135 (gk_X15 D I) (Nat.le_of_ble_eq_true rfl) wr_9_182 rfl rfl rfl (Nat.le_of_ble_eq_true rfl) (fun F385245 e385246 n385247 => ?_)
                          have he385248 : F385245 q360368 = .inr (18, [.ref q384023, .ref q384024, .int p384025, .int p384026]) := (n385247 q360368 (rn_oo he385212 he385217 (by decide))).trans he385212
                          have he385249 : F385245 q384023 = .inr (4, [.int p384053, .ref q384055, .int p384054]) := (n385247 q384023 (rn_oo he385213 he385217 (by decide))).trans he385213
                          have he385250 : F385245 q384055 = .inl (I (.object "java/lang/Object"), n384069, .inr (.inr (.inr (.inr f384070)))) := (n385247 q384055 (rn_ao he385214 he385217)).trans he385214
                          have he385251 : F385245 q384072 = .inr (17, [.ref q384081, .ref q384082, .int p384083, .int p384084]) := (n385247 q384072 (rn_oo he385215 he385217 (by decide))).trans he385215
                          have he385252 : F385245 q384081 = .inr (4, [.int p384934, .ref q384936, .int p384935]) := (n385247 q384081 (rn_oo he385216 he385217 (by decide))).trans he385216
                          have he385253 : F385245 q384082 = .inr (20, [.int p384964, .int p360370, .int p360370, .int p384967, .int p384968, .int p384969, .int p384970]) := e385246
                          have hs385254 : rStr γ [1] F360367 F385245 := rStr_pu2 hs385218 n385247 ht384087 (by decide)
                          have fk385255 : rFk [1] γ F360367 F385245 := rFk_put fk385219 n385247 ht384087 (by decide)
                          obtain ⟨z385256, hz385256⟩ : ∃ z : Int32, z = g384919 + Int32.ofInt 1 := ⟨_, rfl⟩
                          have ez385256 : z385256.toInt = g384919.toInt + 1 := gI_inc hz385256 (by decide) bg384919' (by decide) (by decide)
                          have bz385256 : gB z385256 1 1000001 := ⟨by omega, by omega⟩
                          refine G_iinc (L' := [(5, .int z385256), (6, .ref q384082), (4, .ref q384072), (3, .int g384012), (0, .ref q360368), (1, .int p360369), (2, .int p360370)]) z385256 1 dr_cX17_rename_138 rfl hz385256.symm (Nat.le_of_ble_eq_true rfl) rfl ?_
                          refine G_goto 20 dr_cX17_rename_141 (by decide +kernel) ?_
                          have hT385257 : RS D I P360366 F385245 γ el := RS_set hT385220 n385247 ht384087 (by decide) ⟨p384964, p360370, p360370, p384967, p384968, p384969, p384970, he385253, bp384964, bp360370, bp384968, bp384969, bp384970, r384971, (Or.inr bp360370), r384973, r384974, r384975⟩
                          have of385258 : ∀ b, b ≠ q384082 → F385245 b = F384920 b := fun b hb => (n385247 b hb).trans (n385211 b hb)
                          refine G_lv (L' := [(5, .int z385256), (4, .ref q384072), (3, .int g384012), (0, .ref q360368), (1, .int p360369), (2, .int p360370)]) [0, 2, 3, 4, 5, 6] rfl ?_
                          exact ih20_384924 F385245 z385256 (gB_w bz385256 (by decide) (by decide)) hT385257 hs385254 (fun N hv hu hp => rPl_put hT384921 htq360368 rfl (x384923 N hv hu hp) of385258 hp384958 nb384961 hL384959 (fun _ _ _ _ z => z) (rNx_ren he384963 he385253 hu hv (Or.inr rfl) (Or.inl rfl) (Or.inr ⟨rfl, by first | assumption | omega⟩) (by rw [← hp384958]; exact x384923 N hv hu hp _ nb384961 _ hL384959))) fk385255 (mz_up ez385256 (Int.le_trans bg384919'.2 (by decide)) hm20_384924)
                    · have r385259 : o385227.toInt ≠ 0 := gj_neq hc385229 (show Int32.toInt 0 = 0 by decide)
                      have bo385227' : gB o385227 1 1 := gB_t1 bo385227 r385259
                      refine G_aload 0 dr_cX17_rename_100 rfl ?_
                      refine Gp_get 3 hm384962 he385217 dr_cX17_rename_102 (gk_X15 D I) (Nat.le_of_ble_eq_true rfl) wr_9_190 rfl ?_
                      refine G_iload_n 5 dr_cX17_rename_105 rfl ?_
                      refine G_icmp_ne 115 dr_cX17_rename_106 (by decide +kernel) (fun hc385260 => ?_) (fun hc385260 => ?_)
                      · have r385261 : p384967.toInt ≠ p360369.toInt := gC_ne hc385260
                        refine G_aload 0 dr_cX17_rename_115 rfl ?_
                        refine Gw_callV (As := []) (gV_ok D I) (cp_1654_Row_sets l hl0 D I P360366 F385209 q384082 p384964 p384965 p360370 p384967 p384968 p384969 p384970 hm384962 he385217 bp384964 bp384965 bp384968 bp384969 bp384970) dr_cX17_rename_117 ⟨wr_10_181, wr_1_39, wr_10_184, by decide, rfl, (Nat.le_of_ble_eq_true rfl), (Nat.le_of_ble_eq_true rfl)⟩ wr_10_182 wr_10_183 hm384962 he385217 rfl (show 0 + 0 ≤ 0 by first | omega | decide) (show 0 + 0 ≤ 0 by first | omega | decide) (Nat.le_of_ble_eq_true rfl) (fun r385265 w385266 dc385262 ds385263 hp385264 => ?_) (fun _ _ _ _ _ z => z.elim)
                        obtain ⟨o385267, rfl, rfl, hdc, hds, bo385267⟩ := hp385264
                        change G _ _ _ _ _ _ _ (.int o385267 :: _) _ _ _
                        refine G_widen (cs' := 0) (sl' := 0) (by omega) (by omega) ?_
                        refine G_if_eq 138 dr_cX17_rename_120 (by decide +kernel) (fun hc385268 => ?_) (fun hc385268 => ?_)
                        · have r385269 : o385267.toInt = 0 := gj_eq hc385268 (show Int32.toInt 0 = 0 by decide)
                          have bo385267' : gB o385267 0 0 := gB_t0 r385269
                          obtain ⟨z385270, hz385270⟩ : ∃ z : Int32, z = g384919 + Int32.ofInt 1 := ⟨_, rfl⟩
                          have ez385270 : z385270.toInt = g384919.toInt + 1 := gI_inc hz385270 (by decide) bg384919' (by decide) (by decide)
                          have bz385270 : gB z385270 1 1000001 := ⟨by omega, by omega⟩
                          refine G_iinc (L' := [(5, .int z385270), (6, .ref q384082), (4, .ref q384072), (3, .int g384012), (0, .ref q360368), (1, .int p360369), (2, .int p360370)]) z385270 1 dr_cX17_rename_138 rfl hz385270.symm (Nat.le_of_ble_eq_true rfl) rfl ?_
                          refine G_goto 20 dr_cX17_rename_141 (by decide +kernel) ?_
                          refine G_lv (L' := [(5, .int z385270), (4, .ref q384072), (3, .int g384012), (0, .ref q360368), (1, .int p360369), (2, .int p360370)]) [0, 2, 3, 4, 5, 6] rfl ?_
                          exact ih20_384924 F385209 z385270 (gB_w bz385270 (by decide) (by decide)) hT385220 hs385218 (fun N hv hu hp => rPl_put hT384921 htq360368 rfl (x384923 N hv hu hp) n385211 hp384958 nb384961 hL384959 (fun _ _ _ _ z => z) (rNx_ren he384963 he385217 hu hv (Or.inr rfl) (Or.inl rfl) (Or.inl rfl) (by rw [← hp384958]; exact x384923 N hv hu hp _ nb384961 _ hL384959))) fk385219 (mz_up ez385270 (Int.le_trans bg384919'.2 (by decide)) hm20_384924)
                        · have r385271 : o385267.toInt ≠ 0 := gj_neq hc385268 (show Int32.toInt 0 = 0 by decide)
                          have bo385267' : gB o385267 1 1 := gB_t1 bo385267 r385271
                          refine G_aload 0 dr_cX17_rename_123 rfl ?_
                          refine Gp_get 1 hm384962 he385217 dr_cX17_rename_125 (gk_X15 D I) (Nat.le_of_ble_eq_true rfl) wr_9_182 rfl ?_
                          refine G_iload_n 5 dr_cX17_rename_128 rfl ?_
                          refine G_icmp_ne 138 dr_cX17_rename_129 (by decide +kernel) (fun hc385272 => ?_) (fun hc385272 => ?_)
                          · have r385273 : p384965.toInt ≠ p360369.toInt := gC_ne hc385272
                            obtain ⟨z385274, hz385274⟩ : ∃ z : Int32, z = g384919 + Int32.ofInt 1 := ⟨_, rfl⟩
                            have ez385274 : z385274.toInt = g384919.toInt + 1 := gI_inc hz385274 (by decide) bg384919' (by decide) (by decide)
                            have bz385274 : gB z385274 1 1000001 := ⟨by omega, by omega⟩
                            refine G_iinc (L' := [(5, .int z385274), (6, .ref q384082), (4, .ref q384072), (3, .int g384012), (0, .ref q360368), (1, .int p360369), (2, .int p360370)]) z385274 1 dr_cX17_rename_138 rfl hz385274.symm (Nat.le_of_ble_eq_true rfl) rfl ?_
                            refine G_goto 20 dr_cX17_rename_141 (by decide +kernel) ?_
                            refine G_lv (L' := [(5, .int z385274), (4, .ref q384072), (3, .int g384012), (0, .ref q360368), (1, .int p360369), (2, .int p360370)]) [0, 2, 3, 4, 5, 6] rfl ?_
                            exact ih20_384924 F385209 z385274 (gB_w bz385274 (by decide) (by decide)) hT385220 hs385218 (fun N hv hu hp => rPl_put hT384921 htq360368 rfl (x384923 N hv hu hp) n385211 hp384958 nb384961 hL384959 (fun _ _ _ _ z => z) (rNx_ren he384963 he385217 hu hv (Or.inr rfl) (Or.inl rfl) (Or.inl rfl) (by rw [← hp384958]; exact x384923 N hv hu hp _ nb384961 _ hL384959))) fk385219 (mz_up ez385274 (Int.le_trans bg384919'.2 (by decide)) hm20_384924)
                          · have r385275 : p384965.toInt = p360369.toInt := gC_eq hc385272
                            refine G_aload 0 dr_cX17_rename_132 rfl ?_
                            refine G_iload_n 6 dr_cX17_rename_134 rfl ?_
                            refine Gp_put 1 hm384962 he385217 dr_cX17_rename_135 (gk_X15 D I) (Nat.le_of_ble_eq_true rfl) wr_9_182 rfl rfl rfl (Nat.le_of_ble_eq_true rfl) (fun F385276 e385277 n385278 => ?_)
                            have he385279 : F385276 q360368 = .inr (18, [.ref q384023, .ref q384024, .int p384025, .int p384026]) := (n385278 q360368 (rn_oo he385212 he385217 (by decide))).trans he385212
                            have he385280 : F385276 q384023 = .inr (4, [.int p384053, .ref q384055, .int p384054]) := (n385278 q384023 (rn_oo he385213 he385217 (by decide))).trans he385213
                            have he385281 : F385276 q384055 = .inl (I (.object "java/lang/Object"), n384069, .inr (.inr (.inr (.inr f384070)))) := (n385278 q384055 (rn_ao he385214 he385217)).trans he385214
                            have he385282 : F385276 q384072 = .inr (17, [.ref q384081, .ref q384082, .int p384083, .int p384084]) := (n385278 q384072 (rn_oo he385215 he385217 (by decide))).trans he385215
                            have he385283 : F385276 q384081 = .inr (4, [.int p384934, .ref q384936, .int p384935]) := (n385278 q384081 (rn_oo he385216 he385217 (by decide))).trans he385216
                            have he385284 : F385276 q384082 = .inr (20, [.int p384964, .int p360370, .int p360370, .int p384967, .int p384968, .int p384969, .int p384970]) := e385277
                            have hs385285 : rStr γ [1] F360367 F385276 := rStr_pu2 hs385218 n385278 ht384087 (by decide)
                            have fk385286 : rFk [1] γ F360367 F385276 := rFk_put fk385219 n385278 ht384087 (by decide)
                            obtain ⟨z385287, hz385287⟩ : ∃ z : Int32, z = g384919 + Int32.ofInt 1 := ⟨_, rfl⟩
                            have ez385287 : z385287.toInt = g384919.toInt + 1 := gI_inc hz385287 (by decide) bg384919' (by decide) (by decide)
                            have bz385287 : gB z385287 1 1000001 := ⟨by omega, by omega⟩
                            refine G_iinc (L' := [(5, .int z385287), (6, .ref q384082), (4, .ref q384072), (3, .int g384012), (0, .ref q360368), (1, .int p360369), (2, .int p360370)]) z385287 1 dr_cX17_rename_138 rfl hz385287.symm (Nat.le_of_ble_eq_true rfl) rfl ?_
                            refine G_goto 20 dr_cX17_rename_141 (by decide +kernel) ?_
                            have hT385288 : RS D I P360366 F385276 γ el := RS_set hT385220 n385278 ht384087 (by decide) ⟨p384964, p360370, p360370, p384967, p384968, p384969, p384970, he385284, bp384964, bp360370, bp384968, bp384969, bp384970, r384971, (Or.inr bp360370), r384973, r384974, r384975⟩
                            have of385289 : ∀ b, b ≠ q384082 → F385276 b = F384920 b := fun b hb => (n385278 b hb).trans (n385211 b hb)
                            refine G_lv (L' := [(5, .int z385287), (4, .ref q384072), (3, .int g384012), (0, .ref q360368), (1, .int p360369), (2, .int p360370)]) [0, 2, 3, 4, 5, 6] rfl ?_
                            exact ih20_384924 F385276 z385287 (gB_w bz385287 (by decide) (by decide)) hT385288 hs385285 (fun N hv hu hp => rPl_put hT384921 htq360368 rfl (x384923 N hv hu hp) of385289 hp384958 nb384961 hL384959 (fun _ _ _ _ z => z) (rNx_ren he384963 he385284 hu hv (Or.inr rfl) (Or.inl rfl) (Or.inr ⟨rfl, by first | assumption | omega⟩) (by rw [← hp384958]; exact x384923 N hv hu hp _ nb384961 _ hL384959))) fk385286 (mz_up ez385287 (Int.le_trans bg384919'.2 (by decide)) hm20_384924)
                      · have r385290 : p384967.toInt = p360369.toInt := gC_eq hc385260
                        have bp384967' : gB p384967 0 1999 := ⟨by omega, by omega⟩
                        refine G_aload 0 dr_cX17_rename_109 rfl ?_
                        refine G_iload_n 6 dr_cX17_rename_111 rfl ?_
                        refine Gp_put 3 hm384962 he385217 dr_cX17_rename_112 (gk_X15 D I) (Nat.le_of_ble_eq_true rfl) wr_9_190 rfl rfl rfl (Nat.le_of_ble_eq_true rfl) (fun F385291 e385292 n385293 => ?_)
                        have he385294 : F385291 q360368 = .inr (18, [.ref q384023, .ref q384024, .int p384025, .int p384026]) := (n385293 q360368 (rn_oo he385212 he385217 (by decide))).trans he385212
                        have he385295 : F385291 q384023 = .inr (4, [.int p384053, .ref q384055, .int p384054]) := (n385293 q384023 (rn_oo he385213 he385217 (by decide))).trans he385213
                        have he385296 : F385291 q384055 = .inl (I (.object "java/lang/Object"), n384069, .inr (.inr (.inr (.inr f384070)))) := (n385293 q384055 (rn_ao he385214 he385217)).trans he385214
                        have he385297 : F385291 q384072 = .inr (17, [.ref q384081, .ref q384082, .int p384083, .int p384084]) := (n385293 q384072 (rn_oo he385215 he385217 (by decide))).trans he385215
                        have he385298 : F385291 q384081 = .inr (4, [.int p384934, .ref q384936, .int p384935]) := (n385293 q384081 (rn_oo he385216 he385217 (by decide))).trans he385216
                        have he385299 : F385291 q384082 = .inr (20, [.int p384964, .int p384965, .int p360370, .int p360370, .int p384968, .int p384969, .int p384970]) := e385292
                        have hs385300 : rStr γ [1] F360367 F385291 := rStr_pu2 hs385218 n385293 ht384087 (by decide)
                        have fk385301 : rFk [1] γ F360367 F385291 := rFk_put fk385219 n385293 ht384087 (by decide)
                        refine G_aload 0 dr_cX17_rename_115 rfl ?_
                        have hT385302 : RS D I P360366 F385291 γ el := RS_set hT385220 n385293 ht384087 (by decide) ⟨p384964, p384965, p360370, p360370, p384968, p384969, p384970, he385299, bp384964, bp384965, bp384968, bp384969, bp384970, r384971, (Or.inr bp360370), (Or.inr bp360370), r384974, r384975⟩
                        have of385303 : ∀ b, b ≠ q384082 → F385291 b = F384920 b := fun b hb => (n385293 b hb).trans (n385211 b hb)
                        refine Gw_callV (As := []) (gV_ok D I) (cp_1654_Row_sets l hl0 D I P360366 F385291 q384082 p384964 p384965 p360370 p360370 p384968 p384969 p384970 hm384962 he385299 bp384964 bp384965 bp384968 bp384969 bp384970) dr_cX17_rename_117 ⟨wr_10_181, wr_1_39, wr_10_184, by decide, rfl, (Nat.le_of_ble_eq_true rfl), (Nat.le_of_ble_eq_true rfl)⟩ wr_10_182 wr_10_183 hm384962 he385299 rfl (show 0 + 0 ≤ 0 by first | omega | decide) (show 0 + 0 ≤ 0 by first | omega | decide) (Nat.le_of_ble_eq_true rfl) (fun r385307 w385308 dc385304 ds385305 hp385306 => ?_) (fun _ _ _ _ _ z => z.elim)
                        obtain ⟨o385309, rfl, rfl, hdc, hds, bo385309⟩ := hp385306
                        change G _ _ _ _ _ _ _ (.int o385309 :: _) _ _ _
                        refine G_widen (cs' := 0) (sl' := 0) (by omega) (by omega) ?_
                        refine G_if_eq 138 dr_cX17_rename_120 (by decide +kernel) (fun hc385310 => ?_) (fun hc385310 => ?_)
                        · have r385311 : o385309.toInt = 0 := gj_eq hc385310 (show Int32.toInt 0 = 0 by decide)
                          have bo385309' : gB o385309 0 0 := gB_t0 r385311
                          obtain ⟨z385312, hz385312⟩ : ∃ z : Int32, z = g384919 + Int32.ofInt 1 := ⟨_, rfl⟩
                          have ez385312 : z385312.toInt = g384919.toInt + 1 := gI_inc hz385312 (by decide) bg384919' (by decide) (by decide)
                          have bz385312 : gB z385312 1 1000001 := ⟨by omega, by omega⟩
                          refine G_iinc (L' := [(5, .int z385312), (6, .ref q384082), (4, .ref q384072), (3, .int g384012), (0, .ref q360368), (1, .int p360369), (2, .int p360370)]) z385312 1 dr_cX17_rename_138 rfl hz385312.symm (Nat.le_of_ble_eq_true rfl) rfl ?_
                          refine G_goto 20 dr_cX17_rename_141 (by decide +kernel) ?_
                          refine G_lv (L' := [(5, .int z385312), (4, .ref q384072), (3, .int g384012), (0, .ref q360368), (1, .int p360369), (2, .int p360370)]) [0, 2, 3, 4, 5, 6] rfl ?_
                          exact ih20_384924 F385291 z385312 (gB_w bz385312 (by decide) (by decide)) hT385302 hs385300 (fun N hv hu hp => rPl_put hT384921 htq360368 rfl (x384923 N hv hu hp) of385303 hp384958 nb384961 hL384959 (fun _ _ _ _ z => z) (rNx_ren he384963 he385299 hu hv (Or.inr rfl) (Or.inr rfl) (Or.inl rfl) (by rw [← hp384958]; exact x384923 N hv hu hp _ nb384961 _ hL384959))) fk385301 (mz_up ez385312 (Int.le_trans bg384919'.2 (by decide)) hm20_384924)
                        · have r385313 : o385309.toInt ≠ 0 := gj_neq hc385310 (show Int32.toInt 0 = 0 by decide)
                          have bo385309' : gB o385309 1 1 := gB_t1 bo385309 r385313
                          refine G_aload 0 dr_cX17_rename_123 rfl ?_
                          refine Gp_get 1 hm384962 he385299 dr_cX17_rename_125 (gk_X15 D I) (Nat.le_of_ble_eq_true rfl) wr_9_182 rfl ?_
                          refine G_iload_n 5 dr_cX17_rename_128 rfl ?_
                          refine G_icmp_ne 138 dr_cX17_rename_129 (by decide +kernel) (fun hc385314 => ?_) (fun hc385314 => ?_)
                          · have r385315 : p384965.toInt ≠ p360369.toInt := gC_ne hc385314
                            obtain ⟨z385316, hz385316⟩ : ∃ z : Int32, z = g384919 + Int32.ofInt 1 := ⟨_, rfl⟩
                            have ez385316 : z385316.toInt = g384919.toInt + 1 := gI_inc hz385316 (by decide) bg384919' (by decide) (by decide)
                            have bz385316 : gB z385316 1 1000001 := ⟨by omega, by omega⟩
                            refine G_iinc (L' := [(5, .int z385316), (6, .ref q384082), (4, .ref q384072), (3, .int g384012), (0, .ref q360368), (1, .int p360369), (2, .int p360370)]) z385316 1 dr_cX17_rename_138 rfl hz385316.symm (Nat.le_of_ble_eq_true rfl) rfl ?_
                            refine G_goto 20 dr_cX17_rename_141 (by decide +kernel) ?_
                            refine G_lv (L' := [(5, .int z385316), (4, .ref q384072), (3, .int g384012), (0, .ref q360368), (1, .int p360369), (2, .int p360370)]) [0, 2, 3, 4, 5, 6] rfl ?_
                            exact ih20_384924 F385291 z385316 (gB_w bz385316 (by decide) (by decide)) hT385302 hs385300 (fun N hv hu hp => rPl_put hT384921 htq360368 rfl (x384923 N hv hu hp) of385303 hp384958 nb384961 hL384959 (fun _ _ _ _ z => z) (rNx_ren he384963 he385299 hu hv (Or.inr rfl) (Or.inr rfl) (Or.inl rfl) (by rw [← hp384958]; exact x384923 N hv hu hp _ nb384961 _ hL384959))) fk385301 (mz_up ez385316 (Int.le_trans bg384919'.2 (by decide)) hm20_384924)
                          · have r385317 : p384965.toInt = p360369.toInt := gC_eq hc385314
                            refine G_aload 0 dr_cX17_rename_132 rfl ?_
                            refine G_iload_n 6 dr_cX17_rename_134 rfl ?_
                            refine Gp_put 1 hm384962 he385299 dr_cX17_rename_135 (gk_X15 D I) (Nat.le_of_ble_eq_true rfl) wr_9_182 rfl rfl rfl (Nat.le_of_ble_eq_true rfl) (fun F385318 e385319 n385320 => ?_)
                            have he385321 : F385318 q360368 = .inr (18, [.ref q384023, .ref q384024, .int p384025, .int p384026]) := (n385320 q360368 (rn_oo he385294 he385299 (by decide))).trans he385294
                            have he385322 : F385318 q384023 = .inr (4, [.int p384053, .ref q384055, .int p384054]) := (n385320 q384023 (rn_oo he385295 he385299 (by decide))).trans he385295
                            have he385323 : F385318 q384055 = .inl (I (.object "java/lang/Object"), n384069, .inr (.inr (.inr (.inr f384070)))) := (n385320 q384055 (rn_ao he385296 he385299)).trans he385296
                            have he385324 : F385318 q384072 = .inr (17, [.ref q384081, .ref q384082, .int p384083, .int p384084]) := (n385320 q384072 (rn_oo he385297 he385299 (by decide))).trans he385297
                            have he385325 : F385318 q384081 = .inr (4, [.int p384934, .ref q384936, .int p384935]) := (n385320 q384081 (rn_oo he385298 he385299 (by decide))).trans he385298
                            have he385326 : F385318 q384082 = .inr (20, [.int p384964, .int p360370, .int p360370, .int p360370, .int p384968, .int p384969, .int p384970]) := e385319
                            have hs385327 : rStr γ [1] F360367 F385318 := rStr_pu2 hs385300 n385320 ht384087 (by decide)
                            have fk385328 : rFk [1] γ F360367 F385318 := rFk_put fk385301 n385320 ht384087 (by decide)
                            obtain ⟨z385329, hz385329⟩ : ∃ z : Int32, z = g384919 + Int32.ofInt 1 := ⟨_, rfl⟩
                            have ez385329 : z385329.toInt = g384919.toInt + 1 := gI_inc hz385329 (by decide) bg384919' (by decide) (by decide)
                            have bz385329 : gB z385329 1 1000001 := ⟨by omega, by omega⟩
                            refine G_iinc (L' := [(5, .int z385329), (6, .ref q384082), (4, .ref q384072), (3, .int g384012), (0, .ref q360368), (1, .int p360369), (2, .int p360370)]) z385329 1 dr_cX17_rename_138 rfl hz385329.symm (Nat.le_of_ble_eq_true rfl) rfl ?_
                            refine G_goto 20 dr_cX17_rename_141 (by decide +kernel) ?_
                            have hT385330 : RS D I P360366 F385318 γ el := RS_set hT385302 n385320 ht384087 (by decide) ⟨p384964, p360370, p360370, p360370, p384968, p384969, p384970, he385326, bp384964, bp360370, bp384968, bp384969, bp384970, r384971, (Or.inr bp360370), (Or.inr bp360370), r384974, r384975⟩
                            have of385331 : ∀ b, b ≠ q384082 → F385318 b = F384920 b := fun b hb => (n385320 b hb).trans (of385303 b hb)
                            refine G_lv (L' := [(5, .int z385329), (4, .ref q384072), (3, .int g384012), (0, .ref q360368), (1, .int p360369), (2, .int p360370)]) [0, 2, 3, 4, 5, 6] rfl ?_
                            exact ih20_384924 F385318 z385329 (gB_w bz385329 (by decide) (by decide)) hT385330 hs385327 (fun N hv hu hp => rPl_put hT384921 htq360368 rfl (x384923 N hv hu hp) of385331 hp384958 nb384961 hL384959 (fun _ _ _ _ z => z) (rNx_ren he384963 he385326 hu hv (Or.inr rfl) (Or.inr rfl) (Or.inr ⟨rfl, by first | assumption | omega⟩) (by rw [← hp384958]; exact x384923 N hv hu hp _ nb384961 _ hL384959))) fk385328 (mz_up ez385329 (Int.le_trans bg384919'.2 (by decide)) hm20_384924)
              · have r385332 : g384919.toInt < p384935.toInt := gC_nle hc384956
                have bg384919'' : gB g384919 0 999999 := ⟨by omega, by omega⟩
                have bp384935' : gB p384935 1 1000000 := ⟨by omega, by omega⟩
                refine G_aload 1 dr_cX17_rename_46 rfl ?_
                refine Gp_get 0 hm384079 he384930 dr_cX17_rename_48 (gk_X12 D I) (Nat.le_of_ble_eq_true rfl) wr_9_220 rfl ?_
                refine G_iload 0 dr_cX17_rename_51 rfl ?_
                obtain ⟨r385333, r385334, n385341, f385342, r385335, r385336, r385337, r385338, r385339, r385340⟩ := rLC_n r384939 (by omega)
                have hm385343 : q384936 ∈ P360366 := RS_m hT384921 r385333 (by decide)
                obtain ⟨q385344, hx385345⟩ : ∃ x, x = el q384081 g384919.toInt.toNat := ⟨_, rfl⟩
                have hx385346 : f385342 g384919.toNatClampNeg = some q385344 := (r385339 _ (show g384919.toInt.toNat < γ 2 q384081 by omega)).trans (by rw [hx385345])
                have ht385347 : rKd γ q385344 1 := by rw [hx385345]; exact (r384940 _ (show g384919.toInt.toNat < γ 2 q384081 by omega)).1
                have ht385348 : rFm γ q385344 q384081 := by rw [hx385345]; exact (r384940 _ (show g384919.toInt.toNat < γ 2 q384081 by omega)).2.1
                refine Gw_callV (As := [.int g384919]) (gV_ok D I) (cp_22_ArrayList_get l hl0 D I P360366 F384920 q384081 q384936 g384919 p384934 p384935 f385342 n385341 q385344 hm384932 hm385343 he384933 r385335 (gB_w bg384919'' (by decide) (by decide)) (gB_w bp384935' (by decide) (by decide)) (by omega) (by omega) (by assumption) (by omega)) dr_cX17_rename_53 ⟨wr_10_201, wr_1_18, wr_10_65, by decide, rfl, (Nat.le_of_ble_eq_true rfl), (Nat.le_of_ble_eq_true rfl)⟩ wr_10_63 wr_10_64 hm384932 he384933 rfl (show 0 + 0 ≤ 0 by first | omega | decide) (show 0 + 0 ≤ 0 by first | omega | decide) (Nat.le_of_ble_eq_true rfl) (fun r385352 w385353 dc385349 ds385350 hp385351 => ?_) (fun _ _ _ _ _ z => z.elim)
                obtain ⟨rfl, rfl, hdc, hds⟩ := hp385351
                change G _ _ _ _ _ _ _ (.ref q385344 :: _) _ _ _
                refine G_widen (cs' := 0) (sl' := 0) (by omega) (by omega) ?_
                have hm385354 : q385344 ∈ P360366 := RS_m hT384921 ht385347 (by decide)
                obtain ⟨p385356, p385357, p385358, p385359, p385360, p385361, p385362, he385355, bp385356, bp385357, bp385360, bp385361, bp385362, r385363, r385364, r385365, r385366, r385367⟩ := show rk_1 γ q385344 (F384920 q385344) from RS_o hT384921 ht385347
                have bp385358 := gB_any p385358
                have bp385359 := gB_any p385359
                refine Gp_cast hm385354 he385355 rfl dr_cX17_rename_56 wr_10_202 (gr_cast 1 rfl) ?_
                refine G_goto 67 dr_cX17_rename_59 (by decide +kernel) ?_
                have fl385370 : p384935.toInt = γ 2 q384081 := r384937
                have hp385368 : rAt γ el q360368 (g384012.toInt : Int).toNat (g384919.toInt : Int).toNat = q385344 := (rAt_r hb384099 ht384091.1 (by omega)).trans (by rw [hx385345])
                have hL385369 : (g384919.toInt : Int).toNat ≤ γ 2 (rwL γ el q360368 (g384012.toInt : Int).toNat) := by unfold rwL; rw [hb384099, ht384091.1]; omega
                have nb385371 : (g384012.toInt : Int).toNat < γ 6 (γ 1 q360368) := by omega
                refine G_astore (L' := [(6, .ref q385344), (5, .int g384919), (4, .ref q384072), (3, .int g384012), (0, .ref q360368), (1, .int p360369), (2, .int p360370)]) dr_cX17_rename_67 (Nat.le_of_ble_eq_true rfl) rfl ?_
                refine G_aload 0 dr_cX17_rename_69 rfl ?_
                refine Gw_callV (As := []) (gV_ok D I) (cp_1669_Row_usesA l hl0 D I P360366 F384920 q385344 p385356 p385357 p385358 p385359 p385360 p385361 p385362 hm385354 he385355 bp385356 bp385357 bp385360 bp385361 bp385362) dr_cX17_rename_71 ⟨wr_10_192, wr_1_39, wr_10_195, by decide, rfl, (Nat.le_of_ble_eq_true rfl), (Nat.le_of_ble_eq_true rfl)⟩ wr_10_193 wr_10_194 hm385354 he385355 rfl (show 0 + 0 ≤ 0 by first | omega | decide) (show 0 + 0 ≤ 0 by first | omega | decide) (Nat.le_of_ble_eq_true rfl) (fun r385375 w385376 dc385372 ds385373 hp385374 => ?_) (fun _ _ _ _ _ z => z.elim)
                obtain ⟨o385377, rfl, rfl, hdc, hds, bo385377, x385378⟩ := hp385374
                change G _ _ _ _ _ _ _ (.int o385377 :: _) _ _ _
                refine G_widen (cs' := 0) (sl' := 0) (by omega) (by omega) ?_
                refine G_if_eq 92 dr_cX17_rename_74 (by decide +kernel) (fun hc385379 => ?_) (fun hc385379 => ?_)
                · have r385380 : o385377.toInt = 0 := gj_eq hc385379 (show Int32.toInt 0 = 0 by decide)
                  have bo385377' : gB o385377 0 0 := gB_t0 r385380
                  refine G_aload 0 dr_cX17_rename_92 rfl ?_
                  refine Gw_callV (As := []) (gV_ok D I) (cp_1693_Row_usesB l hl0 D I P360366 F384920 q385344 p385356 p385357 p385358 p385359 p385360 p385361 p385362 hm385354 he385355 bp385356 bp385357 bp385360 bp385361 bp385362) dr_cX17_rename_94 ⟨wr_10_196, wr_1_39, wr_10_199, by decide, rfl, (Nat.le_of_ble_eq_true rfl), (Nat.le_of_ble_eq_true rfl)⟩ wr_10_197 wr_10_198 hm385354 he385355 rfl (show 0 + 0 ≤ 0 by first | omega | decide) (show 0 + 0 ≤ 0 by first | omega | decide) (Nat.le_of_ble_eq_true rfl) (fun r385384 w385385 dc385381 ds385382 hp385383 => ?_) (fun _ _ _ _ _ z => z.elim)
                  obtain ⟨o385386, rfl, rfl, hdc, hds, bo385386, x385387⟩ := hp385383
                  change G _ _ _ _ _ _ _ (.int o385386 :: _) _ _ _
                  refine G_widen (cs' := 0) (sl' := 0) (by omega) (by omega) ?_
                  refine G_if_eq 115 dr_cX17_rename_97 (by decide +kernel) (fun hc385388 => ?_) (fun hc385388 => ?_)
                  · have r385389 : o385386.toInt = 0 := gj_eq hc385388 (show Int32.toInt 0 = 0 by decide)
                    have bo385386' : gB o385386 0 0 := gB_t0 r385389
                    refine G_aload 0 dr_cX17_rename_115 rfl ?_
                    refine Gw_callV (As := []) (gV_ok D I) (cp_1654_Row_sets l hl0 D I P360366 F384920 q385344 p385356 p385357 p385358 p385359 p385360 p385361 p385362 hm385354 he385355 bp385356 bp385357 bp385360 bp385361 bp385362) dr_cX17_rename_117 ⟨wr_10_181, wr_1_39, wr_10_184, by decide, rfl, (Nat.le_of_ble_eq_true rfl), (Nat.le_of_ble_eq_true rfl)⟩ wr_10_182 wr_10_183 hm385354 he385355 rfl (show 0 + 0 ≤ 0 by first | omega | decide) (show 0 + 0 ≤ 0 by first | omega | decide) (Nat.le_of_ble_eq_true rfl) (fun r385393 w385394 dc385390 ds385391 hp385392 => ?_) (fun _ _ _ _ _ z => z.elim)
                    obtain ⟨o385395, rfl, rfl, hdc, hds, bo385395⟩ := hp385392
                    change G _ _ _ _ _ _ _ (.int o385395 :: _) _ _ _
                    refine G_widen (cs' := 0) (sl' := 0) (by omega) (by omega) ?_
                    refine G_if_eq 138 dr_cX17_rename_120 (by decide +kernel) (fun hc385396 => ?_) (fun hc385396 => ?_)
                    · have r385397 : o385395.toInt = 0 := gj_eq hc385396 (show Int32.toInt 0 = 0 by decide)
                      have bo385395' : gB o385395 0 0 := gB_t0 r385397
                      obtain ⟨z385398, hz385398⟩ : ∃ z : Int32, z = g384919 + Int32.ofInt 1 := ⟨_, rfl⟩
                      have ez385398 : z385398.toInt = g384919.toInt + 1 := gI_inc hz385398 (by decide) bg384919'' (by decide) (by decide)
                      have bz385398 : gB z385398 1 1000000 := ⟨by omega, by omega⟩
                      refine G_iinc (L' := [(5, .int z385398), (6, .ref q385344), (4, .ref q384072), (3, .int g384012), (0, .ref q360368), (1, .int p360369), (2, .int p360370)]) z385398 1 dr_cX17_rename_138 rfl hz385398.symm (Nat.le_of_ble_eq_true rfl) rfl ?_
                      refine G_goto 20 dr_cX17_rename_141 (by decide +kernel) ?_
                      refine G_lv (L' := [(5, .int z385398), (4, .ref q384072), (3, .int g384012), (0, .ref q360368), (1, .int p360369), (2, .int p360370)]) [0, 2, 3, 4, 5, 6] rfl ?_
                      exact ih20_384924 F384920 z385398 (gB_w bz385398 (by decide) (by decide)) hT384921 hs384922 x384923 x384924 (mz_up ez385398 (Int.le_trans bg384919''.2 (by decide)) hm20_384924)
                    · have r385399 : o385395.toInt ≠ 0 := gj_neq hc385396 (show Int32.toInt 0 = 0 by decide)
                      have bo385395' : gB o385395 1 1 := gB_t1 bo385395 r385399
                      refine G_aload 0 dr_cX17_rename_123 rfl ?_
                      refine Gp_get 1 hm385354 he385355 dr_cX17_rename_125 (gk_X15 D I) (Nat.le_of_ble_eq_true rfl) wr_9_182 rfl ?_
                      refine G_iload_n 5 dr_cX17_rename_128 rfl ?_
                      refine G_icmp_ne 138 dr_cX17_rename_129 (by decide +kernel) (fun hc385400 => ?_) (fun hc385400 => ?_)
                      · have r385401 : p385357.toInt ≠ p360369.toInt := gC_ne hc385400
                        obtain ⟨z385402, hz385402⟩ : ∃ z : Int32, z = g384919 + Int32.ofInt 1 := ⟨_, rfl⟩
                        have ez385402 : z385402.toInt = g384919.toInt + 1 := gI_inc hz385402 (by decide) bg384919'' (by decide) (by decide)
                        have bz385402 : gB z385402 1 1000000 := ⟨by omega, by omega⟩
                        refine G_iinc (L' := [(5, .int z385402), (6, .ref q385344), (4, .ref q384072), (3, .int g384012), (0, .ref q360368), (1, .int p360369), (2, .int p360370)]) z385402 1 dr_cX17_rename_138 rfl hz385402.symm (Nat.le_of_ble_eq_true rfl) rfl ?_
                        refine G_goto 20 dr_cX17_rename_141 (by decide +kernel) ?_
                        refine G_lv (L' := [(5, .int z385402), (4, .ref q384072), (3, .int g384012), (0, .ref q360368), (1, .int p360369), (2, .int p360370)]) [0, 2, 3, 4, 5, 6] rfl ?_
                        exact ih20_384924 F384920 z385402 (gB_w bz385402 (by decide) (by decide)) hT384921 hs384922 x384923 x384924 (mz_up ez385402 (Int.le_trans bg384919''.2 (by decide)) hm20_384924)
                      · have r385403 : p385357.toInt = p360369.toInt := gC_eq hc385400
                        refine G_aload 0 dr_cX17_rename_132 rfl ?_
                        refine G_iload_n 6 dr_cX17_rename_134 rfl ?_
                        refine Gp_put 1 hm385354 he385355 dr_cX17_rename_135 (gk_X15 D I) (Nat.le_of_ble_eq_true rfl) wr_9_182 rfl rfl rfl (Nat.le_of_ble_eq_true rfl) (fun F385404 e385405 n385406 => ?_)
                        have he385407 : F385404 q360368 = .inr (18, [.ref q384023, .ref q384024, .int p384025, .int p384026]) := (n385406 q360368 (rn_oo he384927 he385355 (by decide))).trans he384927
                        have he385408 : F385404 q384023 = .inr (4, [.int p384053, .ref q384055, .int p384054]) := (n385406 q384023 (rn_oo he384928 he385355 (by decide))).trans he384928
                        have he385409 : F385404 q384055 = .inl (I (.object "java/lang/Object"), n384069, .inr (.inr (.inr (.inr f384070)))) := (n385406 q384055 (rn_ao he384929 he385355)).trans he384929
                        have he385410 : F385404 q384072 = .inr (17, [.ref q384081, .ref q384082, .int p384083, .int p384084]) := (n385406 q384072 (rn_oo he384930 he385355 (by decide))).trans he384930
                        have he385411 : F385404 q384081 = .inr (4, [.int p384934, .ref q384936, .int p384935]) := (n385406 q384081 (rn_oo he384933 he385355 (by decide))).trans he384933
                        have he385412 : F385404 q384936 = .inl (I (.object "java/lang/Object"), n385341, .inr (.inr (.inr (.inr f385342)))) := (n385406 q384936 (rn_ao r385335 he385355)).trans r385335
                        have he385413 : F385404 q385344 = .inr (20, [.int p385356, .int p360370, .int p385358, .int p385359, .int p385360, .int p385361, .int p385362]) := e385405
                        have hs385414 : rStr γ [1] F360367 F385404 := rStr_pu2 hs384922 n385406 ht385347 (by decide)
                        have fk385415 : rFk [1] γ F360367 F385404 := rFk_put x384924 n385406 ht385347 (by decide)
                        obtain ⟨z385416, hz385416⟩ : ∃ z : Int32, z = g384919 + Int32.ofInt 1 := ⟨_, rfl⟩
                        have ez385416 : z385416.toInt = g384919.toInt + 1 := gI_inc hz385416 (by decide) bg384919'' (by decide) (by decide)
                        have bz385416 : gB z385416 1 1000000 := ⟨by omega, by omega⟩
                        refine G_iinc (L' := [(5, .int z385416), (6, .ref q385344), (4, .ref q384072), (3, .int g384012), (0, .ref q360368), (1, .int p360369), (2, .int p360370)]) z385416 1 dr_cX17_rename_138 rfl hz385416.symm (Nat.le_of_ble_eq_true rfl) rfl ?_
                        refine G_goto 20 dr_cX17_rename_141 (by decide +kernel) ?_
                        have hT385417 : RS D I P360366 F385404 γ el := RS_set hT384921 n385406 ht385347 (by decide) ⟨p385356, p360370, p385358, p385359, p385360, p385361, p385362, he385413, bp385356, bp360370, bp385360, bp385361, bp385362, r385363, r385364, r385365, r385366, r385367⟩
                        refine G_lv (L' := [(5, .int z385416), (4, .ref q384072), (3, .int g384012), (0, .ref q360368), (1, .int p360369), (2, .int p360370)]) [0, 2, 3, 4, 5, 6] rfl ?_
                        exact ih20_384924 F385404 z385416 (gB_w bz385416 (by decide) (by decide)) hT385417 hs385414 (fun N hv hu hp => rPl_put hT384921 htq360368 rfl (x384923 N hv hu hp) n385406 hp385368 nb385371 hL385369 (fun _ _ _ _ z => z) (rNx_ren he385355 he385413 hu hv (Or.inl rfl) (Or.inl rfl) (Or.inr ⟨rfl, by first | assumption | omega⟩) (by rw [← hp385368]; exact x384923 N hv hu hp _ nb385371 _ hL385369))) fk385415 (mz_up ez385416 (Int.le_trans bg384919''.2 (by decide)) hm20_384924)
                  · have r385419 : o385386.toInt ≠ 0 := gj_neq hc385388 (show Int32.toInt 0 = 0 by decide)
                    have bo385386' : gB o385386 1 1 := gB_t1 bo385386 r385419
                    refine G_aload 0 dr_cX17_rename_100 rfl ?_
                    refine Gp_get 3 hm385354 he385355 dr_cX17_rename_102 (gk_X15 D I) (Nat.le_of_ble_eq_true rfl) wr_9_190 rfl ?_
                    refine G_iload_n 5 dr_cX17_rename_105 rfl ?_
                    refine G_icmp_ne 115 dr_cX17_rename_106 (by decide +kernel) (fun hc385420 => ?_) (fun hc385420 => ?_)
                    · have r385421 : p385359.toInt ≠ p360369.toInt := gC_ne hc385420
                      refine G_aload 0 dr_cX17_rename_115 rfl ?_
                      refine Gw_callV (As := []) (gV_ok D I) (cp_1654_Row_sets l hl0 D I P360366 F384920 q385344 p385356 p385357 p385358 p385359 p385360 p385361 p385362 hm385354 he385355 bp385356 bp385357 bp385360 bp385361 bp385362) dr_cX17_rename_117 ⟨wr_10_181, wr_1_39, wr_10_184, by decide, rfl, (Nat.le_of_ble_eq_true rfl), (Nat.le_of_ble_eq_true rfl)⟩ wr_10_182 wr_10_183 hm385354 he385355 rfl (show 0 + 0 ≤ 0 by first | omega | decide) (show 0 + 0 ≤ 0 by first | omega | decide) (Nat.le_of_ble_eq_true rfl) (fun r385425 w385426 dc385422 ds385423 hp385424 => ?_) (fun _ _ _ _ _ z => z.elim)
                      obtain ⟨o385427, rfl, rfl, hdc, hds, bo385427⟩ := hp385424
                      change G _ _ _ _ _ _ _ (.int o385427 :: _) _ _ _
                      refine G_widen (cs' := 0) (sl' := 0) (by omega) (by omega) ?_
                      refine G_if_eq 138 dr_cX17_rename_120 (by decide +kernel) (fun hc385428 => ?_) (fun hc385428 => ?_)
                      · have r385429 : o385427.toInt = 0 := gj_eq hc385428 (show Int32.toInt 0 = 0 by decide)
                        have bo385427' : gB o385427 0 0 := gB_t0 r385429
                        obtain ⟨z385430, hz385430⟩ : ∃ z : Int32, z = g384919 + Int32.ofInt 1 := ⟨_, rfl⟩
                        have ez385430 : z385430.toInt = g384919.toInt + 1 := gI_inc hz385430 (by decide) bg384919'' (by decide) (by decide)
                        have bz385430 : gB z385430 1 1000000 := ⟨by omega, by omega⟩
                        refine G_iinc (L' := [(5, .int z385430), (6, .ref q385344), (4, .ref q384072), (3, .int g384012), (0, .ref q360368), (1, .int p360369), (2, .int p360370)]) z385430 1 dr_cX17_rename_138 rfl hz385430.symm (Nat.le_of_ble_eq_true rfl) rfl ?_
                        refine G_goto 20 dr_cX17_rename_141 (by decide +kernel) ?_
                        refine G_lv (L' := [(5, .int z385430), (4, .ref q384072), (3, .int g384012), (0, .ref q360368), (1, .int p360369), (2, .int p360370)]) [0, 2, 3, 4, 5, 6] rfl ?_
                        exact ih20_384924 F384920 z385430 (gB_w bz385430 (by decide) (by decide)) hT384921 hs384922 x384923 x384924 (mz_up ez385430 (Int.le_trans bg384919''.2 (by decide)) hm20_384924)
                      · have r385431 : o385427.toInt ≠ 0 := gj_neq hc385428 (show Int32.toInt 0 = 0 by decide)
                        have bo385427' : gB o385427 1 1 := gB_t1 bo385427 r385431
                        refine G_aload 0 dr_cX17_rename_123 rfl ?_
                        refine Gp_get 1 hm385354 he385355 dr_cX17_rename_125 (gk_X15 D I) (Nat.le_of_ble_eq_true rfl) wr_9_182 rfl ?_
                        refine G_iload_n 5 dr_cX17_rename_128 rfl ?_
                        refine G_icmp_ne 138 dr_cX17_rename_129 (by decide +kernel) (fun hc385432 => ?_) (fun hc385432 => ?_)
                        · have r385433 : p385357.toInt ≠ p360369.toInt := gC_ne hc385432
                          obtain ⟨z385434, hz385434⟩ : ∃ z : Int32, z = g384919 + Int32.ofInt 1 := ⟨_, rfl⟩
                          have ez385434 : z385434.toInt = g384919.toInt + 1 := gI_inc hz385434 (by decide) bg384919'' (by decide) (by decide)
                          have bz385434 : gB z385434 1 1000000 := ⟨by omega, by omega⟩
                          refine G_iinc (L' := [(5, .int z385434), (6, .ref q385344), (4, .ref q384072), (3, .int g384012), (0, .ref q360368), (1, .int p360369), (2, .int p360370)]) z385434 1 dr_cX17_rename_138 rfl hz385434.symm (Nat.le_of_ble_eq_true rfl) rfl ?_
                          refine G_goto 20 dr_cX17_rename_141 (by decide +kernel) ?_
                          refine G_lv (L' := [(5, .int z385434), (4, .ref q384072), (3, .int g384012), (0, .ref q360368), (1, .int p360369), (2, .int p360370)]) [0, 2, 3, 4, 5, 6] rfl ?_
                          exact ih20_384924 F384920 z385434 (gB_w bz385434 (by decide) (by decide)) hT384921 hs384922 x384923 x384924 (mz_up ez385434 (Int.le_trans bg384919''.2 (by decide)) hm20_384924)
                        · have r385435 : p385357.toInt = p360369.toInt := gC_eq hc385432
                          refine G_aload 0 dr_cX17_rename_132 rfl ?_
                          refine G_iload_n 6 dr_cX17_rename_134 rfl ?_
                          refine Gp_put 1 hm385354 he385355 dr_cX17_rename_135 (gk_X15 D I) (Nat.le_of_ble_eq_true rfl) wr_9_182 rfl rfl rfl (Nat.le_of_ble_eq_true rfl) (fun F385436 e385437 n385438 => ?_)
                          have he385439 : F385436 q360368 = .inr (18, [.ref q384023, .ref q384024, .int p384025, .int p384026]) := (n385438 q360368 (rn_oo he384927 he385355 (by decide))).trans he384927
                          have he385440 : F385436 q384023 = .inr (4, [.int p384053, .ref q384055, .int p384054]) := (n385438 q384023 (rn_oo he384928 he385355 (by decide))).trans he384928
                          have he385441 : F385436 q384055 = .inl (I (.object "java/lang/Object"), n384069, .inr (.inr (.inr (.inr f384070)))) := (n385438 q384055 (rn_ao he384929 he385355)).trans he384929
                          have he385442 : F385436 q384072 = .inr (17, [.ref q384081, .ref q384082, .int p384083, .int p384084]) := (n385438 q384072 (rn_oo he384930 he385355 (by decide))).trans he384930
                          have he385443 : F385436 q384081 = .inr (4, [.int p384934, .ref q384936, .int p384935]) := (n385438 q384081 (rn_oo he384933 he385355 (by decide))).trans he384933
                          have he385444 : F385436 q384936 = .inl (I (.object "java/lang/Object"), n385341, .inr (.inr (.inr (.inr f385342)))) := (n385438 q384936 (rn_ao r385335 he385355)).trans r385335
                          have he385445 : F385436 q385344 = .inr (20, [.int p385356, .int p360370, .int p385358, .int p385359, .int p385360, .int p385361, .int p385362]) := e385437
                          have hs385446 : rStr γ [1] F360367 F385436 := rStr_pu2 hs384922 n385438 ht385347 (by decide)
                          have fk385447 : rFk [1] γ F360367 F385436 := rFk_put x384924 n385438 ht385347 (by decide)
                          obtain ⟨z385448, hz385448⟩ : ∃ z : Int32, z = g384919 + Int32.ofInt 1 := ⟨_, rfl⟩
                          have ez385448 : z385448.toInt = g384919.toInt + 1 := gI_inc hz385448 (by decide) bg384919'' (by decide) (by decide)
                          have bz385448 : gB z385448 1 1000000 := ⟨by omega, by omega⟩
                          refine G_iinc (L' := [(5, .int z385448), (6, .ref q385344), (4, .ref q384072), (3, .int g384012), (0, .ref q360368), (1, .int p360369), (2, .int p360370)]) z385448 1 dr_cX17_rename_138 rfl hz385448.symm (Nat.le_of_ble_eq_true rfl) rfl ?_
                          refine G_goto 20 dr_cX17_rename_141 (by decide +kernel) ?_
                          have hT385449 : RS D I P360366 F385436 γ el := RS_set hT384921 n385438 ht385347 (by decide) ⟨p385356, p360370, p385358, p385359, p385360, p385361, p385362, he385445, bp385356, bp360370, bp385360, bp385361, bp385362, r385363, r385364, r385365, r385366, r385367⟩
                          refine G_lv (L' := [(5, .int z385448), (4, .ref q384072), (3, .int g384012), (0, .ref q360368), (1, .int p360369), (2, .int p360370)]) [0, 2, 3, 4, 5, 6] rfl ?_
                          exact ih20_384924 F385436 z385448 (gB_w bz385448 (by decide) (by decide)) hT385449 hs385446 (fun N hv hu hp => rPl_put hT384921 htq360368 rfl (x384923 N hv hu hp) n385438 hp385368 nb385371 hL385369 (fun _ _ _ _ z => z) (rNx_ren he385355 he385445 hu hv (Or.inl rfl) (Or.inl rfl) (Or.inr ⟨rfl, by first | assumption | omega⟩) (by rw [← hp385368]; exact x384923 N hv hu hp _ nb385371 _ hL385369))) fk385447 (mz_up ez385448 (Int.le_trans bg384919''.2 (by decide)) hm20_384924)
                    · have r385451 : p385359.toInt = p360369.toInt := gC_eq hc385420
                      have bp385359' : gB p385359 0 1999 := ⟨by omega, by omega⟩
                      refine G_aload 0 dr_cX17_rename_109 rfl ?_
                      refine G_iload_n 6 dr_cX17_rename_111 rfl ?_
                      refine Gp_put 3 hm385354 he385355 dr_cX17_rename_112 (gk_X15 D I) (Nat.le_of_ble_eq_true rfl) wr_9_190 rfl rfl rfl (Nat.le_of_ble_eq_true rfl) (fun F385452 e385453 n385454 => ?_)
                      have he385455 : F385452 q360368 = .inr (18, [.ref q384023, .ref q384024, .int p384025, .int p384026]) := (n385454 q360368 (rn_oo he384927 he385355 (by decide))).trans he384927
                      have he385456 : F385452 q384023 = .inr (4, [.int p384053, .ref q384055, .int p384054]) := (n385454 q384023 (rn_oo he384928 he385355 (by decide))).trans he384928
                      have he385457 : F385452 q384055 = .inl (I (.object "java/lang/Object"), n384069, .inr (.inr (.inr (.inr f384070)))) := (n385454 q384055 (rn_ao he384929 he385355)).trans he384929
                      have he385458 : F385452 q384072 = .inr (17, [.ref q384081, .ref q384082, .int p384083, .int p384084]) := (n385454 q384072 (rn_oo he384930 he385355 (by decide))).trans he384930
                      have he385459 : F385452 q384081 = .inr (4, [.int p384934, .ref q384936, .int p384935]) := (n385454 q384081 (rn_oo he384933 he385355 (by decide))).trans he384933
                      have he385460 : F385452 q384936 = .inl (I (.object "java/lang/Object"), n385341, .inr (.inr (.inr (.inr f385342)))) := (n385454 q384936 (rn_ao r385335 he385355)).trans r385335
                      have he385461 : F385452 q385344 = .inr (20, [.int p385356, .int p385357, .int p385358, .int p360370, .int p385360, .int p385361, .int p385362]) := e385453
                      have hs385462 : rStr γ [1] F360367 F385452 := rStr_pu2 hs384922 n385454 ht385347 (by decide)
                      have fk385463 : rFk [1] γ F360367 F385452 := rFk_put x384924 n385454 ht385347 (by decide)
                      refine G_aload 0 dr_cX17_rename_115 rfl ?_
                      have hT385464 : RS D I P360366 F385452 γ el := RS_set hT384921 n385454 ht385347 (by decide) ⟨p385356, p385357, p385358, p360370, p385360, p385361, p385362, he385461, bp385356, bp385357, bp385360, bp385361, bp385362, r385363, r385364, (Or.inr bp360370), r385366, r385367⟩
                      refine Gw_callV (As := []) (gV_ok D I) (cp_1654_Row_sets l hl0 D I P360366 F385452 q385344 p385356 p385357 p385358 p360370 p385360 p385361 p385362 hm385354 he385461 bp385356 bp385357 bp385360 bp385361 bp385362) dr_cX17_rename_117 ⟨wr_10_181, wr_1_39, wr_10_184, by decide, rfl, (Nat.le_of_ble_eq_true rfl), (Nat.le_of_ble_eq_true rfl)⟩ wr_10_182 wr_10_183 hm385354 he385461 rfl (show 0 + 0 ≤ 0 by first | omega | decide) (show 0 + 0 ≤ 0 by first | omega | decide) (Nat.le_of_ble_eq_true rfl) (fun r385469 w385470 dc385466 ds385467 hp385468 => ?_) (fun _ _ _ _ _ z => z.elim)
                      obtain ⟨o385471, rfl, rfl, hdc, hds, bo385471⟩ := hp385468
                      change G _ _ _ _ _ _ _ (.int o385471 :: _) _ _ _
                      refine G_widen (cs' := 0) (sl' := 0) (by omega) (by omega) ?_
                      refine G_if_eq 138 dr_cX17_rename_120 (by decide +kernel) (fun hc385472 => ?_) (fun hc385472 => ?_)
                      · have r385473 : o385471.toInt = 0 := gj_eq hc385472 (show Int32.toInt 0 = 0 by decide)
                        have bo385471' : gB o385471 0 0 := gB_t0 r385473
                        obtain ⟨z385474, hz385474⟩ : ∃ z : Int32, z = g384919 + Int32.ofInt 1 := ⟨_, rfl⟩
                        have ez385474 : z385474.toInt = g384919.toInt + 1 := gI_inc hz385474 (by decide) bg384919'' (by decide) (by decide)
                        have bz385474 : gB z385474 1 1000000 := ⟨by omega, by omega⟩
                        refine G_iinc (L' := [(5, .int z385474), (6, .ref q385344), (4, .ref q384072), (3, .int g384012), (0, .ref q360368), (1, .int p360369), (2, .int p360370)]) z385474 1 dr_cX17_rename_138 rfl hz385474.symm (Nat.le_of_ble_eq_true rfl) rfl ?_
                        refine G_goto 20 dr_cX17_rename_141 (by decide +kernel) ?_
                        refine G_lv (L' := [(5, .int z385474), (4, .ref q384072), (3, .int g384012), (0, .ref q360368), (1, .int p360369), (2, .int p360370)]) [0, 2, 3, 4, 5, 6] rfl ?_
                        exact ih20_384924 F385452 z385474 (gB_w bz385474 (by decide) (by decide)) hT385464 hs385462 (fun N hv hu hp => rPl_put hT384921 htq360368 rfl (x384923 N hv hu hp) n385454 hp385368 nb385371 hL385369 (fun _ _ _ _ z => z) (rNx_ren he385355 he385461 hu hv (Or.inl rfl) (Or.inr rfl) (Or.inl rfl) (by rw [← hp385368]; exact x384923 N hv hu hp _ nb385371 _ hL385369))) fk385463 (mz_up ez385474 (Int.le_trans bg384919''.2 (by decide)) hm20_384924)
                      · have r385475 : o385471.toInt ≠ 0 := gj_neq hc385472 (show Int32.toInt 0 = 0 by decide)
                        have bo385471' : gB o385471 1 1 := gB_t1 bo385471 r385475
                        refine G_aload 0 dr_cX17_rename_123 rfl ?_
                        refine Gp_get 1 hm385354 he385461 dr_cX17_rename_125 (gk_X15 D I) (Nat.le_of_ble_eq_true rfl) wr_9_182 rfl ?_
                        refine G_iload_n 5 dr_cX17_rename_128 rfl ?_
                        refine G_icmp_ne 138 dr_cX17_rename_129 (by decide +kernel) (fun hc385476 => ?_) (fun hc385476 => ?_)
                        · have r385477 : p385357.toInt ≠ p360369.toInt := gC_ne hc385476
                          obtain ⟨z385478, hz385478⟩ : ∃ z : Int32, z = g384919 + Int32.ofInt 1 := ⟨_, rfl⟩
                          have ez385478 : z385478.toInt = g384919.toInt + 1 := gI_inc hz385478 (by decide) bg384919'' (by decide) (by decide)
                          have bz385478 : gB z385478 1 1000000 := ⟨by omega, by omega⟩
                          refine G_iinc (L' := [(5, .int z385478), (6, .ref q385344), (4, .ref q384072), (3, .int g384012), (0, .ref q360368), (1, .int p360369), (2, .int p360370)]) z385478 1 dr_cX17_rename_138 rfl hz385478.symm (Nat.le_of_ble_eq_true rfl) rfl ?_
                          refine G_goto 20 dr_cX17_rename_141 (by decide +kernel) ?_
                          refine G_lv (L' := [(5, .int z385478), (4, .ref q384072), (3, .int g384012), (0, .ref q360368), (1, .int p360369), (2, .int p360370)]) [0, 2, 3, 4, 5, 6] rfl ?_
                          exact ih20_384924 F385452 z385478 (gB_w bz385478 (by decide) (by decide)) hT385464 hs385462 (fun N hv hu hp => rPl_put hT384921 htq360368 rfl (x384923 N hv hu hp) n385454 hp385368 nb385371 hL385369 (fun _ _ _ _ z => z) (rNx_ren he385355 he385461 hu hv (Or.inl rfl) (Or.inr rfl) (Or.inl rfl) (by rw [← hp385368]; exact x384923 N hv hu hp _ nb385371 _ hL385369))) fk385463 (mz_up ez385478 (Int.le_trans bg384919''.2 (by decide)) hm20_384924)
                        · have r385479 : p385357.toInt = p360369.toInt := gC_eq hc385476
                          refine G_aload 0 dr_cX17_rename_132 rfl ?_
                          refine G_iload_n 6 dr_cX17_rename_134 rfl ?_
                          refine Gp_put 1 hm385354 he385461 dr_cX17_rename_135 (gk_X15 D I) (Nat.le_of_ble_eq_true rfl) wr_9_182 rfl rfl rfl (Nat.le_of_ble_eq_true rfl) (fun F385480 e385481 n385482 => ?_)
                          have he385483 : F385480 q360368 = .inr (18, [.ref q384023, .ref q384024, .int p384025, .int p384026]) := (n385482 q360368 (rn_oo he385455 he385461 (by decide))).trans he385455
                          have he385484 : F385480 q384023 = .inr (4, [.int p384053, .ref q384055, .int p384054]) := (n385482 q384023 (rn_oo he385456 he385461 (by decide))).trans he385456
                          have he385485 : F385480 q384055 = .inl (I (.object "java/lang/Object"), n384069, .inr (.inr (.inr (.inr f384070)))) := (n385482 q384055 (rn_ao he385457 he385461)).trans he385457
                          have he385486 : F385480 q384072 = .inr (17, [.ref q384081, .ref q384082, .int p384083, .int p384084]) := (n385482 q384072 (rn_oo he385458 he385461 (by decide))).trans he385458
                          have he385487 : F385480 q384081 = .inr (4, [.int p384934, .ref q384936, .int p384935]) := (n385482 q384081 (rn_oo he385459 he385461 (by decide))).trans he385459
                          have he385488 : F385480 q384936 = .inl (I (.object "java/lang/Object"), n385341, .inr (.inr (.inr (.inr f385342)))) := (n385482 q384936 (rn_ao he385460 he385461)).trans he385460
                          have he385489 : F385480 q385344 = .inr (20, [.int p385356, .int p360370, .int p385358, .int p360370, .int p385360, .int p385361, .int p385362]) := e385481
                          have hs385490 : rStr γ [1] F360367 F385480 := rStr_pu2 hs385462 n385482 ht385347 (by decide)
                          have fk385491 : rFk [1] γ F360367 F385480 := rFk_put fk385463 n385482 ht385347 (by decide)
                          obtain ⟨z385492, hz385492⟩ : ∃ z : Int32, z = g384919 + Int32.ofInt 1 := ⟨_, rfl⟩
                          have ez385492 : z385492.toInt = g384919.toInt + 1 := gI_inc hz385492 (by decide) bg384919'' (by decide) (by decide)
                          have bz385492 : gB z385492 1 1000000 := ⟨by omega, by omega⟩
                          refine G_iinc (L' := [(5, .int z385492), (6, .ref q385344), (4, .ref q384072), (3, .int g384012), (0, .ref q360368), (1, .int p360369), (2, .int p360370)]) z385492 1 dr_cX17_rename_138 rfl hz385492.symm (Nat.le_of_ble_eq_true rfl) rfl ?_
                          refine G_goto 20 dr_cX17_rename_141 (by decide +kernel) ?_
                          have hT385493 : RS D I P360366 F385480 γ el := RS_set hT385464 n385482 ht385347 (by decide) ⟨p385356, p360370, p385358, p360370, p385360, p385361, p385362, he385489, bp385356, bp360370, bp385360, bp385361, bp385362, r385363, r385364, (Or.inr bp360370), r385366, r385367⟩
                          have of385494 : ∀ b, b ≠ q385344 → F385480 b = F384920 b := fun b hb => (n385482 b hb).trans (n385454 b hb)
                          refine G_lv (L' := [(5, .int z385492), (4, .ref q384072), (3, .int g384012), (0, .ref q360368), (1, .int p360369), (2, .int p360370)]) [0, 2, 3, 4, 5, 6] rfl ?_
                          exact ih20_384924 F385480 z385492 (gB_w bz385492 (by decide) (by decide)) hT385493 hs385490 (fun N hv hu hp => rPl_put hT384921 htq360368 rfl (x384923 N hv hu hp) of385494 hp385368 nb385371 hL385369 (fun _ _ _ _ z => z) (rNx_ren he385355 he385489 hu hv (Or.inl rfl) (Or.inr rfl) (Or.inr ⟨rfl, by first | assumption | omega⟩) (by rw [← hp385368]; exact x384923 N hv hu hp _ nb385371 _ hL385369))) fk385491 (mz_up ez385492 (Int.le_trans bg384919''.2 (by decide)) hm20_384924)
                · have r385495 : o385377.toInt ≠ 0 := gj_neq hc385379 (show Int32.toInt 0 = 0 by decide)
                  have bo385377' : gB o385377 1 1 := gB_t1 bo385377 r385495
                  refine G_aload 0 dr_cX17_rename_77 rfl ?_
                  refine Gp_get 2 hm385354 he385355 dr_cX17_rename_79 (gk_X15 D I) (Nat.le_of_ble_eq_true rfl) wr_9_186 rfl ?_
                  refine G_iload_n 5 dr_cX17_rename_82 rfl ?_
                  refine G_icmp_ne 92 dr_cX17_rename_83 (by decide +kernel) (fun hc385496 => ?_) (fun hc385496 => ?_)
                  · have r385497 : p385358.toInt ≠ p360369.toInt := gC_ne hc385496
                    refine G_aload 0 dr_cX17_rename_92 rfl ?_
                    refine Gw_callV (As := []) (gV_ok D I) (cp_1693_Row_usesB l hl0 D I P360366 F384920 q385344 p385356 p385357 p385358 p385359 p385360 p385361 p385362 hm385354 he385355 bp385356 bp385357 bp385360 bp385361 bp385362) dr_cX17_rename_94 ⟨wr_10_196, wr_1_39, wr_10_199, by decide, rfl, (Nat.le_of_ble_eq_true rfl), (Nat.le_of_ble_eq_true rfl)⟩ wr_10_197 wr_10_198 hm385354 he385355 rfl (show 0 + 0 ≤ 0 by first | omega | decide) (show 0 + 0 ≤ 0 by first | omega | decide) (Nat.le_of_ble_eq_true rfl) (fun r385501 w385502 dc385498 ds385499 hp385500 => ?_) (fun _ _ _ _ _ z => z.elim)
                    obtain ⟨o385503, rfl, rfl, hdc, hds, bo385503, x385504⟩ := hp385500
                    change G _ _ _ _ _ _ _ (.int o385503 :: _) _ _ _
                    refine G_widen (cs' := 0) (sl' := 0) (by omega) (by omega) ?_
                    refine G_if_eq 115 dr_cX17_rename_97 (by decide +kernel) (fun hc385505 => ?_) (fun hc385505 => ?_)
                    · have r385506 : o385503.toInt = 0 := gj_eq hc385505 (show Int32.toInt 0 = 0 by decide)
                      have bo385503' : gB o385503 0 0 := gB_t0 r385506
                      refine G_aload 0 dr_cX17_rename_115 rfl ?_
                      refine Gw_callV (As := []) (gV_ok D I) (cp_1654_Row_sets l hl0 D I P360366 F384920 q385344 p385356 p385357 p385358 p385359 p385360 p385361 p385362 hm385354 he385355 bp385356 bp385357 bp385360 bp385361 bp385362) dr_cX17_rename_117 ⟨wr_10_181, wr_1_39, wr_10_184, by decide, rfl, (Nat.le_of_ble_eq_true rfl), (Nat.le_of_ble_eq_true rfl)⟩ wr_10_182 wr_10_183 hm385354 he385355 rfl (show 0 + 0 ≤ 0 by first | omega | decide) (show 0 + 0 ≤ 0 by first | omega | decide) (Nat.le_of_ble_eq_true rfl) (fun r385510 w385511 dc385507 ds385508 hp385509 => ?_) (fun _ _ _ _ _ z => z.elim)
                      obtain ⟨o385512, rfl, rfl, hdc, hds, bo385512⟩ := hp385509
                      change G _ _ _ _ _ _ _ (.int o385512 :: _) _ _ _
                      refine G_widen (cs' := 0) (sl' := 0) (by omega) (by omega) ?_
                      refine G_if_eq 138 dr_cX17_rename_120 (by decide +kernel) (fun hc385513 => ?_) (fun hc385513 => ?_)
                      · have r385514 : o385512.toInt = 0 := gj_eq hc385513 (show Int32.toInt 0 = 0 by decide)
                        have bo385512' : gB o385512 0 0 := gB_t0 r385514
                        obtain ⟨z385515, hz385515⟩ : ∃ z : Int32, z = g384919 + Int32.ofInt 1 := ⟨_, rfl⟩
                        have ez385515 : z385515.toInt = g384919.toInt + 1 := gI_inc hz385515 (by decide) bg384919'' (by decide) (by decide)
                        have bz385515 : gB z385515 1 1000000 := ⟨by omega, by omega⟩
                        refine G_iinc (L' := [(5, .int z385515), (6, .ref q385344), (4, .ref q384072), (3, .int g384012), (0, .ref q360368), (1, .int p360369), (2, .int p360370)]) z385515 1 dr_cX17_rename_138 rfl hz385515.symm (Nat.le_of_ble_eq_true rfl) rfl ?_
                        refine G_goto 20 dr_cX17_rename_141 (by decide +kernel) ?_
                        refine G_lv (L' := [(5, .int z385515), (4, .ref q384072), (3, .int g384012), (0, .ref q360368), (1, .int p360369), (2, .int p360370)]) [0, 2, 3, 4, 5, 6] rfl ?_
                        exact ih20_384924 F384920 z385515 (gB_w bz385515 (by decide) (by decide)) hT384921 hs384922 x384923 x384924 (mz_up ez385515 (Int.le_trans bg384919''.2 (by decide)) hm20_384924)
                      · have r385516 : o385512.toInt ≠ 0 := gj_neq hc385513 (show Int32.toInt 0 = 0 by decide)
                        have bo385512' : gB o385512 1 1 := gB_t1 bo385512 r385516
                        refine G_aload 0 dr_cX17_rename_123 rfl ?_
                        refine Gp_get 1 hm385354 he385355 dr_cX17_rename_125 (gk_X15 D I) (Nat.le_of_ble_eq_true rfl) wr_9_182 rfl ?_
                        refine G_iload_n 5 dr_cX17_rename_128 rfl ?_
                        refine G_icmp_ne 138 dr_cX17_rename_129 (by decide +kernel) (fun hc385517 => ?_) (fun hc385517 => ?_)
                        · have r385518 : p385357.toInt ≠ p360369.toInt := gC_ne hc385517
                          obtain ⟨z385519, hz385519⟩ : ∃ z : Int32, z = g384919 + Int32.ofInt 1 := ⟨_, rfl⟩
                          have ez385519 : z385519.toInt = g384919.toInt + 1 := gI_inc hz385519 (by decide) bg384919'' (by decide) (by decide)
                          have bz385519 : gB z385519 1 1000000 := ⟨by omega, by omega⟩
                          refine G_iinc (L' := [(5, .int z385519), (6, .ref q385344), (4, .ref q384072), (3, .int g384012), (0, .ref q360368), (1, .int p360369), (2, .int p360370)]) z385519 1 dr_cX17_rename_138 rfl hz385519.symm (Nat.le_of_ble_eq_true rfl) rfl ?_
                          refine G_goto 20 dr_cX17_rename_141 (by decide +kernel) ?_
                          refine G_lv (L' := [(5, .int z385519), (4, .ref q384072), (3, .int g384012), (0, .ref q360368), (1, .int p360369), (2, .int p360370)]) [0, 2, 3, 4, 5, 6] rfl ?_
                          exact ih20_384924 F384920 z385519 (gB_w bz385519 (by decide) (by decide)) hT384921 hs384922 x384923 x384924 (mz_up ez385519 (Int.le_trans bg384919''.2 (by decide)) hm20_384924)
                        · have r385520 : p385357.toInt = p360369.toInt := gC_eq hc385517
                          refine G_aload 0 dr_cX17_rename_132 rfl ?_
                          refine G_iload_n 6 dr_cX17_rename_134 rfl ?_
                          refine Gp_put 1 hm385354 he385355 dr_cX17_rename_135 (gk_X15 D I) (Nat.le_of_ble_eq_true rfl) wr_9_182 rfl rfl rfl (Nat.le_of_ble_eq_true rfl) (fun F385521 e385522 n385523 => ?_)
                          have he385524 : F385521 q360368 = .inr (18, [.ref q384023, .ref q384024, .int p384025, .int p384026]) := (n385523 q360368 (rn_oo he384927 he385355 (by decide))).trans he384927
                          have he385525 : F385521 q384023 = .inr (4, [.int p384053, .ref q384055, .int p384054]) := (n385523 q384023 (rn_oo he384928 he385355 (by decide))).trans he384928
                          have he385526 : F385521 q384055 = .inl (I (.object "java/lang/Object"), n384069, .inr (.inr (.inr (.inr f384070)))) := (n385523 q384055 (rn_ao he384929 he385355)).trans he384929
                          have he385527 : F385521 q384072 = .inr (17, [.ref q384081, .ref q384082, .int p384083, .int p384084]) := (n385523 q384072 (rn_oo he384930 he385355 (by decide))).trans he384930
                          have he385528 : F385521 q384081 = .inr (4, [.int p384934, .ref q384936, .int p384935]) := (n385523 q384081 (rn_oo he384933 he385355 (by decide))).trans he384933
                          have he385529 : F385521 q384936 = .inl (I (.object "java/lang/Object"), n385341, .inr (.inr (.inr (.inr f385342)))) := (n385523 q384936 (rn_ao r385335 he385355)).trans r385335
                          have he385530 : F385521 q385344 = .inr (20, [.int p385356, .int p360370, .int p385358, .int p385359, .int p385360, .int p385361, .int p385362]) := e385522
                          have hs385531 : rStr γ [1] F360367 F385521 := rStr_pu2 hs384922 n385523 ht385347 (by decide)
                          have fk385532 : rFk [1] γ F360367 F385521 := rFk_put x384924 n385523 ht385347 (by decide)
                          obtain ⟨z385533, hz385533⟩ : ∃ z : Int32, z = g384919 + Int32.ofInt 1 := ⟨_, rfl⟩
                          have ez385533 : z385533.toInt = g384919.toInt + 1 := gI_inc hz385533 (by decide) bg384919'' (by decide) (by decide)
                          have bz385533 : gB z385533 1 1000000 := ⟨by omega, by omega⟩
                          refine G_iinc (L' := [(5, .int z385533), (6, .ref q385344), (4, .ref q384072), (3, .int g384012), (0, .ref q360368), (1, .int p360369), (2, .int p360370)]) z385533 1 dr_cX17_rename_138 rfl hz385533.symm (Nat.le_of_ble_eq_true rfl) rfl ?_
                          refine G_goto 20 dr_cX17_rename_141 (by decide +kernel) ?_
                          have hT385534 : RS D I P360366 F385521 γ el := RS_set hT384921 n385523 ht385347 (by decide) ⟨p385356, p360370, p385358, p385359, p385360, p385361, p385362, he385530, bp385356, bp360370, bp385360, bp385361, bp385362, r385363, r385364, r385365, r385366, r385367⟩
                          refine G_lv (L' := [(5, .int z385533), (4, .ref q384072), (3, .int g384012), (0, .ref q360368), (1, .int p360369), (2, .int p360370)]) [0, 2, 3, 4, 5, 6] rfl ?_
                          exact ih20_384924 F385521 z385533 (gB_w bz385533 (by decide) (by decide)) hT385534 hs385531 (fun N hv hu hp => rPl_put hT384921 htq360368 rfl (x384923 N hv hu hp) n385523 hp385368 nb385371 hL385369 (fun _ _ _ _ z => z) (rNx_ren he385355 he385530 hu hv (Or.inl rfl) (Or.inl rfl) (Or.inr ⟨rfl, by first | assumption | omega⟩) (by rw [← hp385368]; exact x384923 N hv hu hp _ nb385371 _ hL385369))) fk385532 (mz_up ez385533 (Int.le_trans bg384919''.2 (by decide)) hm20_384924)
                    · have r385536 : o385503.toInt ≠ 0 := gj_neq hc385505 (show Int32.toInt 0 = 0 by decide)
                      have bo385503' : gB o385503 1 1 := gB_t1 bo385503 r385536
                      refine G_aload 0 dr_cX17_rename_100 rfl ?_
                      refine Gp_get 3 hm385354 he385355 dr_cX17_rename_102 (gk_X15 D I) (Nat.le_of_ble_eq_true rfl) wr_9_190 rfl ?_
                      refine G_iload_n 5 dr_cX17_rename_105 rfl ?_
                      refine G_icmp_ne 115 dr_cX17_rename_106 (by decide +kernel) (fun hc385537 => ?_) (fun hc385537 => ?_)
                      · have r385538 : p385359.toInt ≠ p360369.toInt := gC_ne hc385537
                        refine G_aload 0 dr_cX17_rename_115 rfl ?_
                        refine Gw_callV (As := []) (gV_ok D I) (cp_1654_Row_sets l hl0 D I P360366 F384920 q385344 p385356 p385357 p385358 p385359 p385360 p385361 p385362 hm385354 he385355 bp385356 bp385357 bp385360 bp385361 bp385362) dr_cX17_rename_117 ⟨wr_10_181, wr_1_39, wr_10_184, by decide, rfl, (Nat.le_of_ble_eq_true rfl), (Nat.le_of_ble_eq_true rfl)⟩ wr_10_182 wr_10_183 hm385354 he385355 rfl (show 0 + 0 ≤ 0 by first | omega | decide) (show 0 + 0 ≤ 0 by first | omega | decide) (Nat.le_of_ble_eq_true rfl) (fun r385542 w385543 dc385539 ds385540 hp385541 => ?_) (fun _ _ _ _ _ z => z.elim)
                        obtain ⟨o385544, rfl, rfl, hdc, hds, bo385544⟩ := hp385541
                        change G _ _ _ _ _ _ _ (.int o385544 :: _) _ _ _
                        refine G_widen (cs' := 0) (sl' := 0) (by omega) (by omega) ?_
                        refine G_if_eq 138 dr_cX17_rename_120 (by decide +kernel) (fun hc385545 => ?_) (fun hc385545 => ?_)
                        · have r385546 : o385544.toInt = 0 := gj_eq hc385545 (show Int32.toInt 0 = 0 by decide)
                          have bo385544' : gB o385544 0 0 := gB_t0 r385546
                          obtain ⟨z385547, hz385547⟩ : ∃ z : Int32, z = g384919 + Int32.ofInt 1 := ⟨_, rfl⟩
                          have ez385547 : z385547.toInt = g384919.toInt + 1 := gI_inc hz385547 (by decide) bg384919'' (by decide) (by decide)
                          have bz385547 : gB z385547 1 1000000 := ⟨by omega, by omega⟩
                          refine G_iinc (L' := [(5, .int z385547), (6, .ref q385344), (4, .ref q384072), (3, .int g384012), (0, .ref q360368), (1, .int p360369), (2, .int p360370)]) z385547 1 dr_cX17_rename_138 rfl hz385547.symm (Nat.le_of_ble_eq_true rfl) rfl ?_
                          refine G_goto 20 dr_cX17_rename_141 (by decide +kernel) ?_
                          refine G_lv (L' := [(5, .int z385547), (4, .ref q384072), (3, .int g384012), (0, .ref q360368), (1, .int p360369), (2, .int p360370)]) [0, 2, 3, 4, 5, 6] rfl ?_
                          exact ih20_384924 F384920 z385547 (gB_w bz385547 (by decide) (by decide)) hT384921 hs384922 x384923 x384924 (mz_up ez385547 (Int.le_trans bg384919''.2 (by decide)) hm20_384924)
                        · have r385548 : o385544.toInt ≠ 0 := gj_neq hc385545 (show Int32.toInt 0 = 0 by decide)
                          have bo385544' : gB o385544 1 1 := gB_t1 bo385544 r385548
                          refine G_aload 0 dr_cX17_rename_123 rfl ?_
                          refine Gp_get 1 hm385354 he385355 dr_cX17_rename_125 (gk_X15 D I) (Nat.le_of_ble_eq_true rfl) wr_9_182 rfl ?_
                          refine G_iload_n 5 dr_cX17_rename_128 rfl ?_
                          refine G_icmp_ne 138 dr_cX17_rename_129 (by decide +kernel) (fun hc385549 => ?_) (fun hc385549 => ?_)
                          · have r385550 : p385357.toInt ≠ p360369.toInt := gC_ne hc385549
                            obtain ⟨z385551, hz385551⟩ : ∃ z : Int32, z = g384919 + Int32.ofInt 1 := ⟨_, rfl⟩
                            have ez385551 : z385551.toInt = g384919.toInt + 1 := gI_inc hz385551 (by decide) bg384919'' (by decide) (by decide)
                            have bz385551 : gB z385551 1 1000000 := ⟨by omega, by omega⟩
                            refine G_iinc (L' := [(5, .int z385551), (6, .ref q385344), (4, .ref q384072), (3, .int g384012), (0, .ref q360368), (1, .int p360369), (2, .int p360370)]) z385551 1 dr_cX17_rename_138 rfl hz385551.symm (Nat.le_of_ble_eq_true rfl) rfl ?_
                            refine G_goto 20 dr_cX17_rename_141 (by decide +kernel) ?_
                            refine G_lv (L' := [(5, .int z385551), (4, .ref q384072), (3, .int g384012), (0, .ref q360368), (1, .int p360369), (2, .int p360370)]) [0, 2, 3, 4, 5, 6] rfl ?_
                            exact ih20_384924 F384920 z385551 (gB_w bz385551 (by decide) (by decide)) hT384921 hs384922 x384923 x384924 (mz_up ez385551 (Int.le_trans bg384919''.2 (by decide)) hm20_384924)
                          · have r385552 : p385357.toInt = p360369.toInt := gC_eq hc385549
                            refine G_aload 0 dr_cX17_rename_132 rfl ?_
                            refine G_iload_n 6 dr_cX17_rename_134 rfl ?_
                            refine Gp_put 1 hm385354 he385355 dr_cX17_rename_135 (gk_X15 D I) (Nat.le_of_ble_eq_true rfl) wr_9_182 rfl rfl rfl (Nat.le_of_ble_eq_true rfl) (fun F385553 e385554 n385555 => ?_)
                            have he385556 : F385553 q360368 = .inr (18, [.ref q384023, .ref q384024, .int p384025, .int p384026]) := (n385555 q360368 (rn_oo he384927 he385355 (by decide))).trans he384927
                            have he385557 : F385553 q384023 = .inr (4, [.int p384053, .ref q384055, .int p384054]) := (n385555 q384023 (rn_oo he384928 he385355 (by decide))).trans he384928
                            have he385558 : F385553 q384055 = .inl (I (.object "java/lang/Object"), n384069, .inr (.inr (.inr (.inr f384070)))) := (n385555 q384055 (rn_ao he384929 he385355)).trans he384929
                            have he385559 : F385553 q384072 = .inr (17, [.ref q384081, .ref q384082, .int p384083, .int p384084]) := (n385555 q384072 (rn_oo he384930 he385355 (by decide))).trans he384930
                            have he385560 : F385553 q384081 = .inr (4, [.int p384934, .ref q384936, .int p384935]) := (n385555 q384081 (rn_oo he384933 he385355 (by decide))).trans he384933
                            have he385561 : F385553 q384936 = .inl (I (.object "java/lang/Object"), n385341, .inr (.inr (.inr (.inr f385342)))) := (n385555 q384936 (rn_ao r385335 he385355)).trans r385335
                            have he385562 : F385553 q385344 = .inr (20, [.int p385356, .int p360370, .int p385358, .int p385359, .int p385360, .int p385361, .int p385362]) := e385554
                            have hs385563 : rStr γ [1] F360367 F385553 := rStr_pu2 hs384922 n385555 ht385347 (by decide)
                            have fk385564 : rFk [1] γ F360367 F385553 := rFk_put x384924 n385555 ht385347 (by decide)
                            obtain ⟨z385565, hz385565⟩ : ∃ z : Int32, z = g384919 + Int32.ofInt 1 := ⟨_, rfl⟩
                            have ez385565 : z385565.toInt = g384919.toInt + 1 := gI_inc hz385565 (by decide) bg384919'' (by decide) (by decide)
                            have bz385565 : gB z385565 1 1000000 := ⟨by omega, by omega⟩
                            refine G_iinc (L' := [(5, .int z385565), (6, .ref q385344), (4, .ref q384072), (3, .int g384012), (0, .ref q360368), (1, .int p360369), (2, .int p360370)]) z385565 1 dr_cX17_rename_138 rfl hz385565.symm (Nat.le_of_ble_eq_true rfl) rfl ?_
                            refine G_goto 20 dr_cX17_rename_141 (by decide +kernel) ?_
                            have hT385566 : RS D I P360366 F385553 γ el := RS_set hT384921 n385555 ht385347 (by decide) ⟨p385356, p360370, p385358, p385359, p385360, p385361, p385362, he385562, bp385356, bp360370, bp385360, bp385361, bp385362, r385363, r385364, r385365, r385366, r385367⟩
                            refine G_lv (L' := [(5, .int z385565), (4, .ref q384072), (3, .int g384012), (0, .ref q360368), (1, .int p360369), (2, .int p360370)]) [0, 2, 3, 4, 5, 6] rfl ?_
                            exact ih20_384924 F385553 z385565 (gB_w bz385565 (by decide) (by decide)) hT385566 hs385563 (fun N hv hu hp => rPl_put hT384921 htq360368 rfl (x384923 N hv hu hp) n385555 hp385368 nb385371 hL385369 (fun _ _ _ _ z => z) (rNx_ren he385355 he385562 hu hv (Or.inl rfl) (Or.inl rfl) (Or.inr ⟨rfl, by first | assumption | omega⟩) (by rw [← hp385368]; exact x384923 N hv hu hp _ nb385371 _ hL385369))) fk385564 (mz_up ez385565 (Int.le_trans bg384919''.2 (by decide)) hm20_384924)
                      · have r385568 : p385359.toInt = p360369.toInt := gC_eq hc385537
                        have bp385359' : gB p385359 0 1999 := ⟨by omega, by omega⟩
                        refine G_aload 0 dr_cX17_rename_109 rfl ?_
                        refine G_iload_n 6 dr_cX17_rename_111 rfl ?_
                        refine Gp_put 3 hm385354 he385355 dr_cX17_rename_112 (gk_X15 D I) (Nat.le_of_ble_eq_true rfl) wr_9_190 rfl rfl rfl (Nat.le_of_ble_eq_true rfl) (fun F385569 e385570 n385571 => ?_)
                        have he385572 : F385569 q360368 = .inr (18, [.ref q384023, .ref q384024, .int p384025, .int p384026]) := (n385571 q360368 (rn_oo he384927 he385355 (by decide))).trans he384927
                        have he385573 : F385569 q384023 = .inr (4, [.int p384053, .ref q384055, .int p384054]) := (n385571 q384023 (rn_oo he384928 he385355 (by decide))).trans he384928
                        have he385574 : F385569 q384055 = .inl (I (.object "java/lang/Object"), n384069, .inr (.inr (.inr (.inr f384070)))) := (n385571 q384055 (rn_ao he384929 he385355)).trans he384929
                        have he385575 : F385569 q384072 = .inr (17, [.ref q384081, .ref q384082, .int p384083, .int p384084]) := (n385571 q384072 (rn_oo he384930 he385355 (by decide))).trans he384930
                        have he385576 : F385569 q384081 = .inr (4, [.int p384934, .ref q384936, .int p384935]) := (n385571 q384081 (rn_oo he384933 he385355 (by decide))).trans he384933
                        have he385577 : F385569 q384936 = .inl (I (.object "java/lang/Object"), n385341, .inr (.inr (.inr (.inr f385342)))) := (n385571 q384936 (rn_ao r385335 he385355)).trans r385335
                        have he385578 : F385569 q385344 = .inr (20, [.int p385356, .int p385357, .int p385358, .int p360370, .int p385360, .int p385361, .int p385362]) := e385570
                        have hs385579 : rStr γ [1] F360367 F385569 := rStr_pu2 hs384922 n385571 ht385347 (by decide)
                        have fk385580 : rFk [1] γ F360367 F385569 := rFk_put x384924 n385571 ht385347 (by decide)
                        refine G_aload 0 dr_cX17_rename_115 rfl ?_
                        have hT385581 : RS D I P360366 F385569 γ el := RS_set hT384921 n385571 ht385347 (by decide) ⟨p385356, p385357, p385358, p360370, p385360, p385361, p385362, he385578, bp385356, bp385357, bp385360, bp385361, bp385362, r385363, r385364, (Or.inr bp360370), r385366, r385367⟩
                        refine Gw_callV (As := []) (gV_ok D I) (cp_1654_Row_sets l hl0 D I P360366 F385569 q385344 p385356 p385357 p385358 p360370 p385360 p385361 p385362 hm385354 he385578 bp385356 bp385357 bp385360 bp385361 bp385362) dr_cX17_rename_117 ⟨wr_10_181, wr_1_39, wr_10_184, by decide, rfl, (Nat.le_of_ble_eq_true rfl), (Nat.le_of_ble_eq_true rfl)⟩ wr_10_182 wr_10_183 hm385354 he385578 rfl (show 0 + 0 ≤ 0 by first | omega | decide) (show 0 + 0 ≤ 0 by first | omega | decide) (Nat.le_of_ble_eq_true rfl) (fun r385586 w385587 dc385583 ds385584 hp385585 => ?_) (fun _ _ _ _ _ z => z.elim)
                        obtain ⟨o385588, rfl, rfl, hdc, hds, bo385588⟩ := hp385585
                        change G _ _ _ _ _ _ _ (.int o385588 :: _) _ _ _
                        refine G_widen (cs' := 0) (sl' := 0) (by omega) (by omega) ?_
                        refine G_if_eq 138 dr_cX17_rename_120 (by decide +kernel) (fun hc385589 => ?_) (fun hc385589 => ?_)
                        · have r385590 : o385588.toInt = 0 := gj_eq hc385589 (show Int32.toInt 0 = 0 by decide)
                          have bo385588' : gB o385588 0 0 := gB_t0 r385590
                          obtain ⟨z385591, hz385591⟩ : ∃ z : Int32, z = g384919 + Int32.ofInt 1 := ⟨_, rfl⟩
                          have ez385591 : z385591.toInt = g384919.toInt + 1 := gI_inc hz385591 (by decide) bg384919'' (by decide) (by decide)
                          have bz385591 : gB z385591 1 1000000 := ⟨by omega, by omega⟩
                          refine G_iinc (L' := [(5, .int z385591), (6, .ref q385344), (4, .ref q384072), (3, .int g384012), (0, .ref q360368), (1, .int p360369), (2, .int p360370)]) z385591 1 dr_cX17_rename_138 rfl hz385591.symm (Nat.le_of_ble_eq_true rfl) rfl ?_
                          refine G_goto 20 dr_cX17_rename_141 (by decide +kernel) ?_
                          refine G_lv (L' := [(5, .int z385591), (4, .ref q384072), (3, .int g384012), (0, .ref q360368), (1, .int p360369), (2, .int p360370)]) [0, 2, 3, 4, 5, 6] rfl ?_
                          exact ih20_384924 F385569 z385591 (gB_w bz385591 (by decide) (by decide)) hT385581 hs385579 (fun N hv hu hp => rPl_put hT384921 htq360368 rfl (x384923 N hv hu hp) n385571 hp385368 nb385371 hL385369 (fun _ _ _ _ z => z) (rNx_ren he385355 he385578 hu hv (Or.inl rfl) (Or.inr rfl) (Or.inl rfl) (by rw [← hp385368]; exact x384923 N hv hu hp _ nb385371 _ hL385369))) fk385580 (mz_up ez385591 (Int.le_trans bg384919''.2 (by decide)) hm20_384924)
                        · have r385592 : o385588.toInt ≠ 0 := gj_neq hc385589 (show Int32.toInt 0 = 0 by decide)
                          have bo385588' : gB o385588 1 1 := gB_t1 bo385588 r385592
                          refine G_aload 0 dr_cX17_rename_123 rfl ?_
                          refine Gp_get 1 hm385354 he385578 dr_cX17_rename_125 (gk_X15 D I) (Nat.le_of_ble_eq_true rfl) wr_9_182 rfl ?_
                          refine G_iload_n 5 dr_cX17_rename_128 rfl ?_
                          refine G_icmp_ne 138 dr_cX17_rename_129 (by decide +kernel) (fun hc385593 => ?_) (fun hc385593 => ?_)
                          · have r385594 : p385357.toInt ≠ p360369.toInt := gC_ne hc385593
                            obtain ⟨z385595, hz385595⟩ : ∃ z : Int32, z = g384919 + Int32.ofInt 1 := ⟨_, rfl⟩
                            have ez385595 : z385595.toInt = g384919.toInt + 1 := gI_inc hz385595 (by decide) bg384919'' (by decide) (by decide)
                            have bz385595 : gB z385595 1 1000000 := ⟨by omega, by omega⟩
                            refine G_iinc (L' := [(5, .int z385595), (6, .ref q385344), (4, .ref q384072), (3, .int g384012), (0, .ref q360368), (1, .int p360369), (2, .int p360370)]) z385595 1 dr_cX17_rename_138 rfl hz385595.symm (Nat.le_of_ble_eq_true rfl) rfl ?_
                            refine G_goto 20 dr_cX17_rename_141 (by decide +kernel) ?_
                            refine G_lv (L' := [(5, .int z385595), (4, .ref q384072), (3, .int g384012), (0, .ref q360368), (1, .int p360369), (2, .int p360370)]) [0, 2, 3, 4, 5, 6] rfl ?_
                            exact ih20_384924 F385569 z385595 (gB_w bz385595 (by decide) (by decide)) hT385581 hs385579 (fun N hv hu hp => rPl_put hT384921 htq360368 rfl (x384923 N hv hu hp) n385571 hp385368 nb385371 hL385369 (fun _ _ _ _ z => z) (rNx_ren he385355 he385578 hu hv (Or.inl rfl) (Or.inr rfl) (Or.inl rfl) (by rw [← hp385368]; exact x384923 N hv hu hp _ nb385371 _ hL385369))) fk385580 (mz_up ez385595 (Int.le_trans bg384919''.2 (by decide)) hm20_384924)
                          · have r385596 : p385357.toInt = p360369.toInt := gC_eq hc385593
                            refine G_aload 0 dr_cX17_rename_132 rfl ?_
                            refine G_iload_n 6 dr_cX17_rename_134 rfl ?_
                            refine Gp_put 1 hm385354 he385578 dr_cX17_rename_135 (gk_X15 D I) (Nat.le_of_ble_eq_true rfl) wr_9_182 rfl rfl rfl (Nat.le_of_ble_eq_true rfl) (fun F385597 e385598 n385599 => ?_)
                            have he385600 : F385597 q360368 = .inr (18, [.ref q384023, .ref q384024, .int p384025, .int p384026]) := (n385599 q360368 (rn_oo he385572 he385578 (by decide))).trans he385572
                            have he385601 : F385597 q384023 = .inr (4, [.int p384053, .ref q384055, .int p384054]) := (n385599 q384023 (rn_oo he385573 he385578 (by decide))).trans he385573
                            have he385602 : F385597 q384055 = .inl (I (.object "java/lang/Object"), n384069, .inr (.inr (.inr (.inr f384070)))) := (n385599 q384055 (rn_ao he385574 he385578)).trans he385574
                            have he385603 : F385597 q384072 = .inr (17, [.ref q384081, .ref q384082, .int p384083, .int p384084]) := (n385599 q384072 (rn_oo he385575 he385578 (by decide))).trans he385575
                            have he385604 : F385597 q384081 = .inr (4, [.int p384934, .ref q384936, .int p384935]) := (n385599 q384081 (rn_oo he385576 he385578 (by decide))).trans he385576
                            have he385605 : F385597 q384936 = .inl (I (.object "java/lang/Object"), n385341, .inr (.inr (.inr (.inr f385342)))) := (n385599 q384936 (rn_ao he385577 he385578)).trans he385577
                            have he385606 : F385597 q385344 = .inr (20, [.int p385356, .int p360370, .int p385358, .int p360370, .int p385360, .int p385361, .int p385362]) := e385598
                            have hs385607 : rStr γ [1] F360367 F385597 := rStr_pu2 hs385579 n385599 ht385347 (by decide)
                            have fk385608 : rFk [1] γ F360367 F385597 := rFk_put fk385580 n385599 ht385347 (by decide)
                            obtain ⟨z385609, hz385609⟩ : ∃ z : Int32, z = g384919 + Int32.ofInt 1 := ⟨_, rfl⟩
                            have ez385609 : z385609.toInt = g384919.toInt + 1 := gI_inc hz385609 (by decide) bg384919'' (by decide) (by decide)
                            have bz385609 : gB z385609 1 1000000 := ⟨by omega, by omega⟩
                            refine G_iinc (L' := [(5, .int z385609), (6, .ref q385344), (4, .ref q384072), (3, .int g384012), (0, .ref q360368), (1, .int p360369), (2, .int p360370)]) z385609 1 dr_cX17_rename_138 rfl hz385609.symm (Nat.le_of_ble_eq_true rfl) rfl ?_
                            refine G_goto 20 dr_cX17_rename_141 (by decide +kernel) ?_
                            have hT385610 : RS D I P360366 F385597 γ el := RS_set hT385581 n385599 ht385347 (by decide) ⟨p385356, p360370, p385358, p360370, p385360, p385361, p385362, he385606, bp385356, bp360370, bp385360, bp385361, bp385362, r385363, r385364, (Or.inr bp360370), r385366, r385367⟩
                            have of385611 : ∀ b, b ≠ q385344 → F385597 b = F384920 b := fun b hb => (n385599 b hb).trans (n385571 b hb)
                            refine G_lv (L' := [(5, .int z385609), (4, .ref q384072), (3, .int g384012), (0, .ref q360368), (1, .int p360369), (2, .int p360370)]) [0, 2, 3, 4, 5, 6] rfl ?_
                            exact ih20_384924 F385597 z385609 (gB_w bz385609 (by decide) (by decide)) hT385610 hs385607 (fun N hv hu hp => rPl_put hT384921 htq360368 rfl (x384923 N hv hu hp) of385611 hp385368 nb385371 hL385369 (fun _ _ _ _ z => z) (rNx_ren he385355 he385606 hu hv (Or.inl rfl) (Or.inr rfl) (Or.inr ⟨rfl, by first | assumption | omega⟩) (by rw [← hp385368]; exact x384923 N hv hu hp _ nb385371 _ hL385369))) fk385608 (mz_up ez385609 (Int.le_trans bg384919''.2 (by decide)) hm20_384924)
                  · have r385612 : p385358.toInt = p360369.toInt := gC_eq hc385496
                    have bp385358' : gB p385358 0 1999 := ⟨by omega, by omega⟩
                    refine G_aload 0 dr_cX17_rename_86 rfl ?_
                    refine G_iload_n 6 dr_cX17_rename_88 rfl ?_
                    refine Gp_put 2 hm385354 he385355 dr_cX17_rename_89 (gk_X15 D I) (Nat.le_of_ble_eq_true rfl) wr_9_186 rfl rfl rfl (Nat.le_of_ble_eq_true rfl) (fun F385613 e385614 n385615 => ?_)
                    have he385616 : F385613 q360368 = .inr (18, [.ref q384023, .ref q384024, .int p384025, .int p384026]) := (n385615 q360368 (rn_oo he384927 he385355 (by decide))).trans he384927
                    have he385617 : F385613 q384023 = .inr (4, [.int p384053, .ref q384055, .int p384054]) := (n385615 q384023 (rn_oo he384928 he385355 (by decide))).trans he384928
                    have he385618 : F385613 q384055 = .inl (I (.object "java/lang/Object"), n384069, .inr (.inr (.inr (.inr f384070)))) := (n385615 q384055 (rn_ao he384929 he385355)).trans he384929
                    have he385619 : F385613 q384072 = .inr (17, [.ref q384081, .ref q384082, .int p384083, .int p384084]) := (n385615 q384072 (rn_oo he384930 he385355 (by decide))).trans he384930
                    have he385620 : F385613 q384081 = .inr (4, [.int p384934, .ref q384936, .int p384935]) := (n385615 q384081 (rn_oo he384933 he385355 (by decide))).trans he384933
                    have he385621 : F385613 q384936 = .inl (I (.object "java/lang/Object"), n385341, .inr (.inr (.inr (.inr f385342)))) := (n385615 q384936 (rn_ao r385335 he385355)).trans r385335
                    have he385622 : F385613 q385344 = .inr (20, [.int p385356, .int p385357, .int p360370, .int p385359, .int p385360, .int p385361, .int p385362]) := e385614
                    have hs385623 : rStr γ [1] F360367 F385613 := rStr_pu2 hs384922 n385615 ht385347 (by decide)
                    have fk385624 : rFk [1] γ F360367 F385613 := rFk_put x384924 n385615 ht385347 (by decide)
                    refine G_aload 0 dr_cX17_rename_92 rfl ?_
                    have hT385625 : RS D I P360366 F385613 γ el := RS_set hT384921 n385615 ht385347 (by decide) ⟨p385356, p385357, p360370, p385359, p385360, p385361, p385362, he385622, bp385356, bp385357, bp385360, bp385361, bp385362, r385363, (Or.inr bp360370), r385365, r385366, r385367⟩
                    refine Gw_callV (As := []) (gV_ok D I) (cp_1693_Row_usesB l hl0 D I P360366 F385613 q385344 p385356 p385357 p360370 p385359 p385360 p385361 p385362 hm385354 he385622 bp385356 bp385357 bp385360 bp385361 bp385362) dr_cX17_rename_94 ⟨wr_10_196, wr_1_39, wr_10_199, by decide, rfl, (Nat.le_of_ble_eq_true rfl), (Nat.le_of_ble_eq_true rfl)⟩ wr_10_197 wr_10_198 hm385354 he385622 rfl (show 0 + 0 ≤ 0 by first | omega | decide) (show 0 + 0 ≤ 0 by first | omega | decide) (Nat.le_of_ble_eq_true rfl) (fun r385630 w385631 dc385627 ds385628 hp385629 => ?_) (fun _ _ _ _ _ z => z.elim)
                    obtain ⟨o385632, rfl, rfl, hdc, hds, bo385632, x385633⟩ := hp385629
                    change G _ _ _ _ _ _ _ (.int o385632 :: _) _ _ _
                    refine G_widen (cs' := 0) (sl' := 0) (by omega) (by omega) ?_
                    refine G_if_eq 115 dr_cX17_rename_97 (by decide +kernel) (fun hc385634 => ?_) (fun hc385634 => ?_)
                    · have r385635 : o385632.toInt = 0 := gj_eq hc385634 (show Int32.toInt 0 = 0 by decide)
                      have bo385632' : gB o385632 0 0 := gB_t0 r385635
                      refine G_aload 0 dr_cX17_rename_115 rfl ?_
                      refine Gw_callV (As := []) (gV_ok D I) (cp_1654_Row_sets l hl0 D I P360366 F385613 q385344 p385356 p385357 p360370 p385359 p385360 p385361 p385362 hm385354 he385622 bp385356 bp385357 bp385360 bp385361 bp385362) dr_cX17_rename_117 ⟨wr_10_181, wr_1_39, wr_10_184, by decide, rfl, (Nat.le_of_ble_eq_true rfl), (Nat.le_of_ble_eq_true rfl)⟩ wr_10_182 wr_10_183 hm385354 he385622 rfl (show 0 + 0 ≤ 0 by first | omega | decide) (show 0 + 0 ≤ 0 by first | omega | decide) (Nat.le_of_ble_eq_true rfl) (fun r385639 w385640 dc385636 ds385637 hp385638 => ?_) (fun _ _ _ _ _ z => z.elim)
                      obtain ⟨o385641, rfl, rfl, hdc, hds, bo385641⟩ := hp385638
                      change G _ _ _ _ _ _ _ (.int o385641 :: _) _ _ _
                      refine G_widen (cs' := 0) (sl' := 0) (by omega) (by omega) ?_
                      refine G_if_eq 138 dr_cX17_rename_120 (by decide +kernel) (fun hc385642 => ?_) (fun hc385642 => ?_)
                      · have r385643 : o385641.toInt = 0 := gj_eq hc385642 (show Int32.toInt 0 = 0 by decide)
                        have bo385641' : gB o385641 0 0 := gB_t0 r385643
                        obtain ⟨z385644, hz385644⟩ : ∃ z : Int32, z = g384919 + Int32.ofInt 1 := ⟨_, rfl⟩
                        have ez385644 : z385644.toInt = g384919.toInt + 1 := gI_inc hz385644 (by decide) bg384919'' (by decide) (by decide)
                        have bz385644 : gB z385644 1 1000000 := ⟨by omega, by omega⟩
                        refine G_iinc (L' := [(5, .int z385644), (6, .ref q385344), (4, .ref q384072), (3, .int g384012), (0, .ref q360368), (1, .int p360369), (2, .int p360370)]) z385644 1 dr_cX17_rename_138 rfl hz385644.symm (Nat.le_of_ble_eq_true rfl) rfl ?_
                        refine G_goto 20 dr_cX17_rename_141 (by decide +kernel) ?_
                        refine G_lv (L' := [(5, .int z385644), (4, .ref q384072), (3, .int g384012), (0, .ref q360368), (1, .int p360369), (2, .int p360370)]) [0, 2, 3, 4, 5, 6] rfl ?_
                        exact ih20_384924 F385613 z385644 (gB_w bz385644 (by decide) (by decide)) hT385625 hs385623 (fun N hv hu hp => rPl_put hT384921 htq360368 rfl (x384923 N hv hu hp) n385615 hp385368 nb385371 hL385369 (fun _ _ _ _ z => z) (rNx_ren he385355 he385622 hu hv (Or.inr rfl) (Or.inl rfl) (Or.inl rfl) (by rw [← hp385368]; exact x384923 N hv hu hp _ nb385371 _ hL385369))) fk385624 (mz_up ez385644 (Int.le_trans bg384919''.2 (by decide)) hm20_384924)
                      · have r385645 : o385641.toInt ≠ 0 := gj_neq hc385642 (show Int32.toInt 0 = 0 by decide)
                        have bo385641' : gB o385641 1 1 := gB_t1 bo385641 r385645
                        refine G_aload 0 dr_cX17_rename_123 rfl ?_
                        refine Gp_get 1 hm385354 he385622 dr_cX17_rename_125 (gk_X15 D I) (Nat.le_of_ble_eq_true rfl) wr_9_182 rfl ?_
                        refine G_iload_n 5 dr_cX17_rename_128 rfl ?_
                        refine G_icmp_ne 138 dr_cX17_rename_129 (by decide +kernel) (fun hc385646 => ?_) (fun hc385646 => ?_)
                        · have r385647 : p385357.toInt ≠ p360369.toInt := gC_ne hc385646
                          obtain ⟨z385648, hz385648⟩ : ∃ z : Int32, z = g384919 + Int32.ofInt 1 := ⟨_, rfl⟩
                          have ez385648 : z385648.toInt = g384919.toInt + 1 := gI_inc hz385648 (by decide) bg384919'' (by decide) (by decide)
                          have bz385648 : gB z385648 1 1000000 := ⟨by omega, by omega⟩
                          refine G_iinc (L' := [(5, .int z385648), (6, .ref q385344), (4, .ref q384072), (3, .int g384012), (0, .ref q360368), (1, .int p360369), (2, .int p360370)]) z385648 1 dr_cX17_rename_138 rfl hz385648.symm (Nat.le_of_ble_eq_true rfl) rfl ?_
                          refine G_goto 20 dr_cX17_rename_141 (by decide +kernel) ?_
                          refine G_lv (L' := [(5, .int z385648), (4, .ref q384072), (3, .int g384012), (0, .ref q360368), (1, .int p360369), (2, .int p360370)]) [0, 2, 3, 4, 5, 6] rfl ?_
                          exact ih20_384924 F385613 z385648 (gB_w bz385648 (by decide) (by decide)) hT385625 hs385623 (fun N hv hu hp => rPl_put hT384921 htq360368 rfl (x384923 N hv hu hp) n385615 hp385368 nb385371 hL385369 (fun _ _ _ _ z => z) (rNx_ren he385355 he385622 hu hv (Or.inr rfl) (Or.inl rfl) (Or.inl rfl) (by rw [← hp385368]; exact x384923 N hv hu hp _ nb385371 _ hL385369))) fk385624 (mz_up ez385648 (Int.le_trans bg384919''.2 (by decide)) hm20_384924)
                        · have r385649 : p385357.toInt = p360369.toInt := gC_eq hc385646
                          refine G_aload 0 dr_cX17_rename_132 rfl ?_
                          refine G_iload_n 6 dr_cX17_rename_134 rfl ?_
                          refine Gp_put 1 hm385354 he385622 dr_cX17_rename_135 (gk_X15 D I) (Nat.le_of_ble_eq_true rfl) wr_9_182 rfl rfl rfl (Nat.le_of_ble_eq_true rfl) (fun F385650 e385651 n385652 => ?_)
                          have he385653 : F385650 q360368 = .inr (18, [.ref q384023, .ref q384024, .int p384025, .int p384026]) := (n385652 q360368 (rn_oo he385616 he385622 (by decide))).trans he385616
                          have he385654 : F385650 q384023 = .inr (4, [.int p384053, .ref q384055, .int p384054]) := (n385652 q384023 (rn_oo he385617 he385622 (by decide))).trans he385617
                          have he385655 : F385650 q384055 = .inl (I (.object "java/lang/Object"), n384069, .inr (.inr (.inr (.inr f384070)))) := (n385652 q384055 (rn_ao he385618 he385622)).trans he385618
                          have he385656 : F385650 q384072 = .inr (17, [.ref q384081, .ref q384082, .int p384083, .int p384084]) := (n385652 q384072 (rn_oo he385619 he385622 (by decide))).trans he385619
                          have he385657 : F385650 q384081 = .inr (4, [.int p384934, .ref q384936, .int p384935]) := (n385652 q384081 (rn_oo he385620 he385622 (by decide))).trans he385620
                          have he385658 : F385650 q384936 = .inl (I (.object "java/lang/Object"), n385341, .inr (.inr (.inr (.inr f385342)))) := (n385652 q384936 (rn_ao he385621 he385622)).trans he385621
                          have he385659 : F385650 q385344 = .inr (20, [.int p385356, .int p360370, .int p360370, .int p385359, .int p385360, .int p385361, .int p385362]) := e385651
                          have hs385660 : rStr γ [1] F360367 F385650 := rStr_pu2 hs385623 n385652 ht385347 (by decide)
                          have fk385661 : rFk [1] γ F360367 F385650 := rFk_put fk385624 n385652 ht385347 (by decide)
                          obtain ⟨z385662, hz385662⟩ : ∃ z : Int32, z = g384919 + Int32.ofInt 1 := ⟨_, rfl⟩
                          have ez385662 : z385662.toInt = g384919.toInt + 1 := gI_inc hz385662 (by decide) bg384919'' (by decide) (by decide)
                          have bz385662 : gB z385662 1 1000000 := ⟨by omega, by omega⟩
                          refine G_iinc (L' := [(5, .int z385662), (6, .ref q385344), (4, .ref q384072), (3, .int g384012), (0, .ref q360368), (1, .int p360369), (2, .int p360370)]) z385662 1 dr_cX17_rename_138 rfl hz385662.symm (Nat.le_of_ble_eq_true rfl) rfl ?_
                          refine G_goto 20 dr_cX17_rename_141 (by decide +kernel) ?_
                          have hT385663 : RS D I P360366 F385650 γ el := RS_set hT385625 n385652 ht385347 (by decide) ⟨p385356, p360370, p360370, p385359, p385360, p385361, p385362, he385659, bp385356, bp360370, bp385360, bp385361, bp385362, r385363, (Or.inr bp360370), r385365, r385366, r385367⟩
                          have of385664 : ∀ b, b ≠ q385344 → F385650 b = F384920 b := fun b hb => (n385652 b hb).trans (n385615 b hb)
                          refine G_lv (L' := [(5, .int z385662), (4, .ref q384072), (3, .int g384012), (0, .ref q360368), (1, .int p360369), (2, .int p360370)]) [0, 2, 3, 4, 5, 6] rfl ?_
                          exact ih20_384924 F385650 z385662 (gB_w bz385662 (by decide) (by decide)) hT385663 hs385660 (fun N hv hu hp => rPl_put hT384921 htq360368 rfl (x384923 N hv hu hp) of385664 hp385368 nb385371 hL385369 (fun _ _ _ _ z => z) (rNx_ren he385355 he385659 hu hv (Or.inr rfl) (Or.inl rfl) (Or.inr ⟨rfl, by first | assumption | omega⟩) (by rw [← hp385368]; exact x384923 N hv hu hp _ nb385371 _ hL385369))) fk385661 (mz_up ez385662 (Int.le_trans bg384919''.2 (by decide)) hm20_384924)
                    · have r385665 : o385632.toInt ≠ 0 := gj_neq hc385634 (show Int32.toInt 0 = 0 by decide)
                      have bo385632' : gB o385632 1 1 := gB_t1 bo385632 r385665
                      refine G_aload 0 dr_cX17_rename_100 rfl ?_
                      refine Gp_get 3 hm385354 he385622 dr_cX17_rename_102 (gk_X15 D I) (Nat.le_of_ble_eq_true rfl) wr_9_190 rfl ?_
                      refine G_iload_n 5 dr_cX17_rename_105 rfl ?_
                      refine G_icmp_ne 115 dr_cX17_rename_106 (by decide +kernel) (fun hc385666 => ?_) (fun hc385666 => ?_)
                      · have r385667 : p385359.toInt ≠ p360369.toInt := gC_ne hc385666
                        refine G_aload 0 dr_cX17_rename_115 rfl ?_
                        refine Gw_callV (As := []) (gV_ok D I) (cp_1654_Row_sets l hl0 D I P360366 F385613 q385344 p385356 p385357 p360370 p385359 p385360 p385361 p385362 hm385354 he385622 bp385356 bp385357 bp385360 bp385361 bp385362) dr_cX17_rename_117 ⟨wr_10_181, wr_1_39, wr_10_184, by decide, rfl, (Nat.le_of_ble_eq_true rfl), (Nat.le_of_ble_eq_true rfl)⟩ wr_10_182 wr_10_183 hm385354 he385622 rfl (show 0 + 0 ≤ 0 by first | omega | decide) (show 0 + 0 ≤ 0 by first | omega | decide) (Nat.le_of_ble_eq_true rfl) (fun r385671 w385672 dc385668 ds385669 hp385670 => ?_) (fun _ _ _ _ _ z => z.elim)
                        obtain ⟨o385673, rfl, rfl, hdc, hds, bo385673⟩ := hp385670
                        change G _ _ _ _ _ _ _ (.int o385673 :: _) _ _ _
                        refine G_widen (cs' := 0) (sl' := 0) (by omega) (by omega) ?_
                        refine G_if_eq 138 dr_cX17_rename_120 (by decide +kernel) (fun hc385674 => ?_) (fun hc385674 => ?_)
                        · have r385675 : o385673.toInt = 0 := gj_eq hc385674 (show Int32.toInt 0 = 0 by decide)
                          have bo385673' : gB o385673 0 0 := gB_t0 r385675
                          obtain ⟨z385676, hz385676⟩ : ∃ z : Int32, z = g384919 + Int32.ofInt 1 := ⟨_, rfl⟩
                          have ez385676 : z385676.toInt = g384919.toInt + 1 := gI_inc hz385676 (by decide) bg384919'' (by decide) (by decide)
                          have bz385676 : gB z385676 1 1000000 := ⟨by omega, by omega⟩
                          refine G_iinc (L' := [(5, .int z385676), (6, .ref q385344), (4, .ref q384072), (3, .int g384012), (0, .ref q360368), (1, .int p360369), (2, .int p360370)]) z385676 1 dr_cX17_rename_138 rfl hz385676.symm (Nat.le_of_ble_eq_true rfl) rfl ?_
                          refine G_goto 20 dr_cX17_rename_141 (by decide +kernel) ?_
                          refine G_lv (L' := [(5, .int z385676), (4, .ref q384072), (3, .int g384012), (0, .ref q360368), (1, .int p360369), (2, .int p360370)]) [0, 2, 3, 4, 5, 6] rfl ?_
                          exact ih20_384924 F385613 z385676 (gB_w bz385676 (by decide) (by decide)) hT385625 hs385623 (fun N hv hu hp => rPl_put hT384921 htq360368 rfl (x384923 N hv hu hp) n385615 hp385368 nb385371 hL385369 (fun _ _ _ _ z => z) (rNx_ren he385355 he385622 hu hv (Or.inr rfl) (Or.inl rfl) (Or.inl rfl) (by rw [← hp385368]; exact x384923 N hv hu hp _ nb385371 _ hL385369))) fk385624 (mz_up ez385676 (Int.le_trans bg384919''.2 (by decide)) hm20_384924)
                        · have r385677 : o385673.toInt ≠ 0 := gj_neq hc385674 (show Int32.toInt 0 = 0 by decide)
                          have bo385673' : gB o385673 1 1 := gB_t1 bo385673 r385677
                          refine G_aload 0 dr_cX17_rename_123 rfl ?_
                          refine Gp_get 1 hm385354 he385622 dr_cX17_rename_125 (gk_X15 D I) (Nat.le_of_ble_eq_true rfl) wr_9_182 rfl ?_
                          refine G_iload_n 5 dr_cX17_rename_128 rfl ?_
                          refine G_icmp_ne 138 dr_cX17_rename_129 (by decide +kernel) (fun hc385678 => ?_) (fun hc385678 => ?_)
                          · have r385679 : p385357.toInt ≠ p360369.toInt := gC_ne hc385678
                            obtain ⟨z385680, hz385680⟩ : ∃ z : Int32, z = g384919 + Int32.ofInt 1 := ⟨_, rfl⟩
                            have ez385680 : z385680.toInt = g384919.toInt + 1 := gI_inc hz385680 (by decide) bg384919'' (by decide) (by decide)
                            have bz385680 : gB z385680 1 1000000 := ⟨by omega, by omega⟩
                            refine G_iinc (L' := [(5, .int z385680), (6, .ref q385344), (4, .ref q384072), (3, .int g384012), (0, .ref q360368), (1, .int p360369), (2, .int p360370)]) z385680 1 dr_cX17_rename_138 rfl hz385680.symm (Nat.le_of_ble_eq_true rfl) rfl ?_
                            refine G_goto 20 dr_cX17_rename_141 (by decide +kernel) ?_
                            refine G_lv (L' := [(5, .int z385680), (4, .ref q384072), (3, .int g384012), (0, .ref q360368), (1, .int p360369), (2, .int p360370)]) [0, 2, 3, 4, 5, 6] rfl ?_
                            exact ih20_384924 F385613 z385680 (gB_w bz385680 (by decide) (by decide)) hT385625 hs385623 (fun N hv hu hp => rPl_put hT384921 htq360368 rfl (x384923 N hv hu hp) n385615 hp385368 nb385371 hL385369 (fun _ _ _ _ z => z) (rNx_ren he385355 he385622 hu hv (Or.inr rfl) (Or.inl rfl) (Or.inl rfl) (by rw [← hp385368]; exact x384923 N hv hu hp _ nb385371 _ hL385369))) fk385624 (mz_up ez385680 (Int.le_trans bg384919''.2 (by decide)) hm20_384924)
                          · have r385681 : p385357.toInt = p360369.toInt := gC_eq hc385678
                            refine G_aload 0 dr_cX17_rename_132 rfl ?_
                            refine G_iload_n 6 dr_cX17_rename_134 rfl ?_
                            refine Gp_put 1 hm385354 he385622 dr_cX17_rename_135 (gk_X15 D I) (Nat.le_of_ble_eq_true rfl) wr_9_182 rfl rfl rfl (Nat.le_of_ble_eq_true rfl) (fun F385682 e385683 n385684 => ?_)
                            have he385685 : F385682 q360368 = .inr (18, [.ref q384023, .ref q384024, .int p384025, .int p384026]) := (n385684 q360368 (rn_oo he385616 he385622 (by decide))).trans he385616
                            have he385686 : F385682 q384023 = .inr (4, [.int p384053, .ref q384055, .int p384054]) := (n385684 q384023 (rn_oo he385617 he385622 (by decide))).trans he385617
                            have he385687 : F385682 q384055 = .inl (I (.object "java/lang/Object"), n384069, .inr (.inr (.inr (.inr f384070)))) := (n385684 q384055 (rn_ao he385618 he385622)).trans he385618
                            have he385688 : F385682 q384072 = .inr (17, [.ref q384081, .ref q384082, .int p384083, .int p384084]) := (n385684 q384072 (rn_oo he385619 he385622 (by decide))).trans he385619
                            have he385689 : F385682 q384081 = .inr (4, [.int p384934, .ref q384936, .int p384935]) := (n385684 q384081 (rn_oo he385620 he385622 (by decide))).trans he385620
                            have he385690 : F385682 q384936 = .inl (I (.object "java/lang/Object"), n385341, .inr (.inr (.inr (.inr f385342)))) := (n385684 q384936 (rn_ao he385621 he385622)).trans he385621
                            have he385691 : F385682 q385344 = .inr (20, [.int p385356, .int p360370, .int p360370, .int p385359, .int p385360, .int p385361, .int p385362]) := e385683
                            have hs385692 : rStr γ [1] F360367 F385682 := rStr_pu2 hs385623 n385684 ht385347 (by decide)
                            have fk385693 : rFk [1] γ F360367 F385682 := rFk_put fk385624 n385684 ht385347 (by decide)
                            obtain ⟨z385694, hz385694⟩ : ∃ z : Int32, z = g384919 + Int32.ofInt 1 := ⟨_, rfl⟩
                            have ez385694 : z385694.toInt = g384919.toInt + 1 := gI_inc hz385694 (by decide) bg384919'' (by decide) (by decide)
                            have bz385694 : gB z385694 1 1000000 := ⟨by omega, by omega⟩
                            refine G_iinc (L' := [(5, .int z385694), (6, .ref q385344), (4, .ref q384072), (3, .int g384012), (0, .ref q360368), (1, .int p360369), (2, .int p360370)]) z385694 1 dr_cX17_rename_138 rfl hz385694.symm (Nat.le_of_ble_eq_true rfl) rfl ?_
                            refine G_goto 20 dr_cX17_rename_141 (by decide +kernel) ?_
                            have hT385695 : RS D I P360366 F385682 γ el := RS_set hT385625 n385684 ht385347 (by decide) ⟨p385356, p360370, p360370, p385359, p385360, p385361, p385362, he385691, bp385356, bp360370, bp385360, bp385361, bp385362, r385363, (Or.inr bp360370), r385365, r385366, r385367⟩
                            have of385696 : ∀ b, b ≠ q385344 → F385682 b = F384920 b := fun b hb => (n385684 b hb).trans (n385615 b hb)
                            refine G_lv (L' := [(5, .int z385694), (4, .ref q384072), (3, .int g384012), (0, .ref q360368), (1, .int p360369), (2, .int p360370)]) [0, 2, 3, 4, 5, 6] rfl ?_
                            exact ih20_384924 F385682 z385694 (gB_w bz385694 (by decide) (by decide)) hT385695 hs385692 (fun N hv hu hp => rPl_put hT384921 htq360368 rfl (x384923 N hv hu hp) of385696 hp385368 nb385371 hL385369 (fun _ _ _ _ z => z) (rNx_ren he385355 he385691 hu hv (Or.inr rfl) (Or.inl rfl) (Or.inr ⟨rfl, by first | assumption | omega⟩) (by rw [← hp385368]; exact x384923 N hv hu hp _ nb385371 _ hL385369))) fk385693 (mz_up ez385694 (Int.le_trans bg384919''.2 (by decide)) hm20_384924)
                      · have r385697 : p385359.toInt = p360369.toInt := gC_eq hc385666
                        have bp385359' : gB p385359 0 1999 := ⟨by omega, by omega⟩
                        refine G_aload 0 dr_cX17_rename_109 rfl ?_
                        refine G_iload_n 6 dr_cX17_rename_111 rfl ?_
                        refine Gp_put 3 hm385354 he385622 dr_cX17_rename_112 (gk_X15 D I) (Nat.le_of_ble_eq_true rfl) wr_9_190 rfl rfl rfl (Nat.le_of_ble_eq_true rfl) (fun F385698 e385699 n385700 => ?_)
                        have he385701 : F385698 q360368 = .inr (18, [.ref q384023, .ref q384024, .int p384025, .int p384026]) := (n385700 q360368 (rn_oo he385616 he385622 (by decide))).trans he385616
                        have he385702 : F385698 q384023 = .inr (4, [.int p384053, .ref q384055, .int p384054]) := (n385700 q384023 (rn_oo he385617 he385622 (by decide))).trans he385617
                        have he385703 : F385698 q384055 = .inl (I (.object "java/lang/Object"), n384069, .inr (.inr (.inr (.inr f384070)))) := (n385700 q384055 (rn_ao he385618 he385622)).trans he385618
                        have he385704 : F385698 q384072 = .inr (17, [.ref q384081, .ref q384082, .int p384083, .int p384084]) := (n385700 q384072 (rn_oo he385619 he385622 (by decide))).trans he385619
                        have he385705 : F385698 q384081 = .inr (4, [.int p384934, .ref q384936, .int p384935]) := (n385700 q384081 (rn_oo he385620 he385622 (by decide))).trans he385620
                        have he385706 : F385698 q384936 = .inl (I (.object "java/lang/Object"), n385341, .inr (.inr (.inr (.inr f385342)))) := (n385700 q384936 (rn_ao he385621 he385622)).trans he385621
                        have he385707 : F385698 q385344 = .inr (20, [.int p385356, .int p385357, .int p360370, .int p360370, .int p385360, .int p385361, .int p385362]) := e385699
                        have hs385708 : rStr γ [1] F360367 F385698 := rStr_pu2 hs385623 n385700 ht385347 (by decide)
                        have fk385709 : rFk [1] γ F360367 F385698 := rFk_put fk385624 n385700 ht385347 (by decide)
                        refine G_aload 0 dr_cX17_rename_115 rfl ?_
                        have hT385710 : RS D I P360366 F385698 γ el := RS_set hT385625 n385700 ht385347 (by decide) ⟨p385356, p385357, p360370, p360370, p385360, p385361, p385362, he385707, bp385356, bp385357, bp385360, bp385361, bp385362, r385363, (Or.inr bp360370), (Or.inr bp360370), r385366, r385367⟩
                        have of385711 : ∀ b, b ≠ q385344 → F385698 b = F384920 b := fun b hb => (n385700 b hb).trans (n385615 b hb)
                        refine Gw_callV (As := []) (gV_ok D I) (cp_1654_Row_sets l hl0 D I P360366 F385698 q385344 p385356 p385357 p360370 p360370 p385360 p385361 p385362 hm385354 he385707 bp385356 bp385357 bp385360 bp385361 bp385362) dr_cX17_rename_117 ⟨wr_10_181, wr_1_39, wr_10_184, by decide, rfl, (Nat.le_of_ble_eq_true rfl), (Nat.le_of_ble_eq_true rfl)⟩ wr_10_182 wr_10_183 hm385354 he385707 rfl (show 0 + 0 ≤ 0 by first | omega | decide) (show 0 + 0 ≤ 0 by first | omega | decide) (Nat.le_of_ble_eq_true rfl) (fun r385715 w385716 dc385712 ds385713 hp385714 => ?_) (fun _ _ _ _ _ z => z.elim)
                        obtain ⟨o385717, rfl, rfl, hdc, hds, bo385717⟩ := hp385714
                        change G _ _ _ _ _ _ _ (.int o385717 :: _) _ _ _
                        refine G_widen (cs' := 0) (sl' := 0) (by omega) (by omega) ?_
                        refine G_if_eq 138 dr_cX17_rename_120 (by decide +kernel) (fun hc385718 => ?_) (fun hc385718 => ?_)
                        · have r385719 : o385717.toInt = 0 := gj_eq hc385718 (show Int32.toInt 0 = 0 by decide)
                          have bo385717' : gB o385717 0 0 := gB_t0 r385719
                          obtain ⟨z385720, hz385720⟩ : ∃ z : Int32, z = g384919 + Int32.ofInt 1 := ⟨_, rfl⟩
                          have ez385720 : z385720.toInt = g384919.toInt + 1 := gI_inc hz385720 (by decide) bg384919'' (by decide) (by decide)
                          have bz385720 : gB z385720 1 1000000 := ⟨by omega, by omega⟩
                          refine G_iinc (L' := [(5, .int z385720), (6, .ref q385344), (4, .ref q384072), (3, .int g384012), (0, .ref q360368), (1, .int p360369), (2, .int p360370)]) z385720 1 dr_cX17_rename_138 rfl hz385720.symm (Nat.le_of_ble_eq_true rfl) rfl ?_
                          refine G_goto 20 dr_cX17_rename_141 (by decide +kernel) ?_
                          refine G_lv (L' := [(5, .int z385720), (4, .ref q384072), (3, .int g384012), (0, .ref q360368), (1, .int p360369), (2, .int p360370)]) [0, 2, 3, 4, 5, 6] rfl ?_
                          exact ih20_384924 F385698 z385720 (gB_w bz385720 (by decide) (by decide)) hT385710 hs385708 (fun N hv hu hp => rPl_put hT384921 htq360368 rfl (x384923 N hv hu hp) of385711 hp385368 nb385371 hL385369 (fun _ _ _ _ z => z) (rNx_ren he385355 he385707 hu hv (Or.inr rfl) (Or.inr rfl) (Or.inl rfl) (by rw [← hp385368]; exact x384923 N hv hu hp _ nb385371 _ hL385369))) fk385709 (mz_up ez385720 (Int.le_trans bg384919''.2 (by decide)) hm20_384924)
                        · have r385721 : o385717.toInt ≠ 0 := gj_neq hc385718 (show Int32.toInt 0 = 0 by decide)
                          have bo385717' : gB o385717 1 1 := gB_t1 bo385717 r385721
                          refine G_aload 0 dr_cX17_rename_123 rfl ?_
                          refine Gp_get 1 hm385354 he385707 dr_cX17_rename_125 (gk_X15 D I) (Nat.le_of_ble_eq_true rfl) wr_9_182 rfl ?_
                          refine G_iload_n 5 dr_cX17_rename_128 rfl ?_
                          refine G_icmp_ne 138 dr_cX17_rename_129 (by decide +kernel) (fun hc385722 => ?_) (fun hc385722 => ?_)
                          · have r385723 : p385357.toInt ≠ p360369.toInt := gC_ne hc385722
                            obtain ⟨z385724, hz385724⟩ : ∃ z : Int32, z = g384919 + Int32.ofInt 1 := ⟨_, rfl⟩
                            have ez385724 : z385724.toInt = g384919.toInt + 1 := gI_inc hz385724 (by decide) bg384919'' (by decide) (by decide)
                            have bz385724 : gB z385724 1 1000000 := ⟨by omega, by omega⟩
                            refine G_iinc (L' := [(5, .int z385724), (6, .ref q385344), (4, .ref q384072), (3, .int g384012), (0, .ref q360368), (1, .int p360369), (2, .int p360370)]) z385724 1 dr_cX17_rename_138 rfl hz385724.symm (Nat.le_of_ble_eq_true rfl) rfl ?_
                            refine G_goto 20 dr_cX17_rename_141 (by decide +kernel) ?_
                            refine G_lv (L' := [(5, .int z385724), (4, .ref q384072), (3, .int g384012), (0, .ref q360368), (1, .int p360369), (2, .int p360370)]) [0, 2, 3, 4, 5, 6] rfl ?_
                            exact ih20_384924 F385698 z385724 (gB_w bz385724 (by decide) (by decide)) hT385710 hs385708 (fun N hv hu hp => rPl_put hT384921 htq360368 rfl (x384923 N hv hu hp) of385711 hp385368 nb385371 hL385369 (fun _ _ _ _ z => z) (rNx_ren he385355 he385707 hu hv (Or.inr rfl) (Or.inr rfl) (Or.inl rfl) (by rw [← hp385368]; exact x384923 N hv hu hp _ nb385371 _ hL385369))) fk385709 (mz_up ez385724 (Int.le_trans bg384919''.2 (by decide)) hm20_384924)
                          · have r385725 : p385357.toInt = p360369.toInt := gC_eq hc385722
                            refine G_aload 0 dr_cX17_rename_132 rfl ?_
                            refine G_iload_n 6 dr_cX17_rename_134 rfl ?_
                            refine Gp_put 1 hm385354 he385707 dr_cX17_rename_135 (gk_X15 D I) (Nat.le_of_ble_eq_true rfl) wr_9_182 rfl rfl rfl (Nat.le_of_ble_eq_true rfl) (fun F385726 e385727 n385728 => ?_)
                            have he385729 : F385726 q360368 = .inr (18, [.ref q384023, .ref q384024, .int p384025, .int p384026]) := (n385728 q360368 (rn_oo he385701 he385707 (by decide))).trans he385701
                            have he385730 : F385726 q384023 = .inr (4, [.int p384053, .ref q384055, .int p384054]) := (n385728 q384023 (rn_oo he385702 he385707 (by decide))).trans he385702
                            have he385731 : F385726 q384055 = .inl (I (.object "java/lang/Object"), n384069, .inr (.inr (.inr (.inr f384070)))) := (n385728 q384055 (rn_ao he385703 he385707)).trans he385703
                            have he385732 : F385726 q384072 = .inr (17, [.ref q384081, .ref q384082, .int p384083, .int p384084]) := (n385728 q384072 (rn_oo he385704 he385707 (by decide))).trans he385704
                            have he385733 : F385726 q384081 = .inr (4, [.int p384934, .ref q384936, .int p384935]) := (n385728 q384081 (rn_oo he385705 he385707 (by decide))).trans he385705
                            have he385734 : F385726 q384936 = .inl (I (.object "java/lang/Object"), n385341, .inr (.inr (.inr (.inr f385342)))) := (n385728 q384936 (rn_ao he385706 he385707)).trans he385706
                            have he385735 : F385726 q385344 = .inr (20, [.int p385356, .int p360370, .int p360370, .int p360370, .int p385360, .int p385361, .int p385362]) := e385727
                            have hs385736 : rStr γ [1] F360367 F385726 := rStr_pu2 hs385708 n385728 ht385347 (by decide)
                            have fk385737 : rFk [1] γ F360367 F385726 := rFk_put fk385709 n385728 ht385347 (by decide)
                            obtain ⟨z385738, hz385738⟩ : ∃ z : Int32, z = g384919 + Int32.ofInt 1 := ⟨_, rfl⟩
                            have ez385738 : z385738.toInt = g384919.toInt + 1 := gI_inc hz385738 (by decide) bg384919'' (by decide) (by decide)
                            have bz385738 : gB z385738 1 1000000 := ⟨by omega, by omega⟩
                            refine G_iinc (L' := [(5, .int z385738), (6, .ref q385344), (4, .ref q384072), (3, .int g384012), (0, .ref q360368), (1, .int p360369), (2, .int p360370)]) z385738 1 dr_cX17_rename_138 rfl hz385738.symm (Nat.le_of_ble_eq_true rfl) rfl ?_
                            refine G_goto 20 dr_cX17_rename_141 (by decide +kernel) ?_
                            have hT385739 : RS D I P360366 F385726 γ el := RS_set hT385710 n385728 ht385347 (by decide) ⟨p385356, p360370, p360370, p360370, p385360, p385361, p385362, he385735, bp385356, bp360370, bp385360, bp385361, bp385362, r385363, (Or.inr bp360370), (Or.inr bp360370), r385366, r385367⟩
                            have of385740 : ∀ b, b ≠ q385344 → F385726 b = F384920 b := fun b hb => (n385728 b hb).trans (of385711 b hb)
                            refine G_lv (L' := [(5, .int z385738), (4, .ref q384072), (3, .int g384012), (0, .ref q360368), (1, .int p360369), (2, .int p360370)]) [0, 2, 3, 4, 5, 6] rfl ?_
                            exact ih20_384924 F385726 z385738 (gB_w bz385738 (by decide) (by decide)) hT385739 hs385736 (fun N hv hu hp => rPl_put hT384921 htq360368 rfl (x384923 N hv hu hp) of385740 hp385368 nb385371 hL385369 (fun _ _ _ _ z => z) (rNx_ren he385355 he385735 hu hv (Or.inr rfl) (Or.inr rfl) (Or.inr ⟨rfl, by first | assumption | omega⟩) (by rw [← hp385368]; exact x384923 N hv hu hp _ nb385371 _ hL385369))) fk385737 (mz_up ez385738 (Int.le_trans bg384919''.2 (by decide)) hm20_384924)
        exact hlp20_384924 (((1000002 : Int) - 0).toNat + 1) F384013 0 (gB_w (gBl (show Int32.toInt 0 = 0 by decide)) (by decide) (by decide)) hT384014 hs384015 x384016 x384017 (Nat.lt_succ_self _)
  exact hlp2_384017 (((1000001 : Int) - 0).toNat + 1) F360367 0 (gB_w (gBl (show Int32.toInt 0 = 0 by decide)) (by decide) (by decide)) hT (rStr_rf (γ := γ) (W := [1]) (F := F360367)) (fun N _ _ h => h) (rFk_rf) (Nat.lt_succ_self _)
