abbrev ky_369830_SpillForgeModel_rename : gKey := (cX17_rename, 7, "SpillForgeModel", none, [], "rename", fun _ _ => True)
def pt_369830_SpillForgeModel_rename (D : va_G) (I : FieldType → ClassId) (γ el : Nat → Nat → Nat) (P369824 : List Nat) (F369825 : Nat → va_E) (q369826 : Nat) (p369827 : Int32) (p369828 : Int32) : Option Value → va_W → Nat → Nat → Prop := fun r w dc ds => ∃ (F396810 : Nat → va_E), r = none ∧ w = va_pl P369824 F396810 ∧ RS D I P369824 F396810 γ el ∧ rStr γ [1] F369825 F396810 ∧ dc ≤ 0 ∧ ds ≤ 0 ∧ (∀ N : Nat → Prop, N (p369828.toInt : Int).toNat → p369827.toInt < 100 → rPl γ el F369825 q369826 (γ 6 (γ 1 q369826)) (fun _ _ => rNx N) → rPl γ el F396810 q369826 (γ 6 (γ 1 q369826)) (fun _ _ => rNx N)) ∧ rFk [1] γ F369825 F396810 ∧ rFs γ (γ 1 q369826) F369825 F396810
set_option maxRecDepth 100000 in
set_option maxHeartbeats 4000000 in
theorem ct_369830_SpillForgeModel_rename (l : Launch) (hl0 : l.stackTraces = false) (D : va_G) (I : FieldType → ClassId) (γ el : Nat → Nat → Nat) (P369824 : List Nat) (F369825 : Nat → va_E) (q369826 : Nat) (p369827 : Int32) (p369828 : Int32) (hT : RS D I P369824 F369825 γ el) (htq369826 : rKd γ q369826 9) (bp369827 : gB p369827 0 1999) (bp369828 : gB p369828 0 1999) (x369829 : 0 < γ 6 (γ 1 q369826)) : CtA (gV D I) l yX17_rename cX17_rename 7 none 4 85 0 0 [.ref q369826, .int p369827, .int p369828] (va_pl P369824 F369825) (pt_369830_SpillForgeModel_rename D I γ el P369824 F369825 q369826 p369827 p369828) gNA := by
  refine CtA_of hl0 (by decide) (Nat.le_of_ble_eq_true rfl) ?_
  refine G_iconst 0 dr_cX17_rename_0 (by decide +kernel) ?_
  refine G_istore_n (L' := [(3, .int 0), (0, .ref q369826), (1, .int p369827), (2, .int p369828)]) dr_cX17_rename_1 (Nat.le_of_ble_eq_true rfl) rfl ?_
  have hlp2_394978 : ∀ (n2_394978 : Nat) (F394973 : Nat → va_E) (g394972 : Int32), gB g394972 0 1000000 → RS D I P369824 F394973 γ el → rStr γ [1] F369825 F394973 → (∀ N : Nat → Prop, N (p369828.toInt : Int).toNat → p369827.toInt < 100 → rPl γ el F369825 q369826 (γ 6 (γ 1 q369826)) (fun _ _ => rNx N) → rPl γ el F394973 q369826 (γ 6 (γ 1 q369826)) (fun _ _ => rNx N)) → rFk [1] γ F369825 F394973 → rFs γ (γ 1 q369826) F369825 F394973 → ((1000001 : Int) - g394972.toInt).toNat < n2_394978 → G (gV D I) l (gRm 4 85 0 0) (gMA (gV D I) (pt_369830_SpillForgeModel_rename D I γ el P369824 F369825 q369826 p369827 p369828) gNA 0 0) ky_369830_SpillForgeModel_rename 2 [(3, .int g394972), (0, .ref q369826), (1, .int p369827), (2, .int p369828)] [] (va_pl P369824 F394973) 0 0 := by
    intro n2_394978
    induction n2_394978 with
    | zero => intro F394973 g394972 bg394972 hT394974 hs394975 x394976 x394977 x394978 hm2_394978; exact absurd hm2_394978 (Nat.not_lt_zero _)
    | succ n2_394978 ih2_394978 =>
      intro F394973 g394972 bg394972 hT394974 hs394975 x394976 x394977 x394978 hm2_394978
      have hs394980 : rStr γ [1] F369825 F394973 := fun b h0 hb hw => (hs394975 b h0 hb hw).trans ((rStr_rf (γ := γ) (W := [1]) (F := F369825)) b h0 hb hw).symm
      have hs394981 : rStr γ [1] F369825 F394973 := rStr_tr (rStr_rf (γ := γ) (W := [1]) (F := F369825)) hs394980
      refine G_iload_n 0 dr_cX17_rename_2 rfl ?_
      refine G_aload_n 1 dr_cX17_rename_3 rfl ?_
      have hm394982 : q369826 ∈ P369824 := RS_m hT394974 htq369826 (by decide)
      obtain ⟨q394984, q394985, p394986, p394987, he394983, ht395003, ht394988, ht394989, ht394990, ht394991, r394992, r394993, r394994, r394995, r394996, r394997, r394998, r394999, r395000, r395001, r395002⟩ := show rk_9 γ el q369826 (F394973 q369826) from RS_o hT394974 htq369826
      have bp394986 : gB p394986 0 1000000 := ⟨by omega, by omega⟩
      have bp394987 : gB p394987 0 1000000 := ⟨by omega, by omega⟩
      refine Gw_callV (As := []) (gV_ok D I) (cp_12780_Code_size l hl0 D I P369824 F394973 q369826 q394984 q394985 p394986 p394987 hm394982 he394983) dr_cX17_rename_4 ⟨wr_10_160, wr_1_15, wr_9_131, by decide, rfl, (Nat.le_of_ble_eq_true rfl), (Nat.le_of_ble_eq_true rfl)⟩ wr_9_129 wr_9_130 hm394982 he394983 rfl (show 0 + 0 ≤ 0 by first | omega | decide) (show 0 + 0 ≤ 0 by first | omega | decide) (Nat.le_of_ble_eq_true rfl) (fun r395007 w395008 dc395004 ds395005 hp395006 => ?_) (fun _ _ _ _ _ z => z.elim)
      obtain ⟨rfl, rfl, hdc, hds⟩ := hp395006
      change G _ _ _ _ _ _ _ (.int p394987 :: _) _ _ _
      refine G_widen (cs' := 0) (sl' := 0) (by omega) (by omega) ?_
      refine G_icmp_ge 150 dr_cX17_rename_7 (by decide +kernel) (fun hc395009 => ?_) (fun hc395009 => ?_)
      · have r395010 : p394987.toInt ≤ g394972.toInt := gC_le hc395009
        exact G_vretA dr_cX17_rename_150 rfl (Nat.le_of_ble_eq_true rfl) (Nat.le_of_ble_eq_true rfl) ⟨F394973, rfl, rfl, hT394974, hs394975, (Nat.le_of_ble_eq_true rfl), (Nat.le_of_ble_eq_true rfl), x394976, x394977, x394978⟩
      · have r395011 : g394972.toInt < p394987.toInt := gC_nle hc395009
        have bg394972' : gB g394972 0 999999 := ⟨by omega, by omega⟩
        have bp394987' : gB p394987 1 1000000 := ⟨by omega, by omega⟩
        refine G_aload_n 1 dr_cX17_rename_10 rfl ?_
        refine G_iload_n 0 dr_cX17_rename_11 rfl ?_
        have hm395012 : q394984 ∈ P369824 := RS_m hT394974 ht394988 (by decide)
        obtain ⟨⟨p395014, p395015, q395016, he395013, r395017, r395018, r395019, r395021⟩, r395020⟩ := show rk_4 D I γ el F394973 q394984 from RS_o hT394974 ht394988
        have bp395014 := gB_any p395014
        have bp395015 : gB p395015 0 1000000 := ⟨by omega, by omega⟩
        obtain ⟨r395022, r395023, n395030, f395031, r395024, r395025, r395026, r395027, r395028, r395029⟩ := rLC_n r395019 (by omega)
        have hm395032 : q395016 ∈ P369824 := RS_m hT394974 r395022 (by decide)
        obtain ⟨q395033, hx395034⟩ : ∃ x, x = el q394984 g394972.toInt.toNat := ⟨_, rfl⟩
        have hx395035 : f395031 g394972.toNatClampNeg = some q395033 := (r395028 _ (show g394972.toInt.toNat < γ 2 q394984 by omega)).trans (by rw [hx395034])
        have ht395038 : rKd γ q395033 2 := by rw [hx395034]; exact (r394999 _ (by omega)).resolve_right (fun z => absurd z.1 (by omega))
        have ht395039 : rFm γ q395033 q394984 := by rw [hx395034]; exact (r395020 _ (show g394972.toInt.toNat < γ 2 q394984 by omega)).2.1
        have hm395040 : q395033 ∈ P369824 := RS_m hT394974 ht395038 (by decide)
        obtain ⟨q395042, q395043, p395044, p395045, he395041, ht395052, ht395046, ht395047, ht395048, ht395049, ht395050, bp395044, bp395045, r395051, r395053, r395054⟩ := show rk_2 γ q395033 (F394973 q395033) from RS_o hT394974 ht395038
        refine Gw_callV (As := [.int g394972]) (gV_ok D I) (cp_7901_Code_get l hl0 D I P369824 F394973 q369826 q394984 q395016 g394972 q394985 p394986 p394987 p395014 p395015 f395031 n395030 q395033 q395042 q395043 p395044 p395045 hm394982 hm395012 hm395032 hm395040 he394983 he395013 r395024 he395041 (gB_w bg394972' (by decide) (by decide)) (gB_w bp395015 (by decide) (by decide)) (by omega) (by omega) (by assumption) (by omega)) dr_cX17_rename_12 ⟨wr_10_161, wr_1_15, wr_10_141, by decide, rfl, (Nat.le_of_ble_eq_true rfl), (Nat.le_of_ble_eq_true rfl)⟩ wr_10_139 wr_10_140 hm394982 he394983 rfl (show 0 + 0 ≤ 0 by first | omega | decide) (show 0 + 0 ≤ 0 by first | omega | decide) (Nat.le_of_ble_eq_true rfl) (fun r395058 w395059 dc395055 ds395056 hp395057 => ?_) (fun _ _ _ _ _ z => z.elim)
        obtain ⟨rfl, rfl, hdc, hds, ht395060⟩ := hp395057
        change G _ _ _ _ _ _ _ (.ref q395033 :: _) _ _ _
        refine G_widen (cs' := 0) (sl' := 0) (by omega) (by omega) ?_
        have hb395061 : el (γ 14 q369826) (g394972.toInt : Int).toNat = q395033 := by rw [ht395003.1, hx395034]
        refine G_astore (L' := [(4, .ref q395033), (3, .int g394972), (0, .ref q369826), (1, .int p369827), (2, .int p369828)]) dr_cX17_rename_15 (Nat.le_of_ble_eq_true rfl) rfl ?_
        refine G_iconst 0 dr_cX17_rename_17 (by decide +kernel) ?_
        refine G_istore (L' := [(5, .int 0), (4, .ref q395033), (3, .int g394972), (0, .ref q369826), (1, .int p369827), (2, .int p369828)]) dr_cX17_rename_18 (Nat.le_of_ble_eq_true rfl) rfl ?_
        have hlp20_395940 : ∀ (n20_395940 : Nat) (F395935 : Nat → va_E) (g395934 : Int32), gB g395934 0 1000001 → RS D I P369824 F395935 γ el → rStr γ [1] F369825 F395935 → (∀ N : Nat → Prop, N (p369828.toInt : Int).toNat → p369827.toInt < 100 → rPl γ el F369825 q369826 (γ 6 (γ 1 q369826)) (fun _ _ => rNx N) → rPl γ el F395935 q369826 (γ 6 (γ 1 q369826)) (fun _ _ => rNx N)) → rFk [1] γ F369825 F395935 → rFs γ (γ 1 q369826) F369825 F395935 → ((1000002 : Int) - g395934.toInt).toNat < n20_395940 → G (gV D I) l (gRm 4 85 0 0) (gMA (gV D I) (pt_369830_SpillForgeModel_rename D I γ el P369824 F369825 q369826 p369827 p369828) gNA 0 0) ky_369830_SpillForgeModel_rename 20 [(5, .int g395934), (4, .ref q395033), (3, .int g394972), (0, .ref q369826), (1, .int p369827), (2, .int p369828)] [] (va_pl P369824 F395935) 0 0 := by
          intro n20_395940
          induction n20_395940 with
          | zero => intro F395935 g395934 bg395934 hT395936 hs395937 x395938 x395939 x395940 hm20_395940; exact absurd hm20_395940 (Nat.not_lt_zero _)
          | succ n20_395940 ih20_395940 =>
            intro F395935 g395934 bg395934 hT395936 hs395937 x395938 x395939 x395940 hm20_395940
            have hs395942 : rStr γ [1] F394973 F395935 := fun b h0 hb hw => (hs395937 b h0 hb hw).trans (hs394975 b h0 hb hw).symm
            have he395943 : F395935 q369826 = .inr (18, [.ref q394984, .ref q394985, .int p394986, .int p394987]) := (hs395942 q369826 (rT0 htq369826 (by decide)) (rT1 htq369826 (by decide)) (rT2 htq369826 (by decide))).trans he394983
            have he395944 : F395935 q394984 = .inr (4, [.int p395014, .ref q395016, .int p395015]) := (hs395942 q394984 (rT0 ht394988 (by decide)) (rT1 ht394988 (by decide)) (rT2 ht394988 (by decide))).trans he395013
            have he395945 : F395935 q395016 = .inl (I (.object "java/lang/Object"), n395030, .inr (.inr (.inr (.inr f395031)))) := (hs395942 q395016 (rT0 r395022 (by decide)) (rT1 r395022 (by decide)) (rT2 r395022 (by decide))).trans r395024
            have he395946 : F395935 q395033 = .inr (17, [.ref q395042, .ref q395043, .int p395044, .int p395045]) := (hs395942 q395033 (rT0 ht395038 (by decide)) (rT1 ht395038 (by decide)) (rT2 ht395038 (by decide))).trans he395041
            have hs395947 : rStr γ [1] F369825 F395935 := rStr_tr hs394975 hs395942
            refine G_iload 0 dr_cX17_rename_20 rfl ?_
            refine G_aload 1 dr_cX17_rename_22 rfl ?_
            refine Gp_get 0 hm395040 he395946 dr_cX17_rename_24 (gk_X12 D I) (Nat.le_of_ble_eq_true rfl) wr_9_220 rfl ?_
            have hm395948 : q395042 ∈ P369824 := RS_m hT395936 ht395046 (by decide)
            obtain ⟨⟨p395950, p395951, q395952, he395949, r395953, r395954, r395955, r395957⟩, r395956⟩ := show rk_3 D I γ el F395935 q395042 from RS_o hT395936 ht395046
            have bp395950 := gB_any p395950
            have bp395951 : gB p395951 0 1000000 := ⟨by omega, by omega⟩
            refine Gw_callV (As := []) (gV_ok D I) (cp_7_ArrayList_size l hl0 D I P369824 F395935 q395042 p395950 q395952 p395951 hm395948 he395949 (gB_w bp395951 (by decide) (by decide))) dr_cX17_rename_27 ⟨wr_10_200, wr_1_18, wr_9_160, by decide, rfl, (Nat.le_of_ble_eq_true rfl), (Nat.le_of_ble_eq_true rfl)⟩ wr_9_158 wr_9_159 hm395948 he395949 rfl (show 0 + 0 ≤ 0 by first | omega | decide) (show 0 + 0 ≤ 0 by first | omega | decide) (Nat.le_of_ble_eq_true rfl) (fun r395961 w395962 dc395958 ds395959 hp395960 => ?_) (fun _ _ _ _ _ z => z.elim)
            obtain ⟨rfl, rfl, hdc, hds⟩ := hp395960
            change G _ _ _ _ _ _ _ (.int p395951 :: _) _ _ _
            refine G_widen (cs' := 0) (sl' := 0) (by omega) (by omega) ?_
            refine G_icmp_gt 144 dr_cX17_rename_30 (by decide +kernel) (fun hc395963 => ?_) (fun hc395963 => ?_)
            · have r395964 : p395951.toInt < g395934.toInt := gC_lt hc395963
              have bg395934' : gB g395934 1 1000001 := ⟨by omega, by omega⟩
              obtain ⟨z395965, hz395965⟩ : ∃ z : Int32, z = g394972 + Int32.ofInt 1 := ⟨_, rfl⟩
              have ez395965 : z395965.toInt = g394972.toInt + 1 := gI_inc hz395965 (by decide) bg394972' (by decide) (by decide)
              have bz395965 : gB z395965 1 1000000 := ⟨by omega, by omega⟩
              refine G_iinc (L' := [(3, .int z395965), (5, .int g395934), (4, .ref q395033), (0, .ref q369826), (1, .int p369827), (2, .int p369828)]) z395965 2 dr_cX17_rename_144 rfl hz395965.symm (Nat.le_of_ble_eq_true rfl) rfl ?_
              refine G_goto 2 dr_cX17_rename_147 (by decide +kernel) ?_
              refine G_lv (L' := [(3, .int z395965), (0, .ref q369826), (1, .int p369827), (2, .int p369828)]) [0, 3, 4, 5] rfl ?_
              exact ih2_394978 F395935 z395965 (gB_w bz395965 (by decide) (by decide)) hT395936 hs395937 x395938 x395939 x395940 (mz_up ez395965 (Int.le_trans bg394972'.2 (by decide)) hm2_394978)
            · have r395966 : g395934.toInt ≤ p395951.toInt := gC_nlt hc395963
              have bg395934' : gB g395934 0 1000000 := ⟨by omega, by omega⟩
              refine G_iload 0 dr_cX17_rename_33 rfl ?_
              refine G_aload 1 dr_cX17_rename_35 rfl ?_
              refine Gp_get 0 hm395040 he395946 dr_cX17_rename_37 (gk_X12 D I) (Nat.le_of_ble_eq_true rfl) wr_9_220 rfl ?_
              refine Gw_callV (As := []) (gV_ok D I) (cp_7_ArrayList_size l hl0 D I P369824 F395935 q395042 p395950 q395952 p395951 hm395948 he395949 (gB_w bp395951 (by decide) (by decide))) dr_cX17_rename_40 ⟨wr_10_200, wr_1_18, wr_9_160, by decide, rfl, (Nat.le_of_ble_eq_true rfl), (Nat.le_of_ble_eq_true rfl)⟩ wr_9_158 wr_9_159 hm395948 he395949 rfl (show 0 + 0 ≤ 0 by first | omega | decide) (show 0 + 0 ≤ 0 by first | omega | decide) (Nat.le_of_ble_eq_true rfl) (fun r395970 w395971 dc395967 ds395968 hp395969 => ?_) (fun _ _ _ _ _ z => z.elim)
              obtain ⟨rfl, rfl, hdc, hds⟩ := hp395969
              change G _ _ _ _ _ _ _ (.int p395951 :: _) _ _ _
              refine G_widen (cs' := 0) (sl' := 0) (by omega) (by omega) ?_
              refine G_icmp_ge 62 dr_cX17_rename_43 (by decide +kernel) (fun hc395972 => ?_) (fun hc395972 => ?_)
              · have r395973 : p395951.toInt ≤ g395934.toInt := gC_le hc395972
                refine G_aload 1 dr_cX17_rename_62 rfl ?_
                refine Gp_get 1 hm395040 he395946 dr_cX17_rename_64 (gk_X12 D I) (Nat.le_of_ble_eq_true rfl) wr_9_223 rfl ?_
                have fl395976 : p395951.toInt = γ 2 q395042 := r395953
                have hp395974 : rAt γ el q369826 (g394972.toInt : Int).toNat (g395934.toInt : Int).toNat = q395043 := (rAt_e hb395061 ht395052.1 (by omega)).trans ht395052.2.1
                have hL395975 : (g395934.toInt : Int).toNat ≤ γ 2 (rwL γ el q369826 (g394972.toInt : Int).toNat) := by unfold rwL; rw [hb395061, ht395052.1]; omega
                have nb395977 : (g394972.toInt : Int).toNat < γ 6 (γ 1 q369826) := by omega
                have hm395978 : q395043 ∈ P369824 := RS_m hT395936 ht395048 (by decide)
                obtain ⟨p395980, p395981, p395982, p395983, p395984, p395985, p395986, he395979, bp395980, bp395981, bp395984, bp395985, bp395986, r395987, r395988, r395989, r395990, r395991⟩ := show rk_1 γ q395043 (F395935 q395043) from RS_o hT395936 ht395048
                have bp395982 := gB_any p395982
                have bp395983 := gB_any p395983
                refine G_astore (L' := [(6, .ref q395043), (5, .int g395934), (4, .ref q395033), (3, .int g394972), (0, .ref q369826), (1, .int p369827), (2, .int p369828)]) dr_cX17_rename_67 (Nat.le_of_ble_eq_true rfl) rfl ?_
                refine G_aload 0 dr_cX17_rename_69 rfl ?_
                refine Gw_callV (As := []) (gV_ok D I) (cp_1675_Row_usesA l hl0 D I P369824 F395935 q395043 p395980 p395981 p395982 p395983 p395984 p395985 p395986 hm395978 he395979 bp395980 bp395981 bp395984 bp395985 bp395986) dr_cX17_rename_71 ⟨wr_10_192, wr_1_39, wr_10_195, by decide, rfl, (Nat.le_of_ble_eq_true rfl), (Nat.le_of_ble_eq_true rfl)⟩ wr_10_193 wr_10_194 hm395978 he395979 rfl (show 0 + 0 ≤ 0 by first | omega | decide) (show 0 + 0 ≤ 0 by first | omega | decide) (Nat.le_of_ble_eq_true rfl) (fun r395995 w395996 dc395992 ds395993 hp395994 => ?_) (fun _ _ _ _ _ z => z.elim)
                obtain ⟨o395997, rfl, rfl, hdc, hds, bo395997, x395998, ht395999⟩ := hp395994
                change G _ _ _ _ _ _ _ (.int o395997 :: _) _ _ _
                refine G_widen (cs' := 0) (sl' := 0) (by omega) (by omega) ?_
                refine G_if_eq 92 dr_cX17_rename_74 (by decide +kernel) (fun hc396000 => ?_) (fun hc396000 => ?_)
                · have r396001 : o395997.toInt = 0 := gj_eq hc396000 (show Int32.toInt 0 = 0 by decide)
                  have bo395997' : gB o395997 0 0 := gB_t0 r396001
                  refine G_aload 0 dr_cX17_rename_92 rfl ?_
                  refine Gw_callV (As := []) (gV_ok D I) (cp_1699_Row_usesB l hl0 D I P369824 F395935 q395043 p395980 p395981 p395982 p395983 p395984 p395985 p395986 hm395978 he395979 bp395980 bp395981 bp395984 bp395985 bp395986) dr_cX17_rename_94 ⟨wr_10_196, wr_1_39, wr_10_199, by decide, rfl, (Nat.le_of_ble_eq_true rfl), (Nat.le_of_ble_eq_true rfl)⟩ wr_10_197 wr_10_198 hm395978 he395979 rfl (show 0 + 0 ≤ 0 by first | omega | decide) (show 0 + 0 ≤ 0 by first | omega | decide) (Nat.le_of_ble_eq_true rfl) (fun r396005 w396006 dc396002 ds396003 hp396004 => ?_) (fun _ _ _ _ _ z => z.elim)
                  obtain ⟨o396007, rfl, rfl, hdc, hds, bo396007, x396008, ht396009⟩ := hp396004
                  change G _ _ _ _ _ _ _ (.int o396007 :: _) _ _ _
                  refine G_widen (cs' := 0) (sl' := 0) (by omega) (by omega) ?_
                  refine G_if_eq 115 dr_cX17_rename_97 (by decide +kernel) (fun hc396010 => ?_) (fun hc396010 => ?_)
                  · have r396011 : o396007.toInt = 0 := gj_eq hc396010 (show Int32.toInt 0 = 0 by decide)
                    have bo396007' : gB o396007 0 0 := gB_t0 r396011
                    refine G_aload 0 dr_cX17_rename_115 rfl ?_
                    refine Gw_callV (As := []) (gV_ok D I) (cp_1660_Row_sets l hl0 D I P369824 F395935 q395043 p395980 p395981 p395982 p395983 p395984 p395985 p395986 hm395978 he395979 bp395980 bp395981 bp395984 bp395985 bp395986) dr_cX17_rename_117 ⟨wr_10_181, wr_1_39, wr_10_184, by decide, rfl, (Nat.le_of_ble_eq_true rfl), (Nat.le_of_ble_eq_true rfl)⟩ wr_10_182 wr_10_183 hm395978 he395979 rfl (show 0 + 0 ≤ 0 by first | omega | decide) (show 0 + 0 ≤ 0 by first | omega | decide) (Nat.le_of_ble_eq_true rfl) (fun r396015 w396016 dc396012 ds396013 hp396014 => ?_) (fun _ _ _ _ _ z => z.elim)
                    obtain ⟨o396017, rfl, rfl, hdc, hds, bo396017, ht396018⟩ := hp396014
                    change G _ _ _ _ _ _ _ (.int o396017 :: _) _ _ _
                    refine G_widen (cs' := 0) (sl' := 0) (by omega) (by omega) ?_
                    refine G_if_eq 138 dr_cX17_rename_120 (by decide +kernel) (fun hc396019 => ?_) (fun hc396019 => ?_)
                    · have r396020 : o396017.toInt = 0 := gj_eq hc396019 (show Int32.toInt 0 = 0 by decide)
                      have bo396017' : gB o396017 0 0 := gB_t0 r396020
                      obtain ⟨z396021, hz396021⟩ : ∃ z : Int32, z = g395934 + Int32.ofInt 1 := ⟨_, rfl⟩
                      have ez396021 : z396021.toInt = g395934.toInt + 1 := gI_inc hz396021 (by decide) bg395934' (by decide) (by decide)
                      have bz396021 : gB z396021 1 1000001 := ⟨by omega, by omega⟩
                      refine G_iinc (L' := [(5, .int z396021), (6, .ref q395043), (4, .ref q395033), (3, .int g394972), (0, .ref q369826), (1, .int p369827), (2, .int p369828)]) z396021 1 dr_cX17_rename_138 rfl hz396021.symm (Nat.le_of_ble_eq_true rfl) rfl ?_
                      refine G_goto 20 dr_cX17_rename_141 (by decide +kernel) ?_
                      refine G_lv (L' := [(5, .int z396021), (4, .ref q395033), (3, .int g394972), (0, .ref q369826), (1, .int p369827), (2, .int p369828)]) [0, 2, 3, 4, 5, 6] rfl ?_
                      exact ih20_395940 F395935 z396021 (gB_w bz396021 (by decide) (by decide)) hT395936 hs395937 x395938 x395939 x395940 (mz_up ez396021 (Int.le_trans bg395934'.2 (by decide)) hm20_395940)
                    · have r396022 : o396017.toInt ≠ 0 := gj_neq hc396019 (show Int32.toInt 0 = 0 by decide)
                      have bo396017' : gB o396017 1 1 := gB_t1 bo396017 r396022
                      refine G_aload 0 dr_cX17_rename_123 rfl ?_
                      refine Gp_get 1 hm395978 he395979 dr_cX17_rename_125 (gk_X15 D I) (Nat.le_of_ble_eq_true rfl) wr_9_182 rfl ?_
                      refine G_iload_n 5 dr_cX17_rename_128 rfl ?_
                      refine G_icmp_ne 138 dr_cX17_rename_129 (by decide +kernel) (fun hc396023 => ?_) (fun hc396023 => ?_)
                      · have r396024 : p395981.toInt ≠ p369827.toInt := gC_ne hc396023
                        obtain ⟨z396025, hz396025⟩ : ∃ z : Int32, z = g395934 + Int32.ofInt 1 := ⟨_, rfl⟩
                        have ez396025 : z396025.toInt = g395934.toInt + 1 := gI_inc hz396025 (by decide) bg395934' (by decide) (by decide)
                        have bz396025 : gB z396025 1 1000001 := ⟨by omega, by omega⟩
                        refine G_iinc (L' := [(5, .int z396025), (6, .ref q395043), (4, .ref q395033), (3, .int g394972), (0, .ref q369826), (1, .int p369827), (2, .int p369828)]) z396025 1 dr_cX17_rename_138 rfl hz396025.symm (Nat.le_of_ble_eq_true rfl) rfl ?_
                        refine G_goto 20 dr_cX17_rename_141 (by decide +kernel) ?_
                        refine G_lv (L' := [(5, .int z396025), (4, .ref q395033), (3, .int g394972), (0, .ref q369826), (1, .int p369827), (2, .int p369828)]) [0, 2, 3, 4, 5, 6] rfl ?_
                        exact ih20_395940 F395935 z396025 (gB_w bz396025 (by decide) (by decide)) hT395936 hs395937 x395938 x395939 x395940 (mz_up ez396025 (Int.le_trans bg395934'.2 (by decide)) hm20_395940)
                      · have r396026 : p395981.toInt = p369827.toInt := gC_eq hc396023
                        refine G_aload 0 dr_cX17_rename_132 rfl ?_
                        refine G_iload_n 6 dr_cX17_rename_134 rfl ?_
                        refine Gp_put 1 hm395978 he395979 dr_cX17_rename_135 (gk_X15 D I) (Nat.le_of_ble_eq_true rfl) wr_9_182 rfl rfl rfl (Nat.le_of_ble_eq_true rfl) (fun F396027 e396028 n396029 => ?_)
                        have he396030 : F396027 q369826 = .inr (18, [.ref q394984, .ref q394985, .int p394986, .int p394987]) := (n396029 q369826 (rn_oo he395943 he395979 (by decide))).trans he395943
                        have he396031 : F396027 q394984 = .inr (4, [.int p395014, .ref q395016, .int p395015]) := (n396029 q394984 (rn_oo he395944 he395979 (by decide))).trans he395944
                        have he396032 : F396027 q395016 = .inl (I (.object "java/lang/Object"), n395030, .inr (.inr (.inr (.inr f395031)))) := (n396029 q395016 (rn_ao he395945 he395979)).trans he395945
                        have he396033 : F396027 q395033 = .inr (17, [.ref q395042, .ref q395043, .int p395044, .int p395045]) := (n396029 q395033 (rn_oo he395946 he395979 (by decide))).trans he395946
                        have he396034 : F396027 q395042 = .inr (4, [.int p395950, .ref q395952, .int p395951]) := (n396029 q395042 (rn_oo he395949 he395979 (by decide))).trans he395949
                        have he396035 : F396027 q395043 = .inr (20, [.int p395980, .int p369828, .int p395982, .int p395983, .int p395984, .int p395985, .int p395986]) := e396028
                        have hs396036 : rStr γ [1] F369825 F396027 := rStr_pu2 hs395937 n396029 ht395048 (by decide)
                        have fs396037 : rFs γ (γ 1 q369826) F369825 F396027 := rFs_put x395940 n396029 ((show γ 1 q395043 = γ 1 q395033 from ht395049).trans ((show γ 1 q395033 = γ 1 q394984 from ht395039).trans (show γ 1 q394984 = γ 1 q369826 from ht394989)))
                        have fk396038 : rFk [1] γ F369825 F396027 := rFk_put x395939 n396029 ht395048 (by decide)
                        obtain ⟨z396039, hz396039⟩ : ∃ z : Int32, z = g395934 + Int32.ofInt 1 := ⟨_, rfl⟩
                        have ez396039 : z396039.toInt = g395934.toInt + 1 := gI_inc hz396039 (by decide) bg395934' (by decide) (by decide)
                        have bz396039 : gB z396039 1 1000001 := ⟨by omega, by omega⟩
                        refine G_iinc (L' := [(5, .int z396039), (6, .ref q395043), (4, .ref q395033), (3, .int g394972), (0, .ref q369826), (1, .int p369827), (2, .int p369828)]) z396039 1 dr_cX17_rename_138 rfl hz396039.symm (Nat.le_of_ble_eq_true rfl) rfl ?_
                        refine G_goto 20 dr_cX17_rename_141 (by decide +kernel) ?_
                        have hT396040 : RS D I P369824 F396027 γ el := RS_set hT395936 n396029 ht395048 (by decide) ⟨p395980, p369828, p395982, p395983, p395984, p395985, p395986, he396035, bp395980, bp369828, bp395984, bp395985, bp395986, r395987, r395988, r395989, r395990, r395991⟩
                        refine G_lv (L' := [(5, .int z396039), (4, .ref q395033), (3, .int g394972), (0, .ref q369826), (1, .int p369827), (2, .int p369828)]) [0, 2, 3, 4, 5, 6] rfl ?_
                        exact ih20_395940 F396027 z396039 (gB_w bz396039 (by decide) (by decide)) hT396040 hs396036 (fun N hv hu hp => rPl_put hT395936 htq369826 rfl (x395938 N hv hu hp) n396029 hp395974 nb395977 hL395975 (fun _ _ _ _ z => z) (rNx_ren he395979 he396035 hu hv (Or.inl rfl) (Or.inl rfl) (Or.inr ⟨rfl, by first | assumption | omega⟩) (by rw [← hp395974]; exact x395938 N hv hu hp _ nb395977 _ hL395975))) fk396038 fs396037 (mz_up ez396039 (Int.le_trans bg395934'.2 (by decide)) hm20_395940)
                  · have r396042 : o396007.toInt ≠ 0 := gj_neq hc396010 (show Int32.toInt 0 = 0 by decide)
                    have bo396007' : gB o396007 1 1 := gB_t1 bo396007 r396042
                    refine G_aload 0 dr_cX17_rename_100 rfl ?_
                    refine Gp_get 3 hm395978 he395979 dr_cX17_rename_102 (gk_X15 D I) (Nat.le_of_ble_eq_true rfl) wr_9_190 rfl ?_
                    refine G_iload_n 5 dr_cX17_rename_105 rfl ?_
                    refine G_icmp_ne 115 dr_cX17_rename_106 (by decide +kernel) (fun hc396043 => ?_) (fun hc396043 => ?_)
                    · have r396044 : p395983.toInt ≠ p369827.toInt := gC_ne hc396043
                      refine G_aload 0 dr_cX17_rename_115 rfl ?_
                      refine Gw_callV (As := []) (gV_ok D I) (cp_1660_Row_sets l hl0 D I P369824 F395935 q395043 p395980 p395981 p395982 p395983 p395984 p395985 p395986 hm395978 he395979 bp395980 bp395981 bp395984 bp395985 bp395986) dr_cX17_rename_117 ⟨wr_10_181, wr_1_39, wr_10_184, by decide, rfl, (Nat.le_of_ble_eq_true rfl), (Nat.le_of_ble_eq_true rfl)⟩ wr_10_182 wr_10_183 hm395978 he395979 rfl (show 0 + 0 ≤ 0 by first | omega | decide) (show 0 + 0 ≤ 0 by first | omega | decide) (Nat.le_of_ble_eq_true rfl) (fun r396048 w396049 dc396045 ds396046 hp396047 => ?_) (fun _ _ _ _ _ z => z.elim)
                      obtain ⟨o396050, rfl, rfl, hdc, hds, bo396050, ht396051⟩ := hp396047
                      change G _ _ _ _ _ _ _ (.int o396050 :: _) _ _ _
                      refine G_widen (cs' := 0) (sl' := 0) (by omega) (by omega) ?_
                      refine G_if_eq 138 dr_cX17_rename_120 (by decide +kernel) (fun hc396052 => ?_) (fun hc396052 => ?_)
                      · have r396053 : o396050.toInt = 0 := gj_eq hc396052 (show Int32.toInt 0 = 0 by decide)
                        have bo396050' : gB o396050 0 0 := gB_t0 r396053
                        obtain ⟨z396054, hz396054⟩ : ∃ z : Int32, z = g395934 + Int32.ofInt 1 := ⟨_, rfl⟩
                        have ez396054 : z396054.toInt = g395934.toInt + 1 := gI_inc hz396054 (by decide) bg395934' (by decide) (by decide)
                        have bz396054 : gB z396054 1 1000001 := ⟨by omega, by omega⟩
                        refine G_iinc (L' := [(5, .int z396054), (6, .ref q395043), (4, .ref q395033), (3, .int g394972), (0, .ref q369826), (1, .int p369827), (2, .int p369828)]) z396054 1 dr_cX17_rename_138 rfl hz396054.symm (Nat.le_of_ble_eq_true rfl) rfl ?_
                        refine G_goto 20 dr_cX17_rename_141 (by decide +kernel) ?_
                        refine G_lv (L' := [(5, .int z396054), (4, .ref q395033), (3, .int g394972), (0, .ref q369826), (1, .int p369827), (2, .int p369828)]) [0, 2, 3, 4, 5, 6] rfl ?_
                        exact ih20_395940 F395935 z396054 (gB_w bz396054 (by decide) (by decide)) hT395936 hs395937 x395938 x395939 x395940 (mz_up ez396054 (Int.le_trans bg395934'.2 (by decide)) hm20_395940)
                      · have r396055 : o396050.toInt ≠ 0 := gj_neq hc396052 (show Int32.toInt 0 = 0 by decide)
                        have bo396050' : gB o396050 1 1 := gB_t1 bo396050 r396055
                        refine G_aload 0 dr_cX17_rename_123 rfl ?_
                        refine Gp_get 1 hm395978 he395979 dr_cX17_rename_125 (gk_X15 D I) (Nat.le_of_ble_eq_true rfl) wr_9_182 rfl ?_
                        refine G_iload_n 5 dr_cX17_rename_128 rfl ?_
                        refine G_icmp_ne 138 dr_cX17_rename_129 (by decide +kernel) (fun hc396056 => ?_) (fun hc396056 => ?_)
                        · have r396057 : p395981.toInt ≠ p369827.toInt := gC_ne hc396056
                          obtain ⟨z396058, hz396058⟩ : ∃ z : Int32, z = g395934 + Int32.ofInt 1 := ⟨_, rfl⟩
                          have ez396058 : z396058.toInt = g395934.toInt + 1 := gI_inc hz396058 (by decide) bg395934' (by decide) (by decide)
                          have bz396058 : gB z396058 1 1000001 := ⟨by omega, by omega⟩
                          refine G_iinc (L' := [(5, .int z396058), (6, .ref q395043), (4, .ref q395033), (3, .int g394972), (0, .ref q369826), (1, .int p369827), (2, .int p369828)]) z396058 1 dr_cX17_rename_138 rfl hz396058.symm (Nat.le_of_ble_eq_true rfl) rfl ?_
                          refine G_goto 20 dr_cX17_rename_141 (by decide +kernel) ?_
                          refine G_lv (L' := [(5, .int z396058), (4, .ref q395033), (3, .int g394972), (0, .ref q369826), (1, .int p369827), (2, .int p369828)]) [0, 2, 3, 4, 5, 6] rfl ?_
                          exact ih20_395940 F395935 z396058 (gB_w bz396058 (by decide) (by decide)) hT395936 hs395937 x395938 x395939 x395940 (mz_up ez396058 (Int.le_trans bg395934'.2 (by decide)) hm20_395940)
                        · have r396059 : p395981.toInt = p369827.toInt := gC_eq hc396056
                          refine G_aload 0 dr_cX17_rename_132 rfl ?_
                          refine G_iload_n 6 dr_cX17_rename_134 rfl ?_
                          refine Gp_put 1 hm395978 he395979 dr_cX17_rename_135 (gk_X15 D I) (Nat.le_of_ble_eq_true rfl) wr_9_182 rfl rfl rfl (Nat.le_of_ble_eq_true rfl) (fun F396060 e396061 n396062 => ?_)
                          have he396063 : F396060 q369826 = .inr (18, [.ref q394984, .ref q394985, .int p394986, .int p394987]) := (n396062 q369826 (rn_oo he395943 he395979 (by decide))).trans he395943
                          have he396064 : F396060 q394984 = .inr (4, [.int p395014, .ref q395016, .int p395015]) := (n396062 q394984 (rn_oo he395944 he395979 (by decide))).trans he395944
                          have he396065 : F396060 q395016 = .inl (I (.object "java/lang/Object"), n395030, .inr (.inr (.inr (.inr f395031)))) := (n396062 q395016 (rn_ao he395945 he395979)).trans he395945
                          have he396066 : F396060 q395033 = .inr (17, [.ref q395042, .ref q395043, .int p395044, .int p395045]) := (n396062 q395033 (rn_oo he395946 he395979 (by decide))).trans he395946
                          have he396067 : F396060 q395042 = .inr (4, [.int p395950, .ref q395952, .int p395951]) := (n396062 q395042 (rn_oo he395949 he395979 (by decide))).trans he395949
                          have he396068 : F396060 q395043 = .inr (20, [.int p395980, .int p369828, .int p395982, .int p395983, .int p395984, .int p395985, .int p395986]) := e396061
                          have hs396069 : rStr γ [1] F369825 F396060 := rStr_pu2 hs395937 n396062 ht395048 (by decide)
                          have fs396070 : rFs γ (γ 1 q369826) F369825 F396060 := rFs_put x395940 n396062 ((show γ 1 q395043 = γ 1 q395033 from ht395049).trans ((show γ 1 q395033 = γ 1 q394984 from ht395039).trans (show γ 1 q394984 = γ 1 q369826 from ht394989)))
                          have fk396071 : rFk [1] γ F369825 F396060 := rFk_put x395939 n396062 ht395048 (by decide)
                          obtain ⟨z396072, hz396072⟩ : ∃ z : Int32, z = g395934 + Int32.ofInt 1 := ⟨_, rfl⟩
                          have ez396072 : z396072.toInt = g395934.toInt + 1 := gI_inc hz396072 (by decide) bg395934' (by decide) (by decide)
                          have bz396072 : gB z396072 1 1000001 := ⟨by omega, by omega⟩
                          refine G_iinc (L' := [(5, .int z396072), (6, .ref q395043), (4, .ref q395033), (3, .int g394972), (0, .ref q369826), (1, .int p369827), (2, .int p369828)]) z396072 1 dr_cX17_rename_138 rfl hz396072.symm (Nat.le_of_ble_eq_true rfl) rfl ?_
                          refine G_goto 20 dr_cX17_rename_141 (by decide +kernel) ?_
                          have hT396073 : RS D I P369824 F396060 γ el := RS_set hT395936 n396062 ht395048 (by decide) ⟨p395980, p369828, p395982, p395983, p395984, p395985, p395986, he396068, bp395980, bp369828, bp395984, bp395985, bp395986, r395987, r395988, r395989, r395990, r395991⟩
                          refine G_lv (L' := [(5, .int z396072), (4, .ref q395033), (3, .int g394972), (0, .ref q369826), (1, .int p369827), (2, .int p369828)]) [0, 2, 3, 4, 5, 6] rfl ?_
                          exact ih20_395940 F396060 z396072 (gB_w bz396072 (by decide) (by decide)) hT396073 hs396069 (fun N hv hu hp => rPl_put hT395936 htq369826 rfl (x395938 N hv hu hp) n396062 hp395974 nb395977 hL395975 (fun _ _ _ _ z => z) (rNx_ren he395979 he396068 hu hv (Or.inl rfl) (Or.inl rfl) (Or.inr ⟨rfl, by first | assumption | omega⟩) (by rw [← hp395974]; exact x395938 N hv hu hp _ nb395977 _ hL395975))) fk396071 fs396070 (mz_up ez396072 (Int.le_trans bg395934'.2 (by decide)) hm20_395940)
                    · have r396075 : p395983.toInt = p369827.toInt := gC_eq hc396043
                      have bp395983' : gB p395983 0 1999 := ⟨by omega, by omega⟩
                      refine G_aload 0 dr_cX17_rename_109 rfl ?_
                      refine G_iload_n 6 dr_cX17_rename_111 rfl ?_
                      refine Gp_put 3 hm395978 he395979 dr_cX17_rename_112 (gk_X15 D I) (Nat.le_of_ble_eq_true rfl) wr_9_190 rfl rfl rfl (Nat.le_of_ble_eq_true rfl) (fun F396076 e396077 n396078 => ?_)
                      have he396079 : F396076 q369826 = .inr (18, [.ref q394984, .ref q394985, .int p394986, .int p394987]) := (n396078 q369826 (rn_oo he395943 he395979 (by decide))).trans he395943
                      have he396080 : F396076 q394984 = .inr (4, [.int p395014, .ref q395016, .int p395015]) := (n396078 q394984 (rn_oo he395944 he395979 (by decide))).trans he395944
                      have he396081 : F396076 q395016 = .inl (I (.object "java/lang/Object"), n395030, .inr (.inr (.inr (.inr f395031)))) := (n396078 q395016 (rn_ao he395945 he395979)).trans he395945
                      have he396082 : F396076 q395033 = .inr (17, [.ref q395042, .ref q395043, .int p395044, .int p395045]) := (n396078 q395033 (rn_oo he395946 he395979 (by decide))).trans he395946
                      have he396083 : F396076 q395042 = .inr (4, [.int p395950, .ref q395952, .int p395951]) := (n396078 q395042 (rn_oo he395949 he395979 (by decide))).trans he395949
                      have he396084 : F396076 q395043 = .inr (20, [.int p395980, .int p395981, .int p395982, .int p369828, .int p395984, .int p395985, .int p395986]) := e396077
                      have hs396085 : rStr γ [1] F369825 F396076 := rStr_pu2 hs395937 n396078 ht395048 (by decide)
                      have fs396086 : rFs γ (γ 1 q369826) F369825 F396076 := rFs_put x395940 n396078 ((show γ 1 q395043 = γ 1 q395033 from ht395049).trans ((show γ 1 q395033 = γ 1 q394984 from ht395039).trans (show γ 1 q394984 = γ 1 q369826 from ht394989)))
                      have fk396087 : rFk [1] γ F369825 F396076 := rFk_put x395939 n396078 ht395048 (by decide)
                      refine G_aload 0 dr_cX17_rename_115 rfl ?_
                      have hT396088 : RS D I P369824 F396076 γ el := RS_set hT395936 n396078 ht395048 (by decide) ⟨p395980, p395981, p395982, p369828, p395984, p395985, p395986, he396084, bp395980, bp395981, bp395984, bp395985, bp395986, r395987, r395988, (Or.inr bp369828), r395990, r395991⟩
                      refine Gw_callV (As := []) (gV_ok D I) (cp_1660_Row_sets l hl0 D I P369824 F396076 q395043 p395980 p395981 p395982 p369828 p395984 p395985 p395986 hm395978 he396084 bp395980 bp395981 bp395984 bp395985 bp395986) dr_cX17_rename_117 ⟨wr_10_181, wr_1_39, wr_10_184, by decide, rfl, (Nat.le_of_ble_eq_true rfl), (Nat.le_of_ble_eq_true rfl)⟩ wr_10_182 wr_10_183 hm395978 he396084 rfl (show 0 + 0 ≤ 0 by first | omega | decide) (show 0 + 0 ≤ 0 by first | omega | decide) (Nat.le_of_ble_eq_true rfl) (fun r396093 w396094 dc396090 ds396091 hp396092 => ?_) (fun _ _ _ _ _ z => z.elim)
                      obtain ⟨o396095, rfl, rfl, hdc, hds, bo396095, ht396096⟩ := hp396092
                      change G _ _ _ _ _ _ _ (.int o396095 :: _) _ _ _
                      refine G_widen (cs' := 0) (sl' := 0) (by omega) (by omega) ?_
                      refine G_if_eq 138 dr_cX17_rename_120 (by decide +kernel) (fun hc396097 => ?_) (fun hc396097 => ?_)
                      · have r396098 : o396095.toInt = 0 := gj_eq hc396097 (show Int32.toInt 0 = 0 by decide)
                        have bo396095' : gB o396095 0 0 := gB_t0 r396098
                        obtain ⟨z396099, hz396099⟩ : ∃ z : Int32, z = g395934 + Int32.ofInt 1 := ⟨_, rfl⟩
                        have ez396099 : z396099.toInt = g395934.toInt + 1 := gI_inc hz396099 (by decide) bg395934' (by decide) (by decide)
                        have bz396099 : gB z396099 1 1000001 := ⟨by omega, by omega⟩
                        refine G_iinc (L' := [(5, .int z396099), (6, .ref q395043), (4, .ref q395033), (3, .int g394972), (0, .ref q369826), (1, .int p369827), (2, .int p369828)]) z396099 1 dr_cX17_rename_138 rfl hz396099.symm (Nat.le_of_ble_eq_true rfl) rfl ?_
                        refine G_goto 20 dr_cX17_rename_141 (by decide +kernel) ?_
                        refine G_lv (L' := [(5, .int z396099), (4, .ref q395033), (3, .int g394972), (0, .ref q369826), (1, .int p369827), (2, .int p369828)]) [0, 2, 3, 4, 5, 6] rfl ?_
                        exact ih20_395940 F396076 z396099 (gB_w bz396099 (by decide) (by decide)) hT396088 hs396085 (fun N hv hu hp => rPl_put hT395936 htq369826 rfl (x395938 N hv hu hp) n396078 hp395974 nb395977 hL395975 (fun _ _ _ _ z => z) (rNx_ren he395979 he396084 hu hv (Or.inl rfl) (Or.inr rfl) (Or.inl rfl) (by rw [← hp395974]; exact x395938 N hv hu hp _ nb395977 _ hL395975))) fk396087 fs396086 (mz_up ez396099 (Int.le_trans bg395934'.2 (by decide)) hm20_395940)
                      · have r396100 : o396095.toInt ≠ 0 := gj_neq hc396097 (show Int32.toInt 0 = 0 by decide)
                        have bo396095' : gB o396095 1 1 := gB_t1 bo396095 r396100
                        refine G_aload 0 dr_cX17_rename_123 rfl ?_
                        refine Gp_get 1 hm395978 he396084 dr_cX17_rename_125 (gk_X15 D I) (Nat.le_of_ble_eq_true rfl) wr_9_182 rfl ?_
                        refine G_iload_n 5 dr_cX17_rename_128 rfl ?_
                        refine G_icmp_ne 138 dr_cX17_rename_129 (by decide +kernel) (fun hc396101 => ?_) (fun hc396101 => ?_)
                        · have r396102 : p395981.toInt ≠ p369827.toInt := gC_ne hc396101
                          obtain ⟨z396103, hz396103⟩ : ∃ z : Int32, z = g395934 + Int32.ofInt 1 := ⟨_, rfl⟩
                          have ez396103 : z396103.toInt = g395934.toInt + 1 := gI_inc hz396103 (by decide) bg395934' (by decide) (by decide)
                          have bz396103 : gB z396103 1 1000001 := ⟨by omega, by omega⟩
                          refine G_iinc (L' := [(5, .int z396103), (6, .ref q395043), (4, .ref q395033), (3, .int g394972), (0, .ref q369826), (1, .int p369827), (2, .int p369828)]) z396103 1 dr_cX17_rename_138 rfl hz396103.symm (Nat.le_of_ble_eq_true rfl) rfl ?_
                          refine G_goto 20 dr_cX17_rename_141 (by decide +kernel) ?_
                          refine G_lv (L' := [(5, .int z396103), (4, .ref q395033), (3, .int g394972), (0, .ref q369826), (1, .int p369827), (2, .int p369828)]) [0, 2, 3, 4, 5, 6] rfl ?_
                          exact ih20_395940 F396076 z396103 (gB_w bz396103 (by decide) (by decide)) hT396088 hs396085 (fun N hv hu hp => rPl_put hT395936 htq369826 rfl (x395938 N hv hu hp) n396078 hp395974 nb395977 hL395975 (fun _ _ _ _ z => z) (rNx_ren he395979 he396084 hu hv (Or.inl rfl) (Or.inr rfl) (Or.inl rfl) (by rw [← hp395974]; exact x395938 N hv hu hp _ nb395977 _ hL395975))) fk396087 fs396086 (mz_up ez396103 (Int.le_trans bg395934'.2 (by decide)) hm20_395940)
                        · have r396104 : p395981.toInt = p369827.toInt := gC_eq hc396101
                          refine G_aload 0 dr_cX17_rename_132 rfl ?_
                          refine G_iload_n 6 dr_cX17_rename_134 rfl ?_
                          refine Gp_put 1 hm395978 he396084 dr_cX17_rename_135 (gk_X15 D I) (Nat.le_of_ble_eq_true rfl) wr_9_182 rfl rfl rfl (Nat.le_of_ble_eq_true rfl) (fun F396105 e396106 n396107 => ?_)
                          have he396108 : F396105 q369826 = .inr (18, [.ref q394984, .ref q394985, .int p394986, .int p394987]) := (n396107 q369826 (rn_oo he396079 he396084 (by decide))).trans he396079
                          have he396109 : F396105 q394984 = .inr (4, [.int p395014, .ref q395016, .int p395015]) := (n396107 q394984 (rn_oo he396080 he396084 (by decide))).trans he396080
                          have he396110 : F396105 q395016 = .inl (I (.object "java/lang/Object"), n395030, .inr (.inr (.inr (.inr f395031)))) := (n396107 q395016 (rn_ao he396081 he396084)).trans he396081
                          have he396111 : F396105 q395033 = .inr (17, [.ref q395042, .ref q395043, .int p395044, .int p395045]) := (n396107 q395033 (rn_oo he396082 he396084 (by decide))).trans he396082
                          have he396112 : F396105 q395042 = .inr (4, [.int p395950, .ref q395952, .int p395951]) := (n396107 q395042 (rn_oo he396083 he396084 (by decide))).trans he396083
                          have he396113 : F396105 q395043 = .inr (20, [.int p395980, .int p369828, .int p395982, .int p369828, .int p395984, .int p395985, .int p395986]) := e396106
                          have hs396114 : rStr γ [1] F369825 F396105 := rStr_pu2 hs396085 n396107 ht395048 (by decide)
                          have fs396115 : rFs γ (γ 1 q369826) F369825 F396105 := rFs_put fs396086 n396107 ((show γ 1 q395043 = γ 1 q395033 from ht395049).trans ((show γ 1 q395033 = γ 1 q394984 from ht395039).trans (show γ 1 q394984 = γ 1 q369826 from ht394989)))
                          have fk396116 : rFk [1] γ F369825 F396105 := rFk_put fk396087 n396107 ht395048 (by decide)
                          obtain ⟨z396117, hz396117⟩ : ∃ z : Int32, z = g395934 + Int32.ofInt 1 := ⟨_, rfl⟩
                          have ez396117 : z396117.toInt = g395934.toInt + 1 := gI_inc hz396117 (by decide) bg395934' (by decide) (by decide)
                          have bz396117 : gB z396117 1 1000001 := ⟨by omega, by omega⟩
                          refine G_iinc (L' := [(5, .int z396117), (6, .ref q395043), (4, .ref q395033), (3, .int g394972), (0, .ref q369826), (1, .int p369827), (2, .int p369828)]) z396117 1 dr_cX17_rename_138 rfl hz396117.symm (Nat.le_of_ble_eq_true rfl) rfl ?_
                          refine G_goto 20 dr_cX17_rename_141 (by decide +kernel) ?_
                          have hT396118 : RS D I P369824 F396105 γ el := RS_set hT396088 n396107 ht395048 (by decide) ⟨p395980, p369828, p395982, p369828, p395984, p395985, p395986, he396113, bp395980, bp369828, bp395984, bp395985, bp395986, r395987, r395988, (Or.inr bp369828), r395990, r395991⟩
                          have of396119 : ∀ b, b ≠ q395043 → F396105 b = F395935 b := fun b hb => (n396107 b hb).trans (n396078 b hb)
                          refine G_lv (L' := [(5, .int z396117), (4, .ref q395033), (3, .int g394972), (0, .ref q369826), (1, .int p369827), (2, .int p369828)]) [0, 2, 3, 4, 5, 6] rfl ?_
                          exact ih20_395940 F396105 z396117 (gB_w bz396117 (by decide) (by decide)) hT396118 hs396114 (fun N hv hu hp => rPl_put hT395936 htq369826 rfl (x395938 N hv hu hp) of396119 hp395974 nb395977 hL395975 (fun _ _ _ _ z => z) (rNx_ren he395979 he396113 hu hv (Or.inl rfl) (Or.inr rfl) (Or.inr ⟨rfl, by first | assumption | omega⟩) (by rw [← hp395974]; exact x395938 N hv hu hp _ nb395977 _ hL395975))) fk396116 fs396115 (mz_up ez396117 (Int.le_trans bg395934'.2 (by decide)) hm20_395940)
                · have r396120 : o395997.toInt ≠ 0 := gj_neq hc396000 (show Int32.toInt 0 = 0 by decide)
                  have bo395997' : gB o395997 1 1 := gB_t1 bo395997 r396120
                  refine G_aload 0 dr_cX17_rename_77 rfl ?_
                  refine Gp_get 2 hm395978 he395979 dr_cX17_rename_79 (gk_X15 D I) (Nat.le_of_ble_eq_true rfl) wr_9_186 rfl ?_
                  refine G_iload_n 5 dr_cX17_rename_82 rfl ?_
                  refine G_icmp_ne 92 dr_cX17_rename_83 (by decide +kernel) (fun hc396121 => ?_) (fun hc396121 => ?_)
                  · have r396122 : p395982.toInt ≠ p369827.toInt := gC_ne hc396121
                    refine G_aload 0 dr_cX17_rename_92 rfl ?_
                    refine Gw_callV (As := []) (gV_ok D I) (cp_1699_Row_usesB l hl0 D I P369824 F395935 q395043 p395980 p395981 p395982 p395983 p395984 p395985 p395986 hm395978 he395979 bp395980 bp395981 bp395984 bp395985 bp395986) dr_cX17_rename_94 ⟨wr_10_196, wr_1_39, wr_10_199, by decide, rfl, (Nat.le_of_ble_eq_true rfl), (Nat.le_of_ble_eq_true rfl)⟩ wr_10_197 wr_10_198 hm395978 he395979 rfl (show 0 + 0 ≤ 0 by first | omega | decide) (show 0 + 0 ≤ 0 by first | omega | decide) (Nat.le_of_ble_eq_true rfl) (fun r396126 w396127 dc396123 ds396124 hp396125 => ?_) (fun _ _ _ _ _ z => z.elim)
                    obtain ⟨o396128, rfl, rfl, hdc, hds, bo396128, x396129, ht396130⟩ := hp396125
                    change G _ _ _ _ _ _ _ (.int o396128 :: _) _ _ _
                    refine G_widen (cs' := 0) (sl' := 0) (by omega) (by omega) ?_
                    refine G_if_eq 115 dr_cX17_rename_97 (by decide +kernel) (fun hc396131 => ?_) (fun hc396131 => ?_)
                    · have r396132 : o396128.toInt = 0 := gj_eq hc396131 (show Int32.toInt 0 = 0 by decide)
                      have bo396128' : gB o396128 0 0 := gB_t0 r396132
                      refine G_aload 0 dr_cX17_rename_115 rfl ?_
                      refine Gw_callV (As := []) (gV_ok D I) (cp_1660_Row_sets l hl0 D I P369824 F395935 q395043 p395980 p395981 p395982 p395983 p395984 p395985 p395986 hm395978 he395979 bp395980 bp395981 bp395984 bp395985 bp395986) dr_cX17_rename_117 ⟨wr_10_181, wr_1_39, wr_10_184, by decide, rfl, (Nat.le_of_ble_eq_true rfl), (Nat.le_of_ble_eq_true rfl)⟩ wr_10_182 wr_10_183 hm395978 he395979 rfl (show 0 + 0 ≤ 0 by first | omega | decide) (show 0 + 0 ≤ 0 by first | omega | decide) (Nat.le_of_ble_eq_true rfl) (fun r396136 w396137 dc396133 ds396134 hp396135 => ?_) (fun _ _ _ _ _ z => z.elim)
                      obtain ⟨o396138, rfl, rfl, hdc, hds, bo396138, ht396139⟩ := hp396135
                      change G _ _ _ _ _ _ _ (.int o396138 :: _) _ _ _
                      refine G_widen (cs' := 0) (sl' := 0) (by omega) (by omega) ?_
                      refine G_if_eq 138 dr_cX17_rename_120 (by decide +kernel) (fun hc396140 => ?_) (fun hc396140 => ?_)
                      · have r396141 : o396138.toInt = 0 := gj_eq hc396140 (show Int32.toInt 0 = 0 by decide)
                        have bo396138' : gB o396138 0 0 := gB_t0 r396141
                        obtain ⟨z396142, hz396142⟩ : ∃ z : Int32, z = g395934 + Int32.ofInt 1 := ⟨_, rfl⟩
                        have ez396142 : z396142.toInt = g395934.toInt + 1 := gI_inc hz396142 (by decide) bg395934' (by decide) (by decide)
                        have bz396142 : gB z396142 1 1000001 := ⟨by omega, by omega⟩
                        refine G_iinc (L' := [(5, .int z396142), (6, .ref q395043), (4, .ref q395033), (3, .int g394972), (0, .ref q369826), (1, .int p369827), (2, .int p369828)]) z396142 1 dr_cX17_rename_138 rfl hz396142.symm (Nat.le_of_ble_eq_true rfl) rfl ?_
                        refine G_goto 20 dr_cX17_rename_141 (by decide +kernel) ?_
                        refine G_lv (L' := [(5, .int z396142), (4, .ref q395033), (3, .int g394972), (0, .ref q369826), (1, .int p369827), (2, .int p369828)]) [0, 2, 3, 4, 5, 6] rfl ?_
                        exact ih20_395940 F395935 z396142 (gB_w bz396142 (by decide) (by decide)) hT395936 hs395937 x395938 x395939 x395940 (mz_up ez396142 (Int.le_trans bg395934'.2 (by decide)) hm20_395940)
                      · have r396143 : o396138.toInt ≠ 0 := gj_neq hc396140 (show Int32.toInt 0 = 0 by decide)
                        have bo396138' : gB o396138 1 1 := gB_t1 bo396138 r396143
                        refine G_aload 0 dr_cX17_rename_123 rfl ?_
                        refine Gp_get 1 hm395978 he395979 dr_cX17_rename_125 (gk_X15 D I) (Nat.le_of_ble_eq_true rfl) wr_9_182 rfl ?_
                        refine G_iload_n 5 dr_cX17_rename_128 rfl ?_
                        refine G_icmp_ne 138 dr_cX17_rename_129 (by decide +kernel) (fun hc396144 => ?_) (fun hc396144 => ?_)
                        · have r396145 : p395981.toInt ≠ p369827.toInt := gC_ne hc396144
                          obtain ⟨z396146, hz396146⟩ : ∃ z : Int32, z = g395934 + Int32.ofInt 1 := ⟨_, rfl⟩
                          have ez396146 : z396146.toInt = g395934.toInt + 1 := gI_inc hz396146 (by decide) bg395934' (by decide) (by decide)
                          have bz396146 : gB z396146 1 1000001 := ⟨by omega, by omega⟩
                          refine G_iinc (L' := [(5, .int z396146), (6, .ref q395043), (4, .ref q395033), (3, .int g394972), (0, .ref q369826), (1, .int p369827), (2, .int p369828)]) z396146 1 dr_cX17_rename_138 rfl hz396146.symm (Nat.le_of_ble_eq_true rfl) rfl ?_
                          refine G_goto 20 dr_cX17_rename_141 (by decide +kernel) ?_
                          refine G_lv (L' := [(5, .int z396146), (4, .ref q395033), (3, .int g394972), (0, .ref q369826), (1, .int p369827), (2, .int p369828)]) [0, 2, 3, 4, 5, 6] rfl ?_
                          exact ih20_395940 F395935 z396146 (gB_w bz396146 (by decide) (by decide)) hT395936 hs395937 x395938 x395939 x395940 (mz_up ez396146 (Int.le_trans bg395934'.2 (by decide)) hm20_395940)
                        · have r396147 : p395981.toInt = p369827.toInt := gC_eq hc396144
                          refine G_aload 0 dr_cX17_rename_132 rfl ?_
                          refine G_iload_n 6 dr_cX17_rename_134 rfl ?_
                          refine Gp_put 1 hm395978 he395979 dr_cX17_rename_135 (gk_X15 D I) (Nat.le_of_ble_eq_true rfl) wr_9_182 rfl rfl rfl (Nat.le_of_ble_eq_true rfl) (fun F396148 e396149 n396150 => ?_)
                          have he396151 : F396148 q369826 = .inr (18, [.ref q394984, .ref q394985, .int p394986, .int p394987]) := (n396150 q369826 (rn_oo he395943 he395979 (by decide))).trans he395943
                          have he396152 : F396148 q394984 = .inr (4, [.int p395014, .ref q395016, .int p395015]) := (n396150 q394984 (rn_oo he395944 he395979 (by decide))).trans he395944
                          have he396153 : F396148 q395016 = .inl (I (.object "java/lang/Object"), n395030, .inr (.inr (.inr (.inr f395031)))) := (n396150 q395016 (rn_ao he395945 he395979)).trans he395945
                          have he396154 : F396148 q395033 = .inr (17, [.ref q395042, .ref q395043, .int p395044, .int p395045]) := (n396150 q395033 (rn_oo he395946 he395979 (by decide))).trans he395946
                          have he396155 : F396148 q395042 = .inr (4, [.int p395950, .ref q395952, .int p395951]) := (n396150 q395042 (rn_oo he395949 he395979 (by decide))).trans he395949
                          have he396156 : F396148 q395043 = .inr (20, [.int p395980, .int p369828, .int p395982, .int p395983, .int p395984, .int p395985, .int p395986]) := e396149
                          have hs396157 : rStr γ [1] F369825 F396148 := rStr_pu2 hs395937 n396150 ht395048 (by decide)
                          have fs396158 : rFs γ (γ 1 q369826) F369825 F396148 := rFs_put x395940 n396150 ((show γ 1 q395043 = γ 1 q395033 from ht395049).trans ((show γ 1 q395033 = γ 1 q394984 from ht395039).trans (show γ 1 q394984 = γ 1 q369826 from ht394989)))
                          have fk396159 : rFk [1] γ F369825 F396148 := rFk_put x395939 n396150 ht395048 (by decide)
                          obtain ⟨z396160, hz396160⟩ : ∃ z : Int32, z = g395934 + Int32.ofInt 1 := ⟨_, rfl⟩
                          have ez396160 : z396160.toInt = g395934.toInt + 1 := gI_inc hz396160 (by decide) bg395934' (by decide) (by decide)
                          have bz396160 : gB z396160 1 1000001 := ⟨by omega, by omega⟩
                          refine G_iinc (L' := [(5, .int z396160), (6, .ref q395043), (4, .ref q395033), (3, .int g394972), (0, .ref q369826), (1, .int p369827), (2, .int p369828)]) z396160 1 dr_cX17_rename_138 rfl hz396160.symm (Nat.le_of_ble_eq_true rfl) rfl ?_
                          refine G_goto 20 dr_cX17_rename_141 (by decide +kernel) ?_
                          have hT396161 : RS D I P369824 F396148 γ el := RS_set hT395936 n396150 ht395048 (by decide) ⟨p395980, p369828, p395982, p395983, p395984, p395985, p395986, he396156, bp395980, bp369828, bp395984, bp395985, bp395986, r395987, r395988, r395989, r395990, r395991⟩
                          refine G_lv (L' := [(5, .int z396160), (4, .ref q395033), (3, .int g394972), (0, .ref q369826), (1, .int p369827), (2, .int p369828)]) [0, 2, 3, 4, 5, 6] rfl ?_
                          exact ih20_395940 F396148 z396160 (gB_w bz396160 (by decide) (by decide)) hT396161 hs396157 (fun N hv hu hp => rPl_put hT395936 htq369826 rfl (x395938 N hv hu hp) n396150 hp395974 nb395977 hL395975 (fun _ _ _ _ z => z) (rNx_ren he395979 he396156 hu hv (Or.inl rfl) (Or.inl rfl) (Or.inr ⟨rfl, by first | assumption | omega⟩) (by rw [← hp395974]; exact x395938 N hv hu hp _ nb395977 _ hL395975))) fk396159 fs396158 (mz_up ez396160 (Int.le_trans bg395934'.2 (by decide)) hm20_395940)
                    · have r396163 : o396128.toInt ≠ 0 := gj_neq hc396131 (show Int32.toInt 0 = 0 by decide)
                      have bo396128' : gB o396128 1 1 := gB_t1 bo396128 r396163
                      refine G_aload 0 dr_cX17_rename_100 rfl ?_
                      refine Gp_get 3 hm395978 he395979 dr_cX17_rename_102 (gk_X15 D I) (Nat.le_of_ble_eq_true rfl) wr_9_190 rfl ?_
                      refine G_iload_n 5 dr_cX17_rename_105 rfl ?_
                      refine G_icmp_ne 115 dr_cX17_rename_106 (by decide +kernel) (fun hc396164 => ?_) (fun hc396164 => ?_)
                      · have r396165 : p395983.toInt ≠ p369827.toInt := gC_ne hc396164
                        refine G_aload 0 dr_cX17_rename_115 rfl ?_
                        refine Gw_callV (As := []) (gV_ok D I) (cp_1660_Row_sets l hl0 D I P369824 F395935 q395043 p395980 p395981 p395982 p395983 p395984 p395985 p395986 hm395978 he395979 bp395980 bp395981 bp395984 bp395985 bp395986) dr_cX17_rename_117 ⟨wr_10_181, wr_1_39, wr_10_184, by decide, rfl, (Nat.le_of_ble_eq_true rfl), (Nat.le_of_ble_eq_true rfl)⟩ wr_10_182 wr_10_183 hm395978 he395979 rfl (show 0 + 0 ≤ 0 by first | omega | decide) (show 0 + 0 ≤ 0 by first | omega | decide) (Nat.le_of_ble_eq_true rfl) (fun r396169 w396170 dc396166 ds396167 hp396168 => ?_) (fun _ _ _ _ _ z => z.elim)
                        obtain ⟨o396171, rfl, rfl, hdc, hds, bo396171, ht396172⟩ := hp396168
                        change G _ _ _ _ _ _ _ (.int o396171 :: _) _ _ _
                        refine G_widen (cs' := 0) (sl' := 0) (by omega) (by omega) ?_
                        refine G_if_eq 138 dr_cX17_rename_120 (by decide +kernel) (fun hc396173 => ?_) (fun hc396173 => ?_)
                        · have r396174 : o396171.toInt = 0 := gj_eq hc396173 (show Int32.toInt 0 = 0 by decide)
                          have bo396171' : gB o396171 0 0 := gB_t0 r396174
                          obtain ⟨z396175, hz396175⟩ : ∃ z : Int32, z = g395934 + Int32.ofInt 1 := ⟨_, rfl⟩
                          have ez396175 : z396175.toInt = g395934.toInt + 1 := gI_inc hz396175 (by decide) bg395934' (by decide) (by decide)
                          have bz396175 : gB z396175 1 1000001 := ⟨by omega, by omega⟩
                          refine G_iinc (L' := [(5, .int z396175), (6, .ref q395043), (4, .ref q395033), (3, .int g394972), (0, .ref q369826), (1, .int p369827), (2, .int p369828)]) z396175 1 dr_cX17_rename_138 rfl hz396175.symm (Nat.le_of_ble_eq_true rfl) rfl ?_
                          refine G_goto 20 dr_cX17_rename_141 (by decide +kernel) ?_
                          refine G_lv (L' := [(5, .int z396175), (4, .ref q395033), (3, .int g394972), (0, .ref q369826), (1, .int p369827), (2, .int p369828)]) [0, 2, 3, 4, 5, 6] rfl ?_
                          exact ih20_395940 F395935 z396175 (gB_w bz396175 (by decide) (by decide)) hT395936 hs395937 x395938 x395939 x395940 (mz_up ez396175 (Int.le_trans bg395934'.2 (by decide)) hm20_395940)
                        · have r396176 : o396171.toInt ≠ 0 := gj_neq hc396173 (show Int32.toInt 0 = 0 by decide)
                          have bo396171' : gB o396171 1 1 := gB_t1 bo396171 r396176
                          refine G_aload 0 dr_cX17_rename_123 rfl ?_
                          refine Gp_get 1 hm395978 he395979 dr_cX17_rename_125 (gk_X15 D I) (Nat.le_of_ble_eq_true rfl) wr_9_182 rfl ?_
                          refine G_iload_n 5 dr_cX17_rename_128 rfl ?_
                          refine G_icmp_ne 138 dr_cX17_rename_129 (by decide +kernel) (fun hc396177 => ?_) (fun hc396177 => ?_)
                          · have r396178 : p395981.toInt ≠ p369827.toInt := gC_ne hc396177
                            obtain ⟨z396179, hz396179⟩ : ∃ z : Int32, z = g395934 + Int32.ofInt 1 := ⟨_, rfl⟩
                            have ez396179 : z396179.toInt = g395934.toInt + 1 := gI_inc hz396179 (by decide) bg395934' (by decide) (by decide)
                            have bz396179 : gB z396179 1 1000001 := ⟨by omega, by omega⟩
                            refine G_iinc (L' := [(5, .int z396179), (6, .ref q395043), (4, .ref q395033), (3, .int g394972), (0, .ref q369826), (1, .int p369827), (2, .int p369828)]) z396179 1 dr_cX17_rename_138 rfl hz396179.symm (Nat.le_of_ble_eq_true rfl) rfl ?_
                            refine G_goto 20 dr_cX17_rename_141 (by decide +kernel) ?_
                            refine G_lv (L' := [(5, .int z396179), (4, .ref q395033), (3, .int g394972), (0, .ref q369826), (1, .int p369827), (2, .int p369828)]) [0, 2, 3, 4, 5, 6] rfl ?_
                            exact ih20_395940 F395935 z396179 (gB_w bz396179 (by decide) (by decide)) hT395936 hs395937 x395938 x395939 x395940 (mz_up ez396179 (Int.le_trans bg395934'.2 (by decide)) hm20_395940)
                          · have r396180 : p395981.toInt = p369827.toInt := gC_eq hc396177
                            refine G_aload 0 dr_cX17_rename_132 rfl ?_
                            refine G_iload_n 6 dr_cX17_rename_134 rfl ?_
                            refine Gp_put 1 hm395978 he395979 dr_cX17_rename_135 (gk_X15 D I) (Nat.le_of_ble_eq_true rfl) wr_9_182 rfl rfl rfl (Nat.le_of_ble_eq_true rfl) (fun F396181 e396182 n396183 => ?_)
                            have he396184 : F396181 q369826 = .inr (18, [.ref q394984, .ref q394985, .int p394986, .int p394987]) := (n396183 q369826 (rn_oo he395943 he395979 (by decide))).trans he395943
                            have he396185 : F396181 q394984 = .inr (4, [.int p395014, .ref q395016, .int p395015]) := (n396183 q394984 (rn_oo he395944 he395979 (by decide))).trans he395944
                            have he396186 : F396181 q395016 = .inl (I (.object "java/lang/Object"), n395030, .inr (.inr (.inr (.inr f395031)))) := (n396183 q395016 (rn_ao he395945 he395979)).trans he395945
                            have he396187 : F396181 q395033 = .inr (17, [.ref q395042, .ref q395043, .int p395044, .int p395045]) := (n396183 q395033 (rn_oo he395946 he395979 (by decide))).trans he395946
                            have he396188 : F396181 q395042 = .inr (4, [.int p395950, .ref q395952, .int p395951]) := (n396183 q395042 (rn_oo he395949 he395979 (by decide))).trans he395949
                            have he396189 : F396181 q395043 = .inr (20, [.int p395980, .int p369828, .int p395982, .int p395983, .int p395984, .int p395985, .int p395986]) := e396182
                            have hs396190 : rStr γ [1] F369825 F396181 := rStr_pu2 hs395937 n396183 ht395048 (by decide)
                            have fs396191 : rFs γ (γ 1 q369826) F369825 F396181 := rFs_put x395940 n396183 ((show γ 1 q395043 = γ 1 q395033 from ht395049).trans ((show γ 1 q395033 = γ 1 q394984 from ht395039).trans (show γ 1 q394984 = γ 1 q369826 from ht394989)))
                            have fk396192 : rFk [1] γ F369825 F396181 := rFk_put x395939 n396183 ht395048 (by decide)
                            obtain ⟨z396193, hz396193⟩ : ∃ z : Int32, z = g395934 + Int32.ofInt 1 := ⟨_, rfl⟩
                            have ez396193 : z396193.toInt = g395934.toInt + 1 := gI_inc hz396193 (by decide) bg395934' (by decide) (by decide)
                            have bz396193 : gB z396193 1 1000001 := ⟨by omega, by omega⟩
                            refine G_iinc (L' := [(5, .int z396193), (6, .ref q395043), (4, .ref q395033), (3, .int g394972), (0, .ref q369826), (1, .int p369827), (2, .int p369828)]) z396193 1 dr_cX17_rename_138 rfl hz396193.symm (Nat.le_of_ble_eq_true rfl) rfl ?_
                            refine G_goto 20 dr_cX17_rename_141 (by decide +kernel) ?_
                            have hT396194 : RS D I P369824 F396181 γ el := RS_set hT395936 n396183 ht395048 (by decide) ⟨p395980, p369828, p395982, p395983, p395984, p395985, p395986, he396189, bp395980, bp369828, bp395984, bp395985, bp395986, r395987, r395988, r395989, r395990, r395991⟩
                            refine G_lv (L' := [(5, .int z396193), (4, .ref q395033), (3, .int g394972), (0, .ref q369826), (1, .int p369827), (2, .int p369828)]) [0, 2, 3, 4, 5, 6] rfl ?_
                            exact ih20_395940 F396181 z396193 (gB_w bz396193 (by decide) (by decide)) hT396194 hs396190 (fun N hv hu hp => rPl_put hT395936 htq369826 rfl (x395938 N hv hu hp) n396183 hp395974 nb395977 hL395975 (fun _ _ _ _ z => z) (rNx_ren he395979 he396189 hu hv (Or.inl rfl) (Or.inl rfl) (Or.inr ⟨rfl, by first | assumption | omega⟩) (by rw [← hp395974]; exact x395938 N hv hu hp _ nb395977 _ hL395975))) fk396192 fs396191 (mz_up ez396193 (Int.le_trans bg395934'.2 (by decide)) hm20_395940)
                      · have r396196 : p395983.toInt = p369827.toInt := gC_eq hc396164
                        have bp395983' : gB p395983 0 1999 := ⟨by omega, by omega⟩
                        refine G_aload 0 dr_cX17_rename_109 rfl ?_
                        refine G_iload_n 6 dr_cX17_rename_111 rfl ?_
                        refine Gp_put 3 hm395978 he395979 dr_cX17_rename_112 (gk_X15 D I) (Nat.le_of_ble_eq_true rfl) wr_9_190 rfl rfl rfl (Nat.le_of_ble_eq_true rfl) (fun F396197 e396198 n396199 => ?_)
                        have he396200 : F396197 q369826 = .inr (18, [.ref q394984, .ref q394985, .int p394986, .int p394987]) := (n396199 q369826 (rn_oo he395943 he395979 (by decide))).trans he395943
                        have he396201 : F396197 q394984 = .inr (4, [.int p395014, .ref q395016, .int p395015]) := (n396199 q394984 (rn_oo he395944 he395979 (by decide))).trans he395944
                        have he396202 : F396197 q395016 = .inl (I (.object "java/lang/Object"), n395030, .inr (.inr (.inr (.inr f395031)))) := (n396199 q395016 (rn_ao he395945 he395979)).trans he395945
                        have he396203 : F396197 q395033 = .inr (17, [.ref q395042, .ref q395043, .int p395044, .int p395045]) := (n396199 q395033 (rn_oo he395946 he395979 (by decide))).trans he395946
                        have he396204 : F396197 q395042 = .inr (4, [.int p395950, .ref q395952, .int p395951]) := (n396199 q395042 (rn_oo he395949 he395979 (by decide))).trans he395949
                        have he396205 : F396197 q395043 = .inr (20, [.int p395980, .int p395981, .int p395982, .int p369828, .int p395984, .int p395985, .int p395986]) := e396198
                        have hs396206 : rStr γ [1] F369825 F396197 := rStr_pu2 hs395937 n396199 ht395048 (by decide)
                        have fs396207 : rFs γ (γ 1 q369826) F369825 F396197 := rFs_put x395940 n396199 ((show γ 1 q395043 = γ 1 q395033 from ht395049).trans ((show γ 1 q395033 = γ 1 q394984 from ht395039).trans (show γ 1 q394984 = γ 1 q369826 from ht394989)))
                        have fk396208 : rFk [1] γ F369825 F396197 := rFk_put x395939 n396199 ht395048 (by decide)
                        refine G_aload 0 dr_cX17_rename_115 rfl ?_
                        have hT396209 : RS D I P369824 F396197 γ el := RS_set hT395936 n396199 ht395048 (by decide) ⟨p395980, p395981, p395982, p369828, p395984, p395985, p395986, he396205, bp395980, bp395981, bp395984, bp395985, bp395986, r395987, r395988, (Or.inr bp369828), r395990, r395991⟩
                        refine Gw_callV (As := []) (gV_ok D I) (cp_1660_Row_sets l hl0 D I P369824 F396197 q395043 p395980 p395981 p395982 p369828 p395984 p395985 p395986 hm395978 he396205 bp395980 bp395981 bp395984 bp395985 bp395986) dr_cX17_rename_117 ⟨wr_10_181, wr_1_39, wr_10_184, by decide, rfl, (Nat.le_of_ble_eq_true rfl), (Nat.le_of_ble_eq_true rfl)⟩ wr_10_182 wr_10_183 hm395978 he396205 rfl (show 0 + 0 ≤ 0 by first | omega | decide) (show 0 + 0 ≤ 0 by first | omega | decide) (Nat.le_of_ble_eq_true rfl) (fun r396214 w396215 dc396211 ds396212 hp396213 => ?_) (fun _ _ _ _ _ z => z.elim)
                        obtain ⟨o396216, rfl, rfl, hdc, hds, bo396216, ht396217⟩ := hp396213
                        change G _ _ _ _ _ _ _ (.int o396216 :: _) _ _ _
                        refine G_widen (cs' := 0) (sl' := 0) (by omega) (by omega) ?_
                        refine G_if_eq 138 dr_cX17_rename_120 (by decide +kernel) (fun hc396218 => ?_) (fun hc396218 => ?_)
                        · have r396219 : o396216.toInt = 0 := gj_eq hc396218 (show Int32.toInt 0 = 0 by decide)
                          have bo396216' : gB o396216 0 0 := gB_t0 r396219
                          obtain ⟨z396220, hz396220⟩ : ∃ z : Int32, z = g395934 + Int32.ofInt 1 := ⟨_, rfl⟩
                          have ez396220 : z396220.toInt = g395934.toInt + 1 := gI_inc hz396220 (by decide) bg395934' (by decide) (by decide)
                          have bz396220 : gB z396220 1 1000001 := ⟨by omega, by omega⟩
                          refine G_iinc (L' := [(5, .int z396220), (6, .ref q395043), (4, .ref q395033), (3, .int g394972), (0, .ref q369826), (1, .int p369827), (2, .int p369828)]) z396220 1 dr_cX17_rename_138 rfl hz396220.symm (Nat.le_of_ble_eq_true rfl) rfl ?_
                          refine G_goto 20 dr_cX17_rename_141 (by decide +kernel) ?_
                          refine G_lv (L' := [(5, .int z396220), (4, .ref q395033), (3, .int g394972), (0, .ref q369826), (1, .int p369827), (2, .int p369828)]) [0, 2, 3, 4, 5, 6] rfl ?_
                          exact ih20_395940 F396197 z396220 (gB_w bz396220 (by decide) (by decide)) hT396209 hs396206 (fun N hv hu hp => rPl_put hT395936 htq369826 rfl (x395938 N hv hu hp) n396199 hp395974 nb395977 hL395975 (fun _ _ _ _ z => z) (rNx_ren he395979 he396205 hu hv (Or.inl rfl) (Or.inr rfl) (Or.inl rfl) (by rw [← hp395974]; exact x395938 N hv hu hp _ nb395977 _ hL395975))) fk396208 fs396207 (mz_up ez396220 (Int.le_trans bg395934'.2 (by decide)) hm20_395940)
                        · have r396221 : o396216.toInt ≠ 0 := gj_neq hc396218 (show Int32.toInt 0 = 0 by decide)
                          have bo396216' : gB o396216 1 1 := gB_t1 bo396216 r396221
                          refine G_aload 0 dr_cX17_rename_123 rfl ?_
                          refine Gp_get 1 hm395978 he396205 dr_cX17_rename_125 (gk_X15 D I) (Nat.le_of_ble_eq_true rfl) wr_9_182 rfl ?_
                          refine G_iload_n 5 dr_cX17_rename_128 rfl ?_
                          refine G_icmp_ne 138 dr_cX17_rename_129 (by decide +kernel) (fun hc396222 => ?_) (fun hc396222 => ?_)
                          · have r396223 : p395981.toInt ≠ p369827.toInt := gC_ne hc396222
                            obtain ⟨z396224, hz396224⟩ : ∃ z : Int32, z = g395934 + Int32.ofInt 1 := ⟨_, rfl⟩
                            have ez396224 : z396224.toInt = g395934.toInt + 1 := gI_inc hz396224 (by decide) bg395934' (by decide) (by decide)
                            have bz396224 : gB z396224 1 1000001 := ⟨by omega, by omega⟩
                            refine G_iinc (L' := [(5, .int z396224), (6, .ref q395043), (4, .ref q395033), (3, .int g394972), (0, .ref q369826), (1, .int p369827), (2, .int p369828)]) z396224 1 dr_cX17_rename_138 rfl hz396224.symm (Nat.le_of_ble_eq_true rfl) rfl ?_
                            refine G_goto 20 dr_cX17_rename_141 (by decide +kernel) ?_
                            refine G_lv (L' := [(5, .int z396224), (4, .ref q395033), (3, .int g394972), (0, .ref q369826), (1, .int p369827), (2, .int p369828)]) [0, 2, 3, 4, 5, 6] rfl ?_
                            exact ih20_395940 F396197 z396224 (gB_w bz396224 (by decide) (by decide)) hT396209 hs396206 (fun N hv hu hp => rPl_put hT395936 htq369826 rfl (x395938 N hv hu hp) n396199 hp395974 nb395977 hL395975 (fun _ _ _ _ z => z) (rNx_ren he395979 he396205 hu hv (Or.inl rfl) (Or.inr rfl) (Or.inl rfl) (by rw [← hp395974]; exact x395938 N hv hu hp _ nb395977 _ hL395975))) fk396208 fs396207 (mz_up ez396224 (Int.le_trans bg395934'.2 (by decide)) hm20_395940)
                          · have r396225 : p395981.toInt = p369827.toInt := gC_eq hc396222
                            refine G_aload 0 dr_cX17_rename_132 rfl ?_
                            refine G_iload_n 6 dr_cX17_rename_134 rfl ?_
                            refine Gp_put 1 hm395978 he396205 dr_cX17_rename_135 (gk_X15 D I) (Nat.le_of_ble_eq_true rfl) wr_9_182 rfl rfl rfl (Nat.le_of_ble_eq_true rfl) (fun F396226 e396227 n396228 => ?_)
                            have he396229 : F396226 q369826 = .inr (18, [.ref q394984, .ref q394985, .int p394986, .int p394987]) := (n396228 q369826 (rn_oo he396200 he396205 (by decide))).trans he396200
                            have he396230 : F396226 q394984 = .inr (4, [.int p395014, .ref q395016, .int p395015]) := (n396228 q394984 (rn_oo he396201 he396205 (by decide))).trans he396201
                            have he396231 : F396226 q395016 = .inl (I (.object "java/lang/Object"), n395030, .inr (.inr (.inr (.inr f395031)))) := (n396228 q395016 (rn_ao he396202 he396205)).trans he396202
                            have he396232 : F396226 q395033 = .inr (17, [.ref q395042, .ref q395043, .int p395044, .int p395045]) := (n396228 q395033 (rn_oo he396203 he396205 (by decide))).trans he396203
                            have he396233 : F396226 q395042 = .inr (4, [.int p395950, .ref q395952, .int p395951]) := (n396228 q395042 (rn_oo he396204 he396205 (by decide))).trans he396204
                            have he396234 : F396226 q395043 = .inr (20, [.int p395980, .int p369828, .int p395982, .int p369828, .int p395984, .int p395985, .int p395986]) := e396227
                            have hs396235 : rStr γ [1] F369825 F396226 := rStr_pu2 hs396206 n396228 ht395048 (by decide)
                            have fs396236 : rFs γ (γ 1 q369826) F369825 F396226 := rFs_put fs396207 n396228 ((show γ 1 q395043 = γ 1 q395033 from ht395049).trans ((show γ 1 q395033 = γ 1 q394984 from ht395039).trans (show γ 1 q394984 = γ 1 q369826 from ht394989)))
                            have fk396237 : rFk [1] γ F369825 F396226 := rFk_put fk396208 n396228 ht395048 (by decide)
                            obtain ⟨z396238, hz396238⟩ : ∃ z : Int32, z = g395934 + Int32.ofInt 1 := ⟨_, rfl⟩
                            have ez396238 : z396238.toInt = g395934.toInt + 1 := gI_inc hz396238 (by decide) bg395934' (by decide) (by decide)
                            have bz396238 : gB z396238 1 1000001 := ⟨by omega, by omega⟩
                            refine G_iinc (L' := [(5, .int z396238), (6, .ref q395043), (4, .ref q395033), (3, .int g394972), (0, .ref q369826), (1, .int p369827), (2, .int p369828)]) z396238 1 dr_cX17_rename_138 rfl hz396238.symm (Nat.le_of_ble_eq_true rfl) rfl ?_
                            refine G_goto 20 dr_cX17_rename_141 (by decide +kernel) ?_
                            have hT396239 : RS D I P369824 F396226 γ el := RS_set hT396209 n396228 ht395048 (by decide) ⟨p395980, p369828, p395982, p369828, p395984, p395985, p395986, he396234, bp395980, bp369828, bp395984, bp395985, bp395986, r395987, r395988, (Or.inr bp369828), r395990, r395991⟩
                            have of396240 : ∀ b, b ≠ q395043 → F396226 b = F395935 b := fun b hb => (n396228 b hb).trans (n396199 b hb)
                            refine G_lv (L' := [(5, .int z396238), (4, .ref q395033), (3, .int g394972), (0, .ref q369826), (1, .int p369827), (2, .int p369828)]) [0, 2, 3, 4, 5, 6] rfl ?_
                            exact ih20_395940 F396226 z396238 (gB_w bz396238 (by decide) (by decide)) hT396239 hs396235 (fun N hv hu hp => rPl_put hT395936 htq369826 rfl (x395938 N hv hu hp) of396240 hp395974 nb395977 hL395975 (fun _ _ _ _ z => z) (rNx_ren he395979 he396234 hu hv (Or.inl rfl) (Or.inr rfl) (Or.inr ⟨rfl, by first | assumption | omega⟩) (by rw [← hp395974]; exact x395938 N hv hu hp _ nb395977 _ hL395975))) fk396237 fs396236 (mz_up ez396238 (Int.le_trans bg395934'.2 (by decide)) hm20_395940)
                  · have r396241 : p395982.toInt = p369827.toInt := gC_eq hc396121
                    have bp395982' : gB p395982 0 1999 := ⟨by omega, by omega⟩
                    refine G_aload 0 dr_cX17_rename_86 rfl ?_
                    refine G_iload_n 6 dr_cX17_rename_88 rfl ?_
                    refine Gp_put 2 hm395978 he395979 dr_cX17_rename_89 (gk_X15 D I) (Nat.le_of_ble_eq_true rfl) wr_9_186 rfl rfl rfl (Nat.le_of_ble_eq_true rfl) (fun F396242 e396243 n396244 => ?_)
                    have he396245 : F396242 q369826 = .inr (18, [.ref q394984, .ref q394985, .int p394986, .int p394987]) := (n396244 q369826 (rn_oo he395943 he395979 (by decide))).trans he395943
                    have he396246 : F396242 q394984 = .inr (4, [.int p395014, .ref q395016, .int p395015]) := (n396244 q394984 (rn_oo he395944 he395979 (by decide))).trans he395944
                    have he396247 : F396242 q395016 = .inl (I (.object "java/lang/Object"), n395030, .inr (.inr (.inr (.inr f395031)))) := (n396244 q395016 (rn_ao he395945 he395979)).trans he395945
                    have he396248 : F396242 q395033 = .inr (17, [.ref q395042, .ref q395043, .int p395044, .int p395045]) := (n396244 q395033 (rn_oo he395946 he395979 (by decide))).trans he395946
                    have he396249 : F396242 q395042 = .inr (4, [.int p395950, .ref q395952, .int p395951]) := (n396244 q395042 (rn_oo he395949 he395979 (by decide))).trans he395949
                    have he396250 : F396242 q395043 = .inr (20, [.int p395980, .int p395981, .int p369828, .int p395983, .int p395984, .int p395985, .int p395986]) := e396243
                    have hs396251 : rStr γ [1] F369825 F396242 := rStr_pu2 hs395937 n396244 ht395048 (by decide)
                    have fs396252 : rFs γ (γ 1 q369826) F369825 F396242 := rFs_put x395940 n396244 ((show γ 1 q395043 = γ 1 q395033 from ht395049).trans ((show γ 1 q395033 = γ 1 q394984 from ht395039).trans (show γ 1 q394984 = γ 1 q369826 from ht394989)))
                    have fk396253 : rFk [1] γ F369825 F396242 := rFk_put x395939 n396244 ht395048 (by decide)
                    refine G_aload 0 dr_cX17_rename_92 rfl ?_
                    have hT396254 : RS D I P369824 F396242 γ el := RS_set hT395936 n396244 ht395048 (by decide) ⟨p395980, p395981, p369828, p395983, p395984, p395985, p395986, he396250, bp395980, bp395981, bp395984, bp395985, bp395986, r395987, (Or.inr bp369828), r395989, r395990, r395991⟩
                    refine Gw_callV (As := []) (gV_ok D I) (cp_1699_Row_usesB l hl0 D I P369824 F396242 q395043 p395980 p395981 p369828 p395983 p395984 p395985 p395986 hm395978 he396250 bp395980 bp395981 bp395984 bp395985 bp395986) dr_cX17_rename_94 ⟨wr_10_196, wr_1_39, wr_10_199, by decide, rfl, (Nat.le_of_ble_eq_true rfl), (Nat.le_of_ble_eq_true rfl)⟩ wr_10_197 wr_10_198 hm395978 he396250 rfl (show 0 + 0 ≤ 0 by first | omega | decide) (show 0 + 0 ≤ 0 by first | omega | decide) (Nat.le_of_ble_eq_true rfl) (fun r396259 w396260 dc396256 ds396257 hp396258 => ?_) (fun _ _ _ _ _ z => z.elim)
                    obtain ⟨o396261, rfl, rfl, hdc, hds, bo396261, x396262, ht396263⟩ := hp396258
                    change G _ _ _ _ _ _ _ (.int o396261 :: _) _ _ _
                    refine G_widen (cs' := 0) (sl' := 0) (by omega) (by omega) ?_
                    refine G_if_eq 115 dr_cX17_rename_97 (by decide +kernel) (fun hc396264 => ?_) (fun hc396264 => ?_)
                    · have r396265 : o396261.toInt = 0 := gj_eq hc396264 (show Int32.toInt 0 = 0 by decide)
                      have bo396261' : gB o396261 0 0 := gB_t0 r396265
                      refine G_aload 0 dr_cX17_rename_115 rfl ?_
                      refine Gw_callV (As := []) (gV_ok D I) (cp_1660_Row_sets l hl0 D I P369824 F396242 q395043 p395980 p395981 p369828 p395983 p395984 p395985 p395986 hm395978 he396250 bp395980 bp395981 bp395984 bp395985 bp395986) dr_cX17_rename_117 ⟨wr_10_181, wr_1_39, wr_10_184, by decide, rfl, (Nat.le_of_ble_eq_true rfl), (Nat.le_of_ble_eq_true rfl)⟩ wr_10_182 wr_10_183 hm395978 he396250 rfl (show 0 + 0 ≤ 0 by first | omega | decide) (show 0 + 0 ≤ 0 by first | omega | decide) (Nat.le_of_ble_eq_true rfl) (fun r396269 w396270 dc396266 ds396267 hp396268 => ?_) (fun _ _ _ _ _ z => z.elim)
                      obtain ⟨o396271, rfl, rfl, hdc, hds, bo396271, ht396272⟩ := hp396268
                      change G _ _ _ _ _ _ _ (.int o396271 :: _) _ _ _
                      refine G_widen (cs' := 0) (sl' := 0) (by omega) (by omega) ?_
                      refine G_if_eq 138 dr_cX17_rename_120 (by decide +kernel) (fun hc396273 => ?_) (fun hc396273 => ?_)
                      · have r396274 : o396271.toInt = 0 := gj_eq hc396273 (show Int32.toInt 0 = 0 by decide)
                        have bo396271' : gB o396271 0 0 := gB_t0 r396274
                        obtain ⟨z396275, hz396275⟩ : ∃ z : Int32, z = g395934 + Int32.ofInt 1 := ⟨_, rfl⟩
                        have ez396275 : z396275.toInt = g395934.toInt + 1 := gI_inc hz396275 (by decide) bg395934' (by decide) (by decide)
                        have bz396275 : gB z396275 1 1000001 := ⟨by omega, by omega⟩
                        refine G_iinc (L' := [(5, .int z396275), (6, .ref q395043), (4, .ref q395033), (3, .int g394972), (0, .ref q369826), (1, .int p369827), (2, .int p369828)]) z396275 1 dr_cX17_rename_138 rfl hz396275.symm (Nat.le_of_ble_eq_true rfl) rfl ?_
                        refine G_goto 20 dr_cX17_rename_141 (by decide +kernel) ?_
                        refine G_lv (L' := [(5, .int z396275), (4, .ref q395033), (3, .int g394972), (0, .ref q369826), (1, .int p369827), (2, .int p369828)]) [0, 2, 3, 4, 5, 6] rfl ?_
                        exact ih20_395940 F396242 z396275 (gB_w bz396275 (by decide) (by decide)) hT396254 hs396251 (fun N hv hu hp => rPl_put hT395936 htq369826 rfl (x395938 N hv hu hp) n396244 hp395974 nb395977 hL395975 (fun _ _ _ _ z => z) (rNx_ren he395979 he396250 hu hv (Or.inr rfl) (Or.inl rfl) (Or.inl rfl) (by rw [← hp395974]; exact x395938 N hv hu hp _ nb395977 _ hL395975))) fk396253 fs396252 (mz_up ez396275 (Int.le_trans bg395934'.2 (by decide)) hm20_395940)
                      · have r396276 : o396271.toInt ≠ 0 := gj_neq hc396273 (show Int32.toInt 0 = 0 by decide)
                        have bo396271' : gB o396271 1 1 := gB_t1 bo396271 r396276
                        refine G_aload 0 dr_cX17_rename_123 rfl ?_
                        refine Gp_get 1 hm395978 he396250 dr_cX17_rename_125 (gk_X15 D I) (Nat.le_of_ble_eq_true rfl) wr_9_182 rfl ?_
                        refine G_iload_n 5 dr_cX17_rename_128 rfl ?_
                        refine G_icmp_ne 138 dr_cX17_rename_129 (by decide +kernel) (fun hc396277 => ?_) (fun hc396277 => ?_)
                        · have r396278 : p395981.toInt ≠ p369827.toInt := gC_ne hc396277
                          obtain ⟨z396279, hz396279⟩ : ∃ z : Int32, z = g395934 + Int32.ofInt 1 := ⟨_, rfl⟩
                          have ez396279 : z396279.toInt = g395934.toInt + 1 := gI_inc hz396279 (by decide) bg395934' (by decide) (by decide)
                          have bz396279 : gB z396279 1 1000001 := ⟨by omega, by omega⟩
                          refine G_iinc (L' := [(5, .int z396279), (6, .ref q395043), (4, .ref q395033), (3, .int g394972), (0, .ref q369826), (1, .int p369827), (2, .int p369828)]) z396279 1 dr_cX17_rename_138 rfl hz396279.symm (Nat.le_of_ble_eq_true rfl) rfl ?_
                          refine G_goto 20 dr_cX17_rename_141 (by decide +kernel) ?_
                          refine G_lv (L' := [(5, .int z396279), (4, .ref q395033), (3, .int g394972), (0, .ref q369826), (1, .int p369827), (2, .int p369828)]) [0, 2, 3, 4, 5, 6] rfl ?_
                          exact ih20_395940 F396242 z396279 (gB_w bz396279 (by decide) (by decide)) hT396254 hs396251 (fun N hv hu hp => rPl_put hT395936 htq369826 rfl (x395938 N hv hu hp) n396244 hp395974 nb395977 hL395975 (fun _ _ _ _ z => z) (rNx_ren he395979 he396250 hu hv (Or.inr rfl) (Or.inl rfl) (Or.inl rfl) (by rw [← hp395974]; exact x395938 N hv hu hp _ nb395977 _ hL395975))) fk396253 fs396252 (mz_up ez396279 (Int.le_trans bg395934'.2 (by decide)) hm20_395940)
                        · have r396280 : p395981.toInt = p369827.toInt := gC_eq hc396277
                          refine G_aload 0 dr_cX17_rename_132 rfl ?_
                          refine G_iload_n 6 dr_cX17_rename_134 rfl ?_
                          refine Gp_put 1 hm395978 he396250 dr_cX17_rename_135 (gk_X15 D I) (Nat.le_of_ble_eq_true rfl) wr_9_182 rfl rfl rfl (Nat.le_of_ble_eq_true rfl) (fun F396281 e396282 n396283 => ?_)
                          have he396284 : F396281 q369826 = .inr (18, [.ref q394984, .ref q394985, .int p394986, .int p394987]) := (n396283 q369826 (rn_oo he396245 he396250 (by decide))).trans he396245
                          have he396285 : F396281 q394984 = .inr (4, [.int p395014, .ref q395016, .int p395015]) := (n396283 q394984 (rn_oo he396246 he396250 (by decide))).trans he396246
                          have he396286 : F396281 q395016 = .inl (I (.object "java/lang/Object"), n395030, .inr (.inr (.inr (.inr f395031)))) := (n396283 q395016 (rn_ao he396247 he396250)).trans he396247
                          have he396287 : F396281 q395033 = .inr (17, [.ref q395042, .ref q395043, .int p395044, .int p395045]) := (n396283 q395033 (rn_oo he396248 he396250 (by decide))).trans he396248
                          have he396288 : F396281 q395042 = .inr (4, [.int p395950, .ref q395952, .int p395951]) := (n396283 q395042 (rn_oo he396249 he396250 (by decide))).trans he396249
                          have he396289 : F396281 q395043 = .inr (20, [.int p395980, .int p369828, .int p369828, .int p395983, .int p395984, .int p395985, .int p395986]) := e396282
                          have hs396290 : rStr γ [1] F369825 F396281 := rStr_pu2 hs396251 n396283 ht395048 (by decide)
                          have fs396291 : rFs γ (γ 1 q369826) F369825 F396281 := rFs_put fs396252 n396283 ((show γ 1 q395043 = γ 1 q395033 from ht395049).trans ((show γ 1 q395033 = γ 1 q394984 from ht395039).trans (show γ 1 q394984 = γ 1 q369826 from ht394989)))
                          have fk396292 : rFk [1] γ F369825 F396281 := rFk_put fk396253 n396283 ht395048 (by decide)
                          obtain ⟨z396293, hz396293⟩ : ∃ z : Int32, z = g395934 + Int32.ofInt 1 := ⟨_, rfl⟩
                          have ez396293 : z396293.toInt = g395934.toInt + 1 := gI_inc hz396293 (by decide) bg395934' (by decide) (by decide)
                          have bz396293 : gB z396293 1 1000001 := ⟨by omega, by omega⟩
                          refine G_iinc (L' := [(5, .int z396293), (6, .ref q395043), (4, .ref q395033), (3, .int g394972), (0, .ref q369826), (1, .int p369827), (2, .int p369828)]) z396293 1 dr_cX17_rename_138 rfl hz396293.symm (Nat.le_of_ble_eq_true rfl) rfl ?_
                          refine G_goto 20 dr_cX17_rename_141 (by decide +kernel) ?_
                          have hT396294 : RS D I P369824 F396281 γ el := RS_set hT396254 n396283 ht395048 (by decide) ⟨p395980, p369828, p369828, p395983, p395984, p395985, p395986, he396289, bp395980, bp369828, bp395984, bp395985, bp395986, r395987, (Or.inr bp369828), r395989, r395990, r395991⟩
                          have of396295 : ∀ b, b ≠ q395043 → F396281 b = F395935 b := fun b hb => (n396283 b hb).trans (n396244 b hb)
                          refine G_lv (L' := [(5, .int z396293), (4, .ref q395033), (3, .int g394972), (0, .ref q369826), (1, .int p369827), (2, .int p369828)]) [0, 2, 3, 4, 5, 6] rfl ?_
                          exact ih20_395940 F396281 z396293 (gB_w bz396293 (by decide) (by decide)) hT396294 hs396290 (fun N hv hu hp => rPl_put hT395936 htq369826 rfl (x395938 N hv hu hp) of396295 hp395974 nb395977 hL395975 (fun _ _ _ _ z => z) (rNx_ren he395979 he396289 hu hv (Or.inr rfl) (Or.inl rfl) (Or.inr ⟨rfl, by first | assumption | omega⟩) (by rw [← hp395974]; exact x395938 N hv hu hp _ nb395977 _ hL395975))) fk396292 fs396291 (mz_up ez396293 (Int.le_trans bg395934'.2 (by decide)) hm20_395940)
                    · have r396296 : o396261.toInt ≠ 0 := gj_neq hc396264 (show Int32.toInt 0 = 0 by decide)
                      have bo396261' : gB o396261 1 1 := gB_t1 bo396261 r396296
                      refine G_aload 0 dr_cX17_rename_100 rfl ?_
                      refine Gp_get 3 hm395978 he396250 dr_cX17_rename_102 (gk_X15 D I) (Nat.le_of_ble_eq_true rfl) wr_9_190 rfl ?_
                      refine G_iload_n 5 dr_cX17_rename_105 rfl ?_
                      refine G_icmp_ne 115 dr_cX17_rename_106 (by decide +kernel) (fun hc396297 => ?_) (fun hc396297 => ?_)
                      · have r396298 : p395983.toInt ≠ p369827.toInt := gC_ne hc396297
                        refine G_aload 0 dr_cX17_rename_115 rfl ?_
                        refine Gw_callV (As := []) (gV_ok D I) (cp_1660_Row_sets l hl0 D I P369824 F396242 q395043 p395980 p395981 p369828 p395983 p395984 p395985 p395986 hm395978 he396250 bp395980 bp395981 bp395984 bp395985 bp395986) dr_cX17_rename_117 ⟨wr_10_181, wr_1_39, wr_10_184, by decide, rfl, (Nat.le_of_ble_eq_true rfl), (Nat.le_of_ble_eq_true rfl)⟩ wr_10_182 wr_10_183 hm395978 he396250 rfl (show 0 + 0 ≤ 0 by first | omega | decide) (show 0 + 0 ≤ 0 by first | omega | decide) (Nat.le_of_ble_eq_true rfl) (fun r396302 w396303 dc396299 ds396300 hp396301 => ?_) (fun _ _ _ _ _ z => z.elim)
                        obtain ⟨o396304, rfl, rfl, hdc, hds, bo396304, ht396305⟩ := hp396301
                        change G _ _ _ _ _ _ _ (.int o396304 :: _) _ _ _
                        refine G_widen (cs' := 0) (sl' := 0) (by omega) (by omega) ?_
                        refine G_if_eq 138 dr_cX17_rename_120 (by decide +kernel) (fun hc396306 => ?_) (fun hc396306 => ?_)
                        · have r396307 : o396304.toInt = 0 := gj_eq hc396306 (show Int32.toInt 0 = 0 by decide)
                          have bo396304' : gB o396304 0 0 := gB_t0 r396307
                          obtain ⟨z396308, hz396308⟩ : ∃ z : Int32, z = g395934 + Int32.ofInt 1 := ⟨_, rfl⟩
                          have ez396308 : z396308.toInt = g395934.toInt + 1 := gI_inc hz396308 (by decide) bg395934' (by decide) (by decide)
                          have bz396308 : gB z396308 1 1000001 := ⟨by omega, by omega⟩
                          refine G_iinc (L' := [(5, .int z396308), (6, .ref q395043), (4, .ref q395033), (3, .int g394972), (0, .ref q369826), (1, .int p369827), (2, .int p369828)]) z396308 1 dr_cX17_rename_138 rfl hz396308.symm (Nat.le_of_ble_eq_true rfl) rfl ?_
                          refine G_goto 20 dr_cX17_rename_141 (by decide +kernel) ?_
                          refine G_lv (L' := [(5, .int z396308), (4, .ref q395033), (3, .int g394972), (0, .ref q369826), (1, .int p369827), (2, .int p369828)]) [0, 2, 3, 4, 5, 6] rfl ?_
                          exact ih20_395940 F396242 z396308 (gB_w bz396308 (by decide) (by decide)) hT396254 hs396251 (fun N hv hu hp => rPl_put hT395936 htq369826 rfl (x395938 N hv hu hp) n396244 hp395974 nb395977 hL395975 (fun _ _ _ _ z => z) (rNx_ren he395979 he396250 hu hv (Or.inr rfl) (Or.inl rfl) (Or.inl rfl) (by rw [← hp395974]; exact x395938 N hv hu hp _ nb395977 _ hL395975))) fk396253 fs396252 (mz_up ez396308 (Int.le_trans bg395934'.2 (by decide)) hm20_395940)
                        · have r396309 : o396304.toInt ≠ 0 := gj_neq hc396306 (show Int32.toInt 0 = 0 by decide)
                          have bo396304' : gB o396304 1 1 := gB_t1 bo396304 r396309
                          refine G_aload 0 dr_cX17_rename_123 rfl ?_
                          refine Gp_get 1 hm395978 he396250 dr_cX17_rename_125 (gk_X15 D I) (Nat.le_of_ble_eq_true rfl) wr_9_182 rfl ?_
                          refine G_iload_n 5 dr_cX17_rename_128 rfl ?_
                          refine G_icmp_ne 138 dr_cX17_rename_129 (by decide +kernel) (fun hc396310 => ?_) (fun hc396310 => ?_)
                          · have r396311 : p395981.toInt ≠ p369827.toInt := gC_ne hc396310
                            obtain ⟨z396312, hz396312⟩ : ∃ z : Int32, z = g395934 + Int32.ofInt 1 := ⟨_, rfl⟩
                            have ez396312 : z396312.toInt = g395934.toInt + 1 := gI_inc hz396312 (by decide) bg395934' (by decide) (by decide)
                            have bz396312 : gB z396312 1 1000001 := ⟨by omega, by omega⟩
                            refine G_iinc (L' := [(5, .int z396312), (6, .ref q395043), (4, .ref q395033), (3, .int g394972), (0, .ref q369826), (1, .int p369827), (2, .int p369828)]) z396312 1 dr_cX17_rename_138 rfl hz396312.symm (Nat.le_of_ble_eq_true rfl) rfl ?_
                            refine G_goto 20 dr_cX17_rename_141 (by decide +kernel) ?_
                            refine G_lv (L' := [(5, .int z396312), (4, .ref q395033), (3, .int g394972), (0, .ref q369826), (1, .int p369827), (2, .int p369828)]) [0, 2, 3, 4, 5, 6] rfl ?_
                            exact ih20_395940 F396242 z396312 (gB_w bz396312 (by decide) (by decide)) hT396254 hs396251 (fun N hv hu hp => rPl_put hT395936 htq369826 rfl (x395938 N hv hu hp) n396244 hp395974 nb395977 hL395975 (fun _ _ _ _ z => z) (rNx_ren he395979 he396250 hu hv (Or.inr rfl) (Or.inl rfl) (Or.inl rfl) (by rw [← hp395974]; exact x395938 N hv hu hp _ nb395977 _ hL395975))) fk396253 fs396252 (mz_up ez396312 (Int.le_trans bg395934'.2 (by decide)) hm20_395940)
                          · have r396313 : p395981.toInt = p369827.toInt := gC_eq hc396310
                            refine G_aload 0 dr_cX17_rename_132 rfl ?_
                            refine G_iload_n 6 dr_cX17_rename_134 rfl ?_
                            refine Gp_put 1 hm395978 he396250 dr_cX17_rename_135 (gk_X15 D I) (Nat.le_of_ble_eq_true rfl) wr_9_182 rfl rfl rfl (Nat.le_of_ble_eq_true rfl) (fun F396314 e396315 n396316 => ?_)
                            have he396317 : F396314 q369826 = .inr (18, [.ref q394984, .ref q394985, .int p394986, .int p394987]) := (n396316 q369826 (rn_oo he396245 he396250 (by decide))).trans he396245
                            have he396318 : F396314 q394984 = .inr (4, [.int p395014, .ref q395016, .int p395015]) := (n396316 q394984 (rn_oo he396246 he396250 (by decide))).trans he396246
                            have he396319 : F396314 q395016 = .inl (I (.object "java/lang/Object"), n395030, .inr (.inr (.inr (.inr f395031)))) := (n396316 q395016 (rn_ao he396247 he396250)).trans he396247
                            have he396320 : F396314 q395033 = .inr (17, [.ref q395042, .ref q395043, .int p395044, .int p395045]) := (n396316 q395033 (rn_oo he396248 he396250 (by decide))).trans he396248
                            have he396321 : F396314 q395042 = .inr (4, [.int p395950, .ref q395952, .int p395951]) := (n396316 q395042 (rn_oo he396249 he396250 (by decide))).trans he396249
                            have he396322 : F396314 q395043 = .inr (20, [.int p395980, .int p369828, .int p369828, .int p395983, .int p395984, .int p395985, .int p395986]) := e396315
                            have hs396323 : rStr γ [1] F369825 F396314 := rStr_pu2 hs396251 n396316 ht395048 (by decide)
                            have fs396324 : rFs γ (γ 1 q369826) F369825 F396314 := rFs_put fs396252 n396316 ((show γ 1 q395043 = γ 1 q395033 from ht395049).trans ((show γ 1 q395033 = γ 1 q394984 from ht395039).trans (show γ 1 q394984 = γ 1 q369826 from ht394989)))
                            have fk396325 : rFk [1] γ F369825 F396314 := rFk_put fk396253 n396316 ht395048 (by decide)
                            obtain ⟨z396326, hz396326⟩ : ∃ z : Int32, z = g395934 + Int32.ofInt 1 := ⟨_, rfl⟩
                            have ez396326 : z396326.toInt = g395934.toInt + 1 := gI_inc hz396326 (by decide) bg395934' (by decide) (by decide)
                            have bz396326 : gB z396326 1 1000001 := ⟨by omega, by omega⟩
                            refine G_iinc (L' := [(5, .int z396326), (6, .ref q395043), (4, .ref q395033), (3, .int g394972), (0, .ref q369826), (1, .int p369827), (2, .int p369828)]) z396326 1 dr_cX17_rename_138 rfl hz396326.symm (Nat.le_of_ble_eq_true rfl) rfl ?_
                            refine G_goto 20 dr_cX17_rename_141 (by decide +kernel) ?_
                            have hT396327 : RS D I P369824 F396314 γ el := RS_set hT396254 n396316 ht395048 (by decide) ⟨p395980, p369828, p369828, p395983, p395984, p395985, p395986, he396322, bp395980, bp369828, bp395984, bp395985, bp395986, r395987, (Or.inr bp369828), r395989, r395990, r395991⟩
                            have of396328 : ∀ b, b ≠ q395043 → F396314 b = F395935 b := fun b hb => (n396316 b hb).trans (n396244 b hb)
                            refine G_lv (L' := [(5, .int z396326), (4, .ref q395033), (3, .int g394972), (0, .ref q369826), (1, .int p369827), (2, .int p369828)]) [0, 2, 3, 4, 5, 6] rfl ?_
                            exact ih20_395940 F396314 z396326 (gB_w bz396326 (by decide) (by decide)) hT396327 hs396323 (fun N hv hu hp => rPl_put hT395936 htq369826 rfl (x395938 N hv hu hp) of396328 hp395974 nb395977 hL395975 (fun _ _ _ _ z => z) (rNx_ren he395979 he396322 hu hv (Or.inr rfl) (Or.inl rfl) (Or.inr ⟨rfl, by first | assumption | omega⟩) (by rw [← hp395974]; exact x395938 N hv hu hp _ nb395977 _ hL395975))) fk396325 fs396324 (mz_up ez396326 (Int.le_trans bg395934'.2 (by decide)) hm20_395940)
                      · have r396329 : p395983.toInt = p369827.toInt := gC_eq hc396297
                        have bp395983' : gB p395983 0 1999 := ⟨by omega, by omega⟩
                        refine G_aload 0 dr_cX17_rename_109 rfl ?_
                        refine G_iload_n 6 dr_cX17_rename_111 rfl ?_
                        refine Gp_put 3 hm395978 he396250 dr_cX17_rename_112 (gk_X15 D I) (Nat.le_of_ble_eq_true rfl) wr_9_190 rfl rfl rfl (Nat.le_of_ble_eq_true rfl) (fun F396330 e396331 n396332 => ?_)
                        have he396333 : F396330 q369826 = .inr (18, [.ref q394984, .ref q394985, .int p394986, .int p394987]) := (n396332 q369826 (rn_oo he396245 he396250 (by decide))).trans he396245
                        have he396334 : F396330 q394984 = .inr (4, [.int p395014, .ref q395016, .int p395015]) := (n396332 q394984 (rn_oo he396246 he396250 (by decide))).trans he396246
                        have he396335 : F396330 q395016 = .inl (I (.object "java/lang/Object"), n395030, .inr (.inr (.inr (.inr f395031)))) := (n396332 q395016 (rn_ao he396247 he396250)).trans he396247
                        have he396336 : F396330 q395033 = .inr (17, [.ref q395042, .ref q395043, .int p395044, .int p395045]) := (n396332 q395033 (rn_oo he396248 he396250 (by decide))).trans he396248
                        have he396337 : F396330 q395042 = .inr (4, [.int p395950, .ref q395952, .int p395951]) := (n396332 q395042 (rn_oo he396249 he396250 (by decide))).trans he396249
                        have he396338 : F396330 q395043 = .inr (20, [.int p395980, .int p395981, .int p369828, .int p369828, .int p395984, .int p395985, .int p395986]) := e396331
                        have hs396339 : rStr γ [1] F369825 F396330 := rStr_pu2 hs396251 n396332 ht395048 (by decide)
                        have fs396340 : rFs γ (γ 1 q369826) F369825 F396330 := rFs_put fs396252 n396332 ((show γ 1 q395043 = γ 1 q395033 from ht395049).trans ((show γ 1 q395033 = γ 1 q394984 from ht395039).trans (show γ 1 q394984 = γ 1 q369826 from ht394989)))
                        have fk396341 : rFk [1] γ F369825 F396330 := rFk_put fk396253 n396332 ht395048 (by decide)
                        refine G_aload 0 dr_cX17_rename_115 rfl ?_
                        have hT396342 : RS D I P369824 F396330 γ el := RS_set hT396254 n396332 ht395048 (by decide) ⟨p395980, p395981, p369828, p369828, p395984, p395985, p395986, he396338, bp395980, bp395981, bp395984, bp395985, bp395986, r395987, (Or.inr bp369828), (Or.inr bp369828), r395990, r395991⟩
                        have of396343 : ∀ b, b ≠ q395043 → F396330 b = F395935 b := fun b hb => (n396332 b hb).trans (n396244 b hb)
                        refine Gw_callV (As := []) (gV_ok D I) (cp_1660_Row_sets l hl0 D I P369824 F396330 q395043 p395980 p395981 p369828 p369828 p395984 p395985 p395986 hm395978 he396338 bp395980 bp395981 bp395984 bp395985 bp395986) dr_cX17_rename_117 ⟨wr_10_181, wr_1_39, wr_10_184, by decide, rfl, (Nat.le_of_ble_eq_true rfl), (Nat.le_of_ble_eq_true rfl)⟩ wr_10_182 wr_10_183 hm395978 he396338 rfl (show 0 + 0 ≤ 0 by first | omega | decide) (show 0 + 0 ≤ 0 by first | omega | decide) (Nat.le_of_ble_eq_true rfl) (fun r396347 w396348 dc396344 ds396345 hp396346 => ?_) (fun _ _ _ _ _ z => z.elim)
                        obtain ⟨o396349, rfl, rfl, hdc, hds, bo396349, ht396350⟩ := hp396346
                        change G _ _ _ _ _ _ _ (.int o396349 :: _) _ _ _
                        refine G_widen (cs' := 0) (sl' := 0) (by omega) (by omega) ?_
                        refine G_if_eq 138 dr_cX17_rename_120 (by decide +kernel) (fun hc396351 => ?_) (fun hc396351 => ?_)
                        · have r396352 : o396349.toInt = 0 := gj_eq hc396351 (show Int32.toInt 0 = 0 by decide)
                          have bo396349' : gB o396349 0 0 := gB_t0 r396352
                          obtain ⟨z396353, hz396353⟩ : ∃ z : Int32, z = g395934 + Int32.ofInt 1 := ⟨_, rfl⟩
                          have ez396353 : z396353.toInt = g395934.toInt + 1 := gI_inc hz396353 (by decide) bg395934' (by decide) (by decide)
                          have bz396353 : gB z396353 1 1000001 := ⟨by omega, by omega⟩
                          refine G_iinc (L' := [(5, .int z396353), (6, .ref q395043), (4, .ref q395033), (3, .int g394972), (0, .ref q369826), (1, .int p369827), (2, .int p369828)]) z396353 1 dr_cX17_rename_138 rfl hz396353.symm (Nat.le_of_ble_eq_true rfl) rfl ?_
                          refine G_goto 20 dr_cX17_rename_141 (by decide +kernel) ?_
                          refine G_lv (L' := [(5, .int z396353), (4, .ref q395033), (3, .int g394972), (0, .ref q369826), (1, .int p369827), (2, .int p369828)]) [0, 2, 3, 4, 5, 6] rfl ?_
                          exact ih20_395940 F396330 z396353 (gB_w bz396353 (by decide) (by decide)) hT396342 hs396339 (fun N hv hu hp => rPl_put hT395936 htq369826 rfl (x395938 N hv hu hp) of396343 hp395974 nb395977 hL395975 (fun _ _ _ _ z => z) (rNx_ren he395979 he396338 hu hv (Or.inr rfl) (Or.inr rfl) (Or.inl rfl) (by rw [← hp395974]; exact x395938 N hv hu hp _ nb395977 _ hL395975))) fk396341 fs396340 (mz_up ez396353 (Int.le_trans bg395934'.2 (by decide)) hm20_395940)
                        · have r396354 : o396349.toInt ≠ 0 := gj_neq hc396351 (show Int32.toInt 0 = 0 by decide)
                          have bo396349' : gB o396349 1 1 := gB_t1 bo396349 r396354
                          refine G_aload 0 dr_cX17_rename_123 rfl ?_
                          refine Gp_get 1 hm395978 he396338 dr_cX17_rename_125 (gk_X15 D I) (Nat.le_of_ble_eq_true rfl) wr_9_182 rfl ?_
                          refine G_iload_n 5 dr_cX17_rename_128 rfl ?_
                          refine G_icmp_ne 138 dr_cX17_rename_129 (by decide +kernel) (fun hc396355 => ?_) (fun hc396355 => ?_)
                          · have r396356 : p395981.toInt ≠ p369827.toInt := gC_ne hc396355
                            obtain ⟨z396357, hz396357⟩ : ∃ z : Int32, z = g395934 + Int32.ofInt 1 := ⟨_, rfl⟩
                            have ez396357 : z396357.toInt = g395934.toInt + 1 := gI_inc hz396357 (by decide) bg395934' (by decide) (by decide)
                            have bz396357 : gB z396357 1 1000001 := ⟨by omega, by omega⟩
                            refine G_iinc (L' := [(5, .int z396357), (6, .ref q395043), (4, .ref q395033), (3, .int g394972), (0, .ref q369826), (1, .int p369827), (2, .int p369828)]) z396357 1 dr_cX17_rename_138 rfl hz396357.symm (Nat.le_of_ble_eq_true rfl) rfl ?_
                            refine G_goto 20 dr_cX17_rename_141 (by decide +kernel) ?_
                            refine G_lv (L' := [(5, .int z396357), (4, .ref q395033), (3, .int g394972), (0, .ref q369826), (1, .int p369827), (2, .int p369828)]) [0, 2, 3, 4, 5, 6] rfl ?_
                            exact ih20_395940 F396330 z396357 (gB_w bz396357 (by decide) (by decide)) hT396342 hs396339 (fun N hv hu hp => rPl_put hT395936 htq369826 rfl (x395938 N hv hu hp) of396343 hp395974 nb395977 hL395975 (fun _ _ _ _ z => z) (rNx_ren he395979 he396338 hu hv (Or.inr rfl) (Or.inr rfl) (Or.inl rfl) (by rw [← hp395974]; exact x395938 N hv hu hp _ nb395977 _ hL395975))) fk396341 fs396340 (mz_up ez396357 (Int.le_trans bg395934'.2 (by decide)) hm20_395940)
                          · have r396358 : p395981.toInt = p369827.toInt := gC_eq hc396355
                            refine G_aload 0 dr_cX17_rename_132 rfl ?_
                            refine G_iload_n 6 dr_cX17_rename_134 rfl ?_
                            refine Gp_put 1 hm395978 he396338 dr_cX17_rename_135 (gk_X15 D I) (Nat.le_of_ble_eq_true rfl) wr_9_182 rfl rfl rfl (Nat.le_of_ble_eq_true rfl) (fun F396359 e396360 n396361 => ?_)
                            have he396362 : F396359 q369826 = .inr (18, [.ref q394984, .ref q394985, .int p394986, .int p394987]) := (n396361 q369826 (rn_oo he396333 he396338 (by decide))).trans he396333
                            have he396363 : F396359 q394984 = .inr (4, [.int p395014, .ref q395016, .int p395015]) := (n396361 q394984 (rn_oo he396334 he396338 (by decide))).trans he396334
                            have he396364 : F396359 q395016 = .inl (I (.object "java/lang/Object"), n395030, .inr (.inr (.inr (.inr f395031)))) := (n396361 q395016 (rn_ao he396335 he396338)).trans he396335
                            have he396365 : F396359 q395033 = .inr (17, [.ref q395042, .ref q395043, .int p395044, .int p395045]) := (n396361 q395033 (rn_oo he396336 he396338 (by decide))).trans he396336
                            have he396366 : F396359 q395042 = .inr (4, [.int p395950, .ref q395952, .int p395951]) := (n396361 q395042 (rn_oo he396337 he396338 (by decide))).trans he396337
                            have he396367 : F396359 q395043 = .inr (20, [.int p395980, .int p369828, .int p369828, .int p369828, .int p395984, .int p395985, .int p395986]) := e396360
                            have hs396368 : rStr γ [1] F369825 F396359 := rStr_pu2 hs396339 n396361 ht395048 (by decide)
                            have fs396369 : rFs γ (γ 1 q369826) F369825 F396359 := rFs_put fs396340 n396361 ((show γ 1 q395043 = γ 1 q395033 from ht395049).trans ((show γ 1 q395033 = γ 1 q394984 from ht395039).trans (show γ 1 q394984 = γ 1 q369826 from ht394989)))
                            have fk396370 : rFk [1] γ F369825 F396359 := rFk_put fk396341 n396361 ht395048 (by decide)
                            obtain ⟨z396371, hz396371⟩ : ∃ z : Int32, z = g395934 + Int32.ofInt 1 := ⟨_, rfl⟩
                            have ez396371 : z396371.toInt = g395934.toInt + 1 := gI_inc hz396371 (by decide) bg395934' (by decide) (by decide)
                            have bz396371 : gB z396371 1 1000001 := ⟨by omega, by omega⟩
                            refine G_iinc (L' := [(5, .int z396371), (6, .ref q395043), (4, .ref q395033), (3, .int g394972), (0, .ref q369826), (1, .int p369827), (2, .int p369828)]) z396371 1 dr_cX17_rename_138 rfl hz396371.symm (Nat.le_of_ble_eq_true rfl) rfl ?_
                            refine G_goto 20 dr_cX17_rename_141 (by decide +kernel) ?_
                            have hT396372 : RS D I P369824 F396359 γ el := RS_set hT396342 n396361 ht395048 (by decide) ⟨p395980, p369828, p369828, p369828, p395984, p395985, p395986, he396367, bp395980, bp369828, bp395984, bp395985, bp395986, r395987, (Or.inr bp369828), (Or.inr bp369828), r395990, r395991⟩
                            have of396373 : ∀ b, b ≠ q395043 → F396359 b = F395935 b := fun b hb => (n396361 b hb).trans (of396343 b hb)
                            refine G_lv (L' := [(5, .int z396371), (4, .ref q395033), (3, .int g394972), (0, .ref q369826), (1, .int p369827), (2, .int p369828)]) [0, 2, 3, 4, 5, 6] rfl ?_
                            exact ih20_395940 F396359 z396371 (gB_w bz396371 (by decide) (by decide)) hT396372 hs396368 (fun N hv hu hp => rPl_put hT395936 htq369826 rfl (x395938 N hv hu hp) of396373 hp395974 nb395977 hL395975 (fun _ _ _ _ z => z) (rNx_ren he395979 he396367 hu hv (Or.inr rfl) (Or.inr rfl) (Or.inr ⟨rfl, by first | assumption | omega⟩) (by rw [← hp395974]; exact x395938 N hv hu hp _ nb395977 _ hL395975))) fk396370 fs396369 (mz_up ez396371 (Int.le_trans bg395934'.2 (by decide)) hm20_395940)
              · have r396374 : g395934.toInt < p395951.toInt := gC_nle hc395972
                have bg395934'' : gB g395934 0 999999 := ⟨by omega, by omega⟩
                have bp395951' : gB p395951 1 1000000 := ⟨by omega, by omega⟩
                refine G_aload 1 dr_cX17_rename_46 rfl ?_
                refine Gp_get 0 hm395040 he395946 dr_cX17_rename_48 (gk_X12 D I) (Nat.le_of_ble_eq_true rfl) wr_9_220 rfl ?_
                refine G_iload 0 dr_cX17_rename_51 rfl ?_
                obtain ⟨r396375, r396376, n396383, f396384, r396377, r396378, r396379, r396380, r396381, r396382⟩ := rLC_n r395955 (by omega)
                have hm396385 : q395952 ∈ P369824 := RS_m hT395936 r396375 (by decide)
                obtain ⟨q396386, hx396387⟩ : ∃ x, x = el q395042 g395934.toInt.toNat := ⟨_, rfl⟩
                have hx396388 : f396384 g395934.toNatClampNeg = some q396386 := (r396381 _ (show g395934.toInt.toNat < γ 2 q395042 by omega)).trans (by rw [hx396387])
                have ht396389 : rKd γ q396386 1 := by rw [hx396387]; exact (r395956 _ (show g395934.toInt.toNat < γ 2 q395042 by omega)).1
                have ht396390 : rFm γ q396386 q395042 := by rw [hx396387]; exact (r395956 _ (show g395934.toInt.toNat < γ 2 q395042 by omega)).2.1
                refine Gw_callV (As := [.int g395934]) (gV_ok D I) (cp_22_ArrayList_get l hl0 D I P369824 F395935 q395042 q395952 g395934 p395950 p395951 f396384 n396383 q396386 hm395948 hm396385 he395949 r396377 (gB_w bg395934'' (by decide) (by decide)) (gB_w bp395951' (by decide) (by decide)) (by omega) (by omega) (by assumption) (by omega)) dr_cX17_rename_53 ⟨wr_10_201, wr_1_18, wr_10_65, by decide, rfl, (Nat.le_of_ble_eq_true rfl), (Nat.le_of_ble_eq_true rfl)⟩ wr_10_63 wr_10_64 hm395948 he395949 rfl (show 0 + 0 ≤ 0 by first | omega | decide) (show 0 + 0 ≤ 0 by first | omega | decide) (Nat.le_of_ble_eq_true rfl) (fun r396394 w396395 dc396391 ds396392 hp396393 => ?_) (fun _ _ _ _ _ z => z.elim)
                obtain ⟨rfl, rfl, hdc, hds, ht396396⟩ := hp396393
                change G _ _ _ _ _ _ _ (.ref q396386 :: _) _ _ _
                refine G_widen (cs' := 0) (sl' := 0) (by omega) (by omega) ?_
                have hm396397 : q396386 ∈ P369824 := RS_m hT395936 ht396389 (by decide)
                obtain ⟨p396399, p396400, p396401, p396402, p396403, p396404, p396405, he396398, bp396399, bp396400, bp396403, bp396404, bp396405, r396406, r396407, r396408, r396409, r396410⟩ := show rk_1 γ q396386 (F395935 q396386) from RS_o hT395936 ht396389
                have bp396401 := gB_any p396401
                have bp396402 := gB_any p396402
                refine Gp_cast hm396397 he396398 rfl dr_cX17_rename_56 wr_10_202 (gr_cast 1 rfl) ?_
                refine G_goto 67 dr_cX17_rename_59 (by decide +kernel) ?_
                have fl396413 : p395951.toInt = γ 2 q395042 := r395953
                have hp396411 : rAt γ el q369826 (g394972.toInt : Int).toNat (g395934.toInt : Int).toNat = q396386 := (rAt_r hb395061 ht395052.1 (by omega)).trans (by rw [hx396387])
                have hL396412 : (g395934.toInt : Int).toNat ≤ γ 2 (rwL γ el q369826 (g394972.toInt : Int).toNat) := by unfold rwL; rw [hb395061, ht395052.1]; omega
                have nb396414 : (g394972.toInt : Int).toNat < γ 6 (γ 1 q369826) := by omega
                refine G_astore (L' := [(6, .ref q396386), (5, .int g395934), (4, .ref q395033), (3, .int g394972), (0, .ref q369826), (1, .int p369827), (2, .int p369828)]) dr_cX17_rename_67 (Nat.le_of_ble_eq_true rfl) rfl ?_
                refine G_aload 0 dr_cX17_rename_69 rfl ?_
                refine Gw_callV (As := []) (gV_ok D I) (cp_1675_Row_usesA l hl0 D I P369824 F395935 q396386 p396399 p396400 p396401 p396402 p396403 p396404 p396405 hm396397 he396398 bp396399 bp396400 bp396403 bp396404 bp396405) dr_cX17_rename_71 ⟨wr_10_192, wr_1_39, wr_10_195, by decide, rfl, (Nat.le_of_ble_eq_true rfl), (Nat.le_of_ble_eq_true rfl)⟩ wr_10_193 wr_10_194 hm396397 he396398 rfl (show 0 + 0 ≤ 0 by first | omega | decide) (show 0 + 0 ≤ 0 by first | omega | decide) (Nat.le_of_ble_eq_true rfl) (fun r396418 w396419 dc396415 ds396416 hp396417 => ?_) (fun _ _ _ _ _ z => z.elim)
                obtain ⟨o396420, rfl, rfl, hdc, hds, bo396420, x396421, ht396422⟩ := hp396417
                change G _ _ _ _ _ _ _ (.int o396420 :: _) _ _ _
                refine G_widen (cs' := 0) (sl' := 0) (by omega) (by omega) ?_
                refine G_if_eq 92 dr_cX17_rename_74 (by decide +kernel) (fun hc396423 => ?_) (fun hc396423 => ?_)
                · have r396424 : o396420.toInt = 0 := gj_eq hc396423 (show Int32.toInt 0 = 0 by decide)
                  have bo396420' : gB o396420 0 0 := gB_t0 r396424
                  refine G_aload 0 dr_cX17_rename_92 rfl ?_
                  refine Gw_callV (As := []) (gV_ok D I) (cp_1699_Row_usesB l hl0 D I P369824 F395935 q396386 p396399 p396400 p396401 p396402 p396403 p396404 p396405 hm396397 he396398 bp396399 bp396400 bp396403 bp396404 bp396405) dr_cX17_rename_94 ⟨wr_10_196, wr_1_39, wr_10_199, by decide, rfl, (Nat.le_of_ble_eq_true rfl), (Nat.le_of_ble_eq_true rfl)⟩ wr_10_197 wr_10_198 hm396397 he396398 rfl (show 0 + 0 ≤ 0 by first | omega | decide) (show 0 + 0 ≤ 0 by first | omega | decide) (Nat.le_of_ble_eq_true rfl) (fun r396428 w396429 dc396425 ds396426 hp396427 => ?_) (fun _ _ _ _ _ z => z.elim)
                  obtain ⟨o396430, rfl, rfl, hdc, hds, bo396430, x396431, ht396432⟩ := hp396427
                  change G _ _ _ _ _ _ _ (.int o396430 :: _) _ _ _
                  refine G_widen (cs' := 0) (sl' := 0) (by omega) (by omega) ?_
                  refine G_if_eq 115 dr_cX17_rename_97 (by decide +kernel) (fun hc396433 => ?_) (fun hc396433 => ?_)
                  · have r396434 : o396430.toInt = 0 := gj_eq hc396433 (show Int32.toInt 0 = 0 by decide)
                    have bo396430' : gB o396430 0 0 := gB_t0 r396434
                    refine G_aload 0 dr_cX17_rename_115 rfl ?_
                    refine Gw_callV (As := []) (gV_ok D I) (cp_1660_Row_sets l hl0 D I P369824 F395935 q396386 p396399 p396400 p396401 p396402 p396403 p396404 p396405 hm396397 he396398 bp396399 bp396400 bp396403 bp396404 bp396405) dr_cX17_rename_117 ⟨wr_10_181, wr_1_39, wr_10_184, by decide, rfl, (Nat.le_of_ble_eq_true rfl), (Nat.le_of_ble_eq_true rfl)⟩ wr_10_182 wr_10_183 hm396397 he396398 rfl (show 0 + 0 ≤ 0 by first | omega | decide) (show 0 + 0 ≤ 0 by first | omega | decide) (Nat.le_of_ble_eq_true rfl) (fun r396438 w396439 dc396435 ds396436 hp396437 => ?_) (fun _ _ _ _ _ z => z.elim)
                    obtain ⟨o396440, rfl, rfl, hdc, hds, bo396440, ht396441⟩ := hp396437
                    change G _ _ _ _ _ _ _ (.int o396440 :: _) _ _ _
                    refine G_widen (cs' := 0) (sl' := 0) (by omega) (by omega) ?_
                    refine G_if_eq 138 dr_cX17_rename_120 (by decide +kernel) (fun hc396442 => ?_) (fun hc396442 => ?_)
                    · have r396443 : o396440.toInt = 0 := gj_eq hc396442 (show Int32.toInt 0 = 0 by decide)
                      have bo396440' : gB o396440 0 0 := gB_t0 r396443
                      obtain ⟨z396444, hz396444⟩ : ∃ z : Int32, z = g395934 + Int32.ofInt 1 := ⟨_, rfl⟩
                      have ez396444 : z396444.toInt = g395934.toInt + 1 := gI_inc hz396444 (by decide) bg395934'' (by decide) (by decide)
                      have bz396444 : gB z396444 1 1000000 := ⟨by omega, by omega⟩
                      refine G_iinc (L' := [(5, .int z396444), (6, .ref q396386), (4, .ref q395033), (3, .int g394972), (0, .ref q369826), (1, .int p369827), (2, .int p369828)]) z396444 1 dr_cX17_rename_138 rfl hz396444.symm (Nat.le_of_ble_eq_true rfl) rfl ?_
                      refine G_goto 20 dr_cX17_rename_141 (by decide +kernel) ?_
                      refine G_lv (L' := [(5, .int z396444), (4, .ref q395033), (3, .int g394972), (0, .ref q369826), (1, .int p369827), (2, .int p369828)]) [0, 2, 3, 4, 5, 6] rfl ?_
                      exact ih20_395940 F395935 z396444 (gB_w bz396444 (by decide) (by decide)) hT395936 hs395937 x395938 x395939 x395940 (mz_up ez396444 (Int.le_trans bg395934''.2 (by decide)) hm20_395940)
                    · have r396445 : o396440.toInt ≠ 0 := gj_neq hc396442 (show Int32.toInt 0 = 0 by decide)
                      have bo396440' : gB o396440 1 1 := gB_t1 bo396440 r396445
                      refine G_aload 0 dr_cX17_rename_123 rfl ?_
                      refine Gp_get 1 hm396397 he396398 dr_cX17_rename_125 (gk_X15 D I) (Nat.le_of_ble_eq_true rfl) wr_9_182 rfl ?_
                      refine G_iload_n 5 dr_cX17_rename_128 rfl ?_
                      refine G_icmp_ne 138 dr_cX17_rename_129 (by decide +kernel) (fun hc396446 => ?_) (fun hc396446 => ?_)
                      · have r396447 : p396400.toInt ≠ p369827.toInt := gC_ne hc396446
                        obtain ⟨z396448, hz396448⟩ : ∃ z : Int32, z = g395934 + Int32.ofInt 1 := ⟨_, rfl⟩
                        have ez396448 : z396448.toInt = g395934.toInt + 1 := gI_inc hz396448 (by decide) bg395934'' (by decide) (by decide)
                        have bz396448 : gB z396448 1 1000000 := ⟨by omega, by omega⟩
                        refine G_iinc (L' := [(5, .int z396448), (6, .ref q396386), (4, .ref q395033), (3, .int g394972), (0, .ref q369826), (1, .int p369827), (2, .int p369828)]) z396448 1 dr_cX17_rename_138 rfl hz396448.symm (Nat.le_of_ble_eq_true rfl) rfl ?_
                        refine G_goto 20 dr_cX17_rename_141 (by decide +kernel) ?_
                        refine G_lv (L' := [(5, .int z396448), (4, .ref q395033), (3, .int g394972), (0, .ref q369826), (1, .int p369827), (2, .int p369828)]) [0, 2, 3, 4, 5, 6] rfl ?_
                        exact ih20_395940 F395935 z396448 (gB_w bz396448 (by decide) (by decide)) hT395936 hs395937 x395938 x395939 x395940 (mz_up ez396448 (Int.le_trans bg395934''.2 (by decide)) hm20_395940)
                      · have r396449 : p396400.toInt = p369827.toInt := gC_eq hc396446
                        refine G_aload 0 dr_cX17_rename_132 rfl ?_
                        refine G_iload_n 6 dr_cX17_rename_134 rfl ?_
                        refine Gp_put 1 hm396397 he396398 dr_cX17_rename_135 (gk_X15 D I) (Nat.le_of_ble_eq_true rfl) wr_9_182 rfl rfl rfl (Nat.le_of_ble_eq_true rfl) (fun F396450 e396451 n396452 => ?_)
                        have he396453 : F396450 q369826 = .inr (18, [.ref q394984, .ref q394985, .int p394986, .int p394987]) := (n396452 q369826 (rn_oo he395943 he396398 (by decide))).trans he395943
                        have he396454 : F396450 q394984 = .inr (4, [.int p395014, .ref q395016, .int p395015]) := (n396452 q394984 (rn_oo he395944 he396398 (by decide))).trans he395944
                        have he396455 : F396450 q395016 = .inl (I (.object "java/lang/Object"), n395030, .inr (.inr (.inr (.inr f395031)))) := (n396452 q395016 (rn_ao he395945 he396398)).trans he395945
                        have he396456 : F396450 q395033 = .inr (17, [.ref q395042, .ref q395043, .int p395044, .int p395045]) := (n396452 q395033 (rn_oo he395946 he396398 (by decide))).trans he395946
                        have he396457 : F396450 q395042 = .inr (4, [.int p395950, .ref q395952, .int p395951]) := (n396452 q395042 (rn_oo he395949 he396398 (by decide))).trans he395949
                        have he396458 : F396450 q395952 = .inl (I (.object "java/lang/Object"), n396383, .inr (.inr (.inr (.inr f396384)))) := (n396452 q395952 (rn_ao r396377 he396398)).trans r396377
                        have he396459 : F396450 q396386 = .inr (20, [.int p396399, .int p369828, .int p396401, .int p396402, .int p396403, .int p396404, .int p396405]) := e396451
                        have hs396460 : rStr γ [1] F369825 F396450 := rStr_pu2 hs395937 n396452 ht396389 (by decide)
                        have fs396461 : rFs γ (γ 1 q369826) F369825 F396450 := rFs_put x395940 n396452 ((show γ 1 q396386 = γ 1 q395042 from ht396390).trans ((show γ 1 q395042 = γ 1 q395033 from ht395047).trans ((show γ 1 q395033 = γ 1 q394984 from ht395039).trans (show γ 1 q394984 = γ 1 q369826 from ht394989))))
                        have fk396462 : rFk [1] γ F369825 F396450 := rFk_put x395939 n396452 ht396389 (by decide)
                        obtain ⟨z396463, hz396463⟩ : ∃ z : Int32, z = g395934 + Int32.ofInt 1 := ⟨_, rfl⟩
                        have ez396463 : z396463.toInt = g395934.toInt + 1 := gI_inc hz396463 (by decide) bg395934'' (by decide) (by decide)
                        have bz396463 : gB z396463 1 1000000 := ⟨by omega, by omega⟩
                        refine G_iinc (L' := [(5, .int z396463), (6, .ref q396386), (4, .ref q395033), (3, .int g394972), (0, .ref q369826), (1, .int p369827), (2, .int p369828)]) z396463 1 dr_cX17_rename_138 rfl hz396463.symm (Nat.le_of_ble_eq_true rfl) rfl ?_
                        refine G_goto 20 dr_cX17_rename_141 (by decide +kernel) ?_
                        have hT396464 : RS D I P369824 F396450 γ el := RS_set hT395936 n396452 ht396389 (by decide) ⟨p396399, p369828, p396401, p396402, p396403, p396404, p396405, he396459, bp396399, bp369828, bp396403, bp396404, bp396405, r396406, r396407, r396408, r396409, r396410⟩
                        refine G_lv (L' := [(5, .int z396463), (4, .ref q395033), (3, .int g394972), (0, .ref q369826), (1, .int p369827), (2, .int p369828)]) [0, 2, 3, 4, 5, 6] rfl ?_
                        exact ih20_395940 F396450 z396463 (gB_w bz396463 (by decide) (by decide)) hT396464 hs396460 (fun N hv hu hp => rPl_put hT395936 htq369826 rfl (x395938 N hv hu hp) n396452 hp396411 nb396414 hL396412 (fun _ _ _ _ z => z) (rNx_ren he396398 he396459 hu hv (Or.inl rfl) (Or.inl rfl) (Or.inr ⟨rfl, by first | assumption | omega⟩) (by rw [← hp396411]; exact x395938 N hv hu hp _ nb396414 _ hL396412))) fk396462 fs396461 (mz_up ez396463 (Int.le_trans bg395934''.2 (by decide)) hm20_395940)
                  · have r396466 : o396430.toInt ≠ 0 := gj_neq hc396433 (show Int32.toInt 0 = 0 by decide)
                    have bo396430' : gB o396430 1 1 := gB_t1 bo396430 r396466
                    refine G_aload 0 dr_cX17_rename_100 rfl ?_
                    refine Gp_get 3 hm396397 he396398 dr_cX17_rename_102 (gk_X15 D I) (Nat.le_of_ble_eq_true rfl) wr_9_190 rfl ?_
                    refine G_iload_n 5 dr_cX17_rename_105 rfl ?_
                    refine G_icmp_ne 115 dr_cX17_rename_106 (by decide +kernel) (fun hc396467 => ?_) (fun hc396467 => ?_)
                    · have r396468 : p396402.toInt ≠ p369827.toInt := gC_ne hc396467
                      refine G_aload 0 dr_cX17_rename_115 rfl ?_
                      refine Gw_callV (As := []) (gV_ok D I) (cp_1660_Row_sets l hl0 D I P369824 F395935 q396386 p396399 p396400 p396401 p396402 p396403 p396404 p396405 hm396397 he396398 bp396399 bp396400 bp396403 bp396404 bp396405) dr_cX17_rename_117 ⟨wr_10_181, wr_1_39, wr_10_184, by decide, rfl, (Nat.le_of_ble_eq_true rfl), (Nat.le_of_ble_eq_true rfl)⟩ wr_10_182 wr_10_183 hm396397 he396398 rfl (show 0 + 0 ≤ 0 by first | omega | decide) (show 0 + 0 ≤ 0 by first | omega | decide) (Nat.le_of_ble_eq_true rfl) (fun r396472 w396473 dc396469 ds396470 hp396471 => ?_) (fun _ _ _ _ _ z => z.elim)
                      obtain ⟨o396474, rfl, rfl, hdc, hds, bo396474, ht396475⟩ := hp396471
                      change G _ _ _ _ _ _ _ (.int o396474 :: _) _ _ _
                      refine G_widen (cs' := 0) (sl' := 0) (by omega) (by omega) ?_
                      refine G_if_eq 138 dr_cX17_rename_120 (by decide +kernel) (fun hc396476 => ?_) (fun hc396476 => ?_)
                      · have r396477 : o396474.toInt = 0 := gj_eq hc396476 (show Int32.toInt 0 = 0 by decide)
                        have bo396474' : gB o396474 0 0 := gB_t0 r396477
                        obtain ⟨z396478, hz396478⟩ : ∃ z : Int32, z = g395934 + Int32.ofInt 1 := ⟨_, rfl⟩
                        have ez396478 : z396478.toInt = g395934.toInt + 1 := gI_inc hz396478 (by decide) bg395934'' (by decide) (by decide)
                        have bz396478 : gB z396478 1 1000000 := ⟨by omega, by omega⟩
                        refine G_iinc (L' := [(5, .int z396478), (6, .ref q396386), (4, .ref q395033), (3, .int g394972), (0, .ref q369826), (1, .int p369827), (2, .int p369828)]) z396478 1 dr_cX17_rename_138 rfl hz396478.symm (Nat.le_of_ble_eq_true rfl) rfl ?_
                        refine G_goto 20 dr_cX17_rename_141 (by decide +kernel) ?_
                        refine G_lv (L' := [(5, .int z396478), (4, .ref q395033), (3, .int g394972), (0, .ref q369826), (1, .int p369827), (2, .int p369828)]) [0, 2, 3, 4, 5, 6] rfl ?_
                        exact ih20_395940 F395935 z396478 (gB_w bz396478 (by decide) (by decide)) hT395936 hs395937 x395938 x395939 x395940 (mz_up ez396478 (Int.le_trans bg395934''.2 (by decide)) hm20_395940)
                      · have r396479 : o396474.toInt ≠ 0 := gj_neq hc396476 (show Int32.toInt 0 = 0 by decide)
                        have bo396474' : gB o396474 1 1 := gB_t1 bo396474 r396479
                        refine G_aload 0 dr_cX17_rename_123 rfl ?_
                        refine Gp_get 1 hm396397 he396398 dr_cX17_rename_125 (gk_X15 D I) (Nat.le_of_ble_eq_true rfl) wr_9_182 rfl ?_
                        refine G_iload_n 5 dr_cX17_rename_128 rfl ?_
                        refine G_icmp_ne 138 dr_cX17_rename_129 (by decide +kernel) (fun hc396480 => ?_) (fun hc396480 => ?_)
                        · have r396481 : p396400.toInt ≠ p369827.toInt := gC_ne hc396480
                          obtain ⟨z396482, hz396482⟩ : ∃ z : Int32, z = g395934 + Int32.ofInt 1 := ⟨_, rfl⟩
                          have ez396482 : z396482.toInt = g395934.toInt + 1 := gI_inc hz396482 (by decide) bg395934'' (by decide) (by decide)
                          have bz396482 : gB z396482 1 1000000 := ⟨by omega, by omega⟩
                          refine G_iinc (L' := [(5, .int z396482), (6, .ref q396386), (4, .ref q395033), (3, .int g394972), (0, .ref q369826), (1, .int p369827), (2, .int p369828)]) z396482 1 dr_cX17_rename_138 rfl hz396482.symm (Nat.le_of_ble_eq_true rfl) rfl ?_
                          refine G_goto 20 dr_cX17_rename_141 (by decide +kernel) ?_
                          refine G_lv (L' := [(5, .int z396482), (4, .ref q395033), (3, .int g394972), (0, .ref q369826), (1, .int p369827), (2, .int p369828)]) [0, 2, 3, 4, 5, 6] rfl ?_
                          exact ih20_395940 F395935 z396482 (gB_w bz396482 (by decide) (by decide)) hT395936 hs395937 x395938 x395939 x395940 (mz_up ez396482 (Int.le_trans bg395934''.2 (by decide)) hm20_395940)
                        · have r396483 : p396400.toInt = p369827.toInt := gC_eq hc396480
                          refine G_aload 0 dr_cX17_rename_132 rfl ?_
                          refine G_iload_n 6 dr_cX17_rename_134 rfl ?_
                          refine Gp_put 1 hm396397 he396398 dr_cX17_rename_135 (gk_X15 D I) (Nat.le_of_ble_eq_true rfl) wr_9_182 rfl rfl rfl (Nat.le_of_ble_eq_true rfl) (fun F396484 e396485 n396486 => ?_)
                          have he396487 : F396484 q369826 = .inr (18, [.ref q394984, .ref q394985, .int p394986, .int p394987]) := (n396486 q369826 (rn_oo he395943 he396398 (by decide))).trans he395943
                          have he396488 : F396484 q394984 = .inr (4, [.int p395014, .ref q395016, .int p395015]) := (n396486 q394984 (rn_oo he395944 he396398 (by decide))).trans he395944
                          have he396489 : F396484 q395016 = .inl (I (.object "java/lang/Object"), n395030, .inr (.inr (.inr (.inr f395031)))) := (n396486 q395016 (rn_ao he395945 he396398)).trans he395945
                          have he396490 : F396484 q395033 = .inr (17, [.ref q395042, .ref q395043, .int p395044, .int p395045]) := (n396486 q395033 (rn_oo he395946 he396398 (by decide))).trans he395946
                          have he396491 : F396484 q395042 = .inr (4, [.int p395950, .ref q395952, .int p395951]) := (n396486 q395042 (rn_oo he395949 he396398 (by decide))).trans he395949
                          have he396492 : F396484 q395952 = .inl (I (.object "java/lang/Object"), n396383, .inr (.inr (.inr (.inr f396384)))) := (n396486 q395952 (rn_ao r396377 he396398)).trans r396377
                          have he396493 : F396484 q396386 = .inr (20, [.int p396399, .int p369828, .int p396401, .int p396402, .int p396403, .int p396404, .int p396405]) := e396485
                          have hs396494 : rStr γ [1] F369825 F396484 := rStr_pu2 hs395937 n396486 ht396389 (by decide)
                          have fs396495 : rFs γ (γ 1 q369826) F369825 F396484 := rFs_put x395940 n396486 ((show γ 1 q396386 = γ 1 q395042 from ht396390).trans ((show γ 1 q395042 = γ 1 q395033 from ht395047).trans ((show γ 1 q395033 = γ 1 q394984 from ht395039).trans (show γ 1 q394984 = γ 1 q369826 from ht394989))))
                          have fk396496 : rFk [1] γ F369825 F396484 := rFk_put x395939 n396486 ht396389 (by decide)
                          obtain ⟨z396497, hz396497⟩ : ∃ z : Int32, z = g395934 + Int32.ofInt 1 := ⟨_, rfl⟩
                          have ez396497 : z396497.toInt = g395934.toInt + 1 := gI_inc hz396497 (by decide) bg395934'' (by decide) (by decide)
                          have bz396497 : gB z396497 1 1000000 := ⟨by omega, by omega⟩
                          refine G_iinc (L' := [(5, .int z396497), (6, .ref q396386), (4, .ref q395033), (3, .int g394972), (0, .ref q369826), (1, .int p369827), (2, .int p369828)]) z396497 1 dr_cX17_rename_138 rfl hz396497.symm (Nat.le_of_ble_eq_true rfl) rfl ?_
                          refine G_goto 20 dr_cX17_rename_141 (by decide +kernel) ?_
                          have hT396498 : RS D I P369824 F396484 γ el := RS_set hT395936 n396486 ht396389 (by decide) ⟨p396399, p369828, p396401, p396402, p396403, p396404, p396405, he396493, bp396399, bp369828, bp396403, bp396404, bp396405, r396406, r396407, r396408, r396409, r396410⟩
                          refine G_lv (L' := [(5, .int z396497), (4, .ref q395033), (3, .int g394972), (0, .ref q369826), (1, .int p369827), (2, .int p369828)]) [0, 2, 3, 4, 5, 6] rfl ?_
                          exact ih20_395940 F396484 z396497 (gB_w bz396497 (by decide) (by decide)) hT396498 hs396494 (fun N hv hu hp => rPl_put hT395936 htq369826 rfl (x395938 N hv hu hp) n396486 hp396411 nb396414 hL396412 (fun _ _ _ _ z => z) (rNx_ren he396398 he396493 hu hv (Or.inl rfl) (Or.inl rfl) (Or.inr ⟨rfl, by first | assumption | omega⟩) (by rw [← hp396411]; exact x395938 N hv hu hp _ nb396414 _ hL396412))) fk396496 fs396495 (mz_up ez396497 (Int.le_trans bg395934''.2 (by decide)) hm20_395940)
                    · have r396500 : p396402.toInt = p369827.toInt := gC_eq hc396467
                      have bp396402' : gB p396402 0 1999 := ⟨by omega, by omega⟩
                      refine G_aload 0 dr_cX17_rename_109 rfl ?_
                      refine G_iload_n 6 dr_cX17_rename_111 rfl ?_
                      refine Gp_put 3 hm396397 he396398 dr_cX17_rename_112 (gk_X15 D I) (Nat.le_of_ble_eq_true rfl) wr_9_190 rfl rfl rfl (Nat.le_of_ble_eq_true rfl) (fun F396501 e396502 n396503 => ?_)
                      have he396504 : F396501 q369826 = .inr (18, [.ref q394984, .ref q394985, .int p394986, .int p394987]) := (n396503 q369826 (rn_oo he395943 he396398 (by decide))).trans he395943
                      have he396505 : F396501 q394984 = .inr (4, [.int p395014, .ref q395016, .int p395015]) := (n396503 q394984 (rn_oo he395944 he396398 (by decide))).trans he395944
                      have he396506 : F396501 q395016 = .inl (I (.object "java/lang/Object"), n395030, .inr (.inr (.inr (.inr f395031)))) := (n396503 q395016 (rn_ao he395945 he396398)).trans he395945
                      have he396507 : F396501 q395033 = .inr (17, [.ref q395042, .ref q395043, .int p395044, .int p395045]) := (n396503 q395033 (rn_oo he395946 he396398 (by decide))).trans he395946
                      have he396508 : F396501 q395042 = .inr (4, [.int p395950, .ref q395952, .int p395951]) := (n396503 q395042 (rn_oo he395949 he396398 (by decide))).trans he395949
                      have he396509 : F396501 q395952 = .inl (I (.object "java/lang/Object"), n396383, .inr (.inr (.inr (.inr f396384)))) := (n396503 q395952 (rn_ao r396377 he396398)).trans r396377
                      have he396510 : F396501 q396386 = .inr (20, [.int p396399, .int p396400, .int p396401, .int p369828, .int p396403, .int p396404, .int p396405]) := e396502
                      have hs396511 : rStr γ [1] F369825 F396501 := rStr_pu2 hs395937 n396503 ht396389 (by decide)
                      have fs396512 : rFs γ (γ 1 q369826) F369825 F396501 := rFs_put x395940 n396503 ((show γ 1 q396386 = γ 1 q395042 from ht396390).trans ((show γ 1 q395042 = γ 1 q395033 from ht395047).trans ((show γ 1 q395033 = γ 1 q394984 from ht395039).trans (show γ 1 q394984 = γ 1 q369826 from ht394989))))
                      have fk396513 : rFk [1] γ F369825 F396501 := rFk_put x395939 n396503 ht396389 (by decide)
                      refine G_aload 0 dr_cX17_rename_115 rfl ?_
                      have hT396514 : RS D I P369824 F396501 γ el := RS_set hT395936 n396503 ht396389 (by decide) ⟨p396399, p396400, p396401, p369828, p396403, p396404, p396405, he396510, bp396399, bp396400, bp396403, bp396404, bp396405, r396406, r396407, (Or.inr bp369828), r396409, r396410⟩
                      refine Gw_callV (As := []) (gV_ok D I) (cp_1660_Row_sets l hl0 D I P369824 F396501 q396386 p396399 p396400 p396401 p369828 p396403 p396404 p396405 hm396397 he396510 bp396399 bp396400 bp396403 bp396404 bp396405) dr_cX17_rename_117 ⟨wr_10_181, wr_1_39, wr_10_184, by decide, rfl, (Nat.le_of_ble_eq_true rfl), (Nat.le_of_ble_eq_true rfl)⟩ wr_10_182 wr_10_183 hm396397 he396510 rfl (show 0 + 0 ≤ 0 by first | omega | decide) (show 0 + 0 ≤ 0 by first | omega | decide) (Nat.le_of_ble_eq_true rfl) (fun r396519 w396520 dc396516 ds396517 hp396518 => ?_) (fun _ _ _ _ _ z => z.elim)
                      obtain ⟨o396521, rfl, rfl, hdc, hds, bo396521, ht396522⟩ := hp396518
                      change G _ _ _ _ _ _ _ (.int o396521 :: _) _ _ _
                      refine G_widen (cs' := 0) (sl' := 0) (by omega) (by omega) ?_
                      refine G_if_eq 138 dr_cX17_rename_120 (by decide +kernel) (fun hc396523 => ?_) (fun hc396523 => ?_)
                      · have r396524 : o396521.toInt = 0 := gj_eq hc396523 (show Int32.toInt 0 = 0 by decide)
                        have bo396521' : gB o396521 0 0 := gB_t0 r396524
                        obtain ⟨z396525, hz396525⟩ : ∃ z : Int32, z = g395934 + Int32.ofInt 1 := ⟨_, rfl⟩
                        have ez396525 : z396525.toInt = g395934.toInt + 1 := gI_inc hz396525 (by decide) bg395934'' (by decide) (by decide)
                        have bz396525 : gB z396525 1 1000000 := ⟨by omega, by omega⟩
                        refine G_iinc (L' := [(5, .int z396525), (6, .ref q396386), (4, .ref q395033), (3, .int g394972), (0, .ref q369826), (1, .int p369827), (2, .int p369828)]) z396525 1 dr_cX17_rename_138 rfl hz396525.symm (Nat.le_of_ble_eq_true rfl) rfl ?_
                        refine G_goto 20 dr_cX17_rename_141 (by decide +kernel) ?_
                        refine G_lv (L' := [(5, .int z396525), (4, .ref q395033), (3, .int g394972), (0, .ref q369826), (1, .int p369827), (2, .int p369828)]) [0, 2, 3, 4, 5, 6] rfl ?_
                        exact ih20_395940 F396501 z396525 (gB_w bz396525 (by decide) (by decide)) hT396514 hs396511 (fun N hv hu hp => rPl_put hT395936 htq369826 rfl (x395938 N hv hu hp) n396503 hp396411 nb396414 hL396412 (fun _ _ _ _ z => z) (rNx_ren he396398 he396510 hu hv (Or.inl rfl) (Or.inr rfl) (Or.inl rfl) (by rw [← hp396411]; exact x395938 N hv hu hp _ nb396414 _ hL396412))) fk396513 fs396512 (mz_up ez396525 (Int.le_trans bg395934''.2 (by decide)) hm20_395940)
                      · have r396526 : o396521.toInt ≠ 0 := gj_neq hc396523 (show Int32.toInt 0 = 0 by decide)
                        have bo396521' : gB o396521 1 1 := gB_t1 bo396521 r396526
                        refine G_aload 0 dr_cX17_rename_123 rfl ?_
                        refine Gp_get 1 hm396397 he396510 dr_cX17_rename_125 (gk_X15 D I) (Nat.le_of_ble_eq_true rfl) wr_9_182 rfl ?_
                        refine G_iload_n 5 dr_cX17_rename_128 rfl ?_
                        refine G_icmp_ne 138 dr_cX17_rename_129 (by decide +kernel) (fun hc396527 => ?_) (fun hc396527 => ?_)
                        · have r396528 : p396400.toInt ≠ p369827.toInt := gC_ne hc396527
                          obtain ⟨z396529, hz396529⟩ : ∃ z : Int32, z = g395934 + Int32.ofInt 1 := ⟨_, rfl⟩
                          have ez396529 : z396529.toInt = g395934.toInt + 1 := gI_inc hz396529 (by decide) bg395934'' (by decide) (by decide)
                          have bz396529 : gB z396529 1 1000000 := ⟨by omega, by omega⟩
                          refine G_iinc (L' := [(5, .int z396529), (6, .ref q396386), (4, .ref q395033), (3, .int g394972), (0, .ref q369826), (1, .int p369827), (2, .int p369828)]) z396529 1 dr_cX17_rename_138 rfl hz396529.symm (Nat.le_of_ble_eq_true rfl) rfl ?_
                          refine G_goto 20 dr_cX17_rename_141 (by decide +kernel) ?_
                          refine G_lv (L' := [(5, .int z396529), (4, .ref q395033), (3, .int g394972), (0, .ref q369826), (1, .int p369827), (2, .int p369828)]) [0, 2, 3, 4, 5, 6] rfl ?_
                          exact ih20_395940 F396501 z396529 (gB_w bz396529 (by decide) (by decide)) hT396514 hs396511 (fun N hv hu hp => rPl_put hT395936 htq369826 rfl (x395938 N hv hu hp) n396503 hp396411 nb396414 hL396412 (fun _ _ _ _ z => z) (rNx_ren he396398 he396510 hu hv (Or.inl rfl) (Or.inr rfl) (Or.inl rfl) (by rw [← hp396411]; exact x395938 N hv hu hp _ nb396414 _ hL396412))) fk396513 fs396512 (mz_up ez396529 (Int.le_trans bg395934''.2 (by decide)) hm20_395940)
                        · have r396530 : p396400.toInt = p369827.toInt := gC_eq hc396527
                          refine G_aload 0 dr_cX17_rename_132 rfl ?_
                          refine G_iload_n 6 dr_cX17_rename_134 rfl ?_
                          refine Gp_put 1 hm396397 he396510 dr_cX17_rename_135 (gk_X15 D I) (Nat.le_of_ble_eq_true rfl) wr_9_182 rfl rfl rfl (Nat.le_of_ble_eq_true rfl) (fun F396531 e396532 n396533 => ?_)
                          have he396534 : F396531 q369826 = .inr (18, [.ref q394984, .ref q394985, .int p394986, .int p394987]) := (n396533 q369826 (rn_oo he396504 he396510 (by decide))).trans he396504
                          have he396535 : F396531 q394984 = .inr (4, [.int p395014, .ref q395016, .int p395015]) := (n396533 q394984 (rn_oo he396505 he396510 (by decide))).trans he396505
                          have he396536 : F396531 q395016 = .inl (I (.object "java/lang/Object"), n395030, .inr (.inr (.inr (.inr f395031)))) := (n396533 q395016 (rn_ao he396506 he396510)).trans he396506
                          have he396537 : F396531 q395033 = .inr (17, [.ref q395042, .ref q395043, .int p395044, .int p395045]) := (n396533 q395033 (rn_oo he396507 he396510 (by decide))).trans he396507
                          have he396538 : F396531 q395042 = .inr (4, [.int p395950, .ref q395952, .int p395951]) := (n396533 q395042 (rn_oo he396508 he396510 (by decide))).trans he396508
                          have he396539 : F396531 q395952 = .inl (I (.object "java/lang/Object"), n396383, .inr (.inr (.inr (.inr f396384)))) := (n396533 q395952 (rn_ao he396509 he396510)).trans he396509
                          have he396540 : F396531 q396386 = .inr (20, [.int p396399, .int p369828, .int p396401, .int p369828, .int p396403, .int p396404, .int p396405]) := e396532
                          have hs396541 : rStr γ [1] F369825 F396531 := rStr_pu2 hs396511 n396533 ht396389 (by decide)
                          have fs396542 : rFs γ (γ 1 q369826) F369825 F396531 := rFs_put fs396512 n396533 ((show γ 1 q396386 = γ 1 q395042 from ht396390).trans ((show γ 1 q395042 = γ 1 q395033 from ht395047).trans ((show γ 1 q395033 = γ 1 q394984 from ht395039).trans (show γ 1 q394984 = γ 1 q369826 from ht394989))))
                          have fk396543 : rFk [1] γ F369825 F396531 := rFk_put fk396513 n396533 ht396389 (by decide)
                          obtain ⟨z396544, hz396544⟩ : ∃ z : Int32, z = g395934 + Int32.ofInt 1 := ⟨_, rfl⟩
                          have ez396544 : z396544.toInt = g395934.toInt + 1 := gI_inc hz396544 (by decide) bg395934'' (by decide) (by decide)
                          have bz396544 : gB z396544 1 1000000 := ⟨by omega, by omega⟩
                          refine G_iinc (L' := [(5, .int z396544), (6, .ref q396386), (4, .ref q395033), (3, .int g394972), (0, .ref q369826), (1, .int p369827), (2, .int p369828)]) z396544 1 dr_cX17_rename_138 rfl hz396544.symm (Nat.le_of_ble_eq_true rfl) rfl ?_
                          refine G_goto 20 dr_cX17_rename_141 (by decide +kernel) ?_
                          have hT396545 : RS D I P369824 F396531 γ el := RS_set hT396514 n396533 ht396389 (by decide) ⟨p396399, p369828, p396401, p369828, p396403, p396404, p396405, he396540, bp396399, bp369828, bp396403, bp396404, bp396405, r396406, r396407, (Or.inr bp369828), r396409, r396410⟩
                          have of396546 : ∀ b, b ≠ q396386 → F396531 b = F395935 b := fun b hb => (n396533 b hb).trans (n396503 b hb)
                          refine G_lv (L' := [(5, .int z396544), (4, .ref q395033), (3, .int g394972), (0, .ref q369826), (1, .int p369827), (2, .int p369828)]) [0, 2, 3, 4, 5, 6] rfl ?_
                          exact ih20_395940 F396531 z396544 (gB_w bz396544 (by decide) (by decide)) hT396545 hs396541 (fun N hv hu hp => rPl_put hT395936 htq369826 rfl (x395938 N hv hu hp) of396546 hp396411 nb396414 hL396412 (fun _ _ _ _ z => z) (rNx_ren he396398 he396540 hu hv (Or.inl rfl) (Or.inr rfl) (Or.inr ⟨rfl, by first | assumption | omega⟩) (by rw [← hp396411]; exact x395938 N hv hu hp _ nb396414 _ hL396412))) fk396543 fs396542 (mz_up ez396544 (Int.le_trans bg395934''.2 (by decide)) hm20_395940)
                · have r396547 : o396420.toInt ≠ 0 := gj_neq hc396423 (show Int32.toInt 0 = 0 by decide)
                  have bo396420' : gB o396420 1 1 := gB_t1 bo396420 r396547
                  refine G_aload 0 dr_cX17_rename_77 rfl ?_
                  refine Gp_get 2 hm396397 he396398 dr_cX17_rename_79 (gk_X15 D I) (Nat.le_of_ble_eq_true rfl) wr_9_186 rfl ?_
                  refine G_iload_n 5 dr_cX17_rename_82 rfl ?_
                  refine G_icmp_ne 92 dr_cX17_rename_83 (by decide +kernel) (fun hc396548 => ?_) (fun hc396548 => ?_)
                  · have r396549 : p396401.toInt ≠ p369827.toInt := gC_ne hc396548
                    refine G_aload 0 dr_cX17_rename_92 rfl ?_
                    refine Gw_callV (As := []) (gV_ok D I) (cp_1699_Row_usesB l hl0 D I P369824 F395935 q396386 p396399 p396400 p396401 p396402 p396403 p396404 p396405 hm396397 he396398 bp396399 bp396400 bp396403 bp396404 bp396405) dr_cX17_rename_94 ⟨wr_10_196, wr_1_39, wr_10_199, by decide, rfl, (Nat.le_of_ble_eq_true rfl), (Nat.le_of_ble_eq_true rfl)⟩ wr_10_197 wr_10_198 hm396397 he396398 rfl (show 0 + 0 ≤ 0 by first | omega | decide) (show 0 + 0 ≤ 0 by first | omega | decide) (Nat.le_of_ble_eq_true rfl) (fun r396553 w396554 dc396550 ds396551 hp396552 => ?_) (fun _ _ _ _ _ z => z.elim)
                    obtain ⟨o396555, rfl, rfl, hdc, hds, bo396555, x396556, ht396557⟩ := hp396552
                    change G _ _ _ _ _ _ _ (.int o396555 :: _) _ _ _
                    refine G_widen (cs' := 0) (sl' := 0) (by omega) (by omega) ?_
                    refine G_if_eq 115 dr_cX17_rename_97 (by decide +kernel) (fun hc396558 => ?_) (fun hc396558 => ?_)
                    · have r396559 : o396555.toInt = 0 := gj_eq hc396558 (show Int32.toInt 0 = 0 by decide)
                      have bo396555' : gB o396555 0 0 := gB_t0 r396559
                      refine G_aload 0 dr_cX17_rename_115 rfl ?_
                      refine Gw_callV (As := []) (gV_ok D I) (cp_1660_Row_sets l hl0 D I P369824 F395935 q396386 p396399 p396400 p396401 p396402 p396403 p396404 p396405 hm396397 he396398 bp396399 bp396400 bp396403 bp396404 bp396405) dr_cX17_rename_117 ⟨wr_10_181, wr_1_39, wr_10_184, by decide, rfl, (Nat.le_of_ble_eq_true rfl), (Nat.le_of_ble_eq_true rfl)⟩ wr_10_182 wr_10_183 hm396397 he396398 rfl (show 0 + 0 ≤ 0 by first | omega | decide) (show 0 + 0 ≤ 0 by first | omega | decide) (Nat.le_of_ble_eq_true rfl) (fun r396563 w396564 dc396560 ds396561 hp396562 => ?_) (fun _ _ _ _ _ z => z.elim)
                      obtain ⟨o396565, rfl, rfl, hdc, hds, bo396565, ht396566⟩ := hp396562
                      change G _ _ _ _ _ _ _ (.int o396565 :: _) _ _ _
                      refine G_widen (cs' := 0) (sl' := 0) (by omega) (by omega) ?_
                      refine G_if_eq 138 dr_cX17_rename_120 (by decide +kernel) (fun hc396567 => ?_) (fun hc396567 => ?_)
                      · have r396568 : o396565.toInt = 0 := gj_eq hc396567 (show Int32.toInt 0 = 0 by decide)
                        have bo396565' : gB o396565 0 0 := gB_t0 r396568
                        obtain ⟨z396569, hz396569⟩ : ∃ z : Int32, z = g395934 + Int32.ofInt 1 := ⟨_, rfl⟩
                        have ez396569 : z396569.toInt = g395934.toInt + 1 := gI_inc hz396569 (by decide) bg395934'' (by decide) (by decide)
                        have bz396569 : gB z396569 1 1000000 := ⟨by omega, by omega⟩
                        refine G_iinc (L' := [(5, .int z396569), (6, .ref q396386), (4, .ref q395033), (3, .int g394972), (0, .ref q369826), (1, .int p369827), (2, .int p369828)]) z396569 1 dr_cX17_rename_138 rfl hz396569.symm (Nat.le_of_ble_eq_true rfl) rfl ?_
                        refine G_goto 20 dr_cX17_rename_141 (by decide +kernel) ?_
                        refine G_lv (L' := [(5, .int z396569), (4, .ref q395033), (3, .int g394972), (0, .ref q369826), (1, .int p369827), (2, .int p369828)]) [0, 2, 3, 4, 5, 6] rfl ?_
                        exact ih20_395940 F395935 z396569 (gB_w bz396569 (by decide) (by decide)) hT395936 hs395937 x395938 x395939 x395940 (mz_up ez396569 (Int.le_trans bg395934''.2 (by decide)) hm20_395940)
                      · have r396570 : o396565.toInt ≠ 0 := gj_neq hc396567 (show Int32.toInt 0 = 0 by decide)
                        have bo396565' : gB o396565 1 1 := gB_t1 bo396565 r396570
                        refine G_aload 0 dr_cX17_rename_123 rfl ?_
                        refine Gp_get 1 hm396397 he396398 dr_cX17_rename_125 (gk_X15 D I) (Nat.le_of_ble_eq_true rfl) wr_9_182 rfl ?_
                        refine G_iload_n 5 dr_cX17_rename_128 rfl ?_
                        refine G_icmp_ne 138 dr_cX17_rename_129 (by decide +kernel) (fun hc396571 => ?_) (fun hc396571 => ?_)
                        · have r396572 : p396400.toInt ≠ p369827.toInt := gC_ne hc396571
                          obtain ⟨z396573, hz396573⟩ : ∃ z : Int32, z = g395934 + Int32.ofInt 1 := ⟨_, rfl⟩
                          have ez396573 : z396573.toInt = g395934.toInt + 1 := gI_inc hz396573 (by decide) bg395934'' (by decide) (by decide)
                          have bz396573 : gB z396573 1 1000000 := ⟨by omega, by omega⟩
                          refine G_iinc (L' := [(5, .int z396573), (6, .ref q396386), (4, .ref q395033), (3, .int g394972), (0, .ref q369826), (1, .int p369827), (2, .int p369828)]) z396573 1 dr_cX17_rename_138 rfl hz396573.symm (Nat.le_of_ble_eq_true rfl) rfl ?_
                          refine G_goto 20 dr_cX17_rename_141 (by decide +kernel) ?_
                          refine G_lv (L' := [(5, .int z396573), (4, .ref q395033), (3, .int g394972), (0, .ref q369826), (1, .int p369827), (2, .int p369828)]) [0, 2, 3, 4, 5, 6] rfl ?_
                          exact ih20_395940 F395935 z396573 (gB_w bz396573 (by decide) (by decide)) hT395936 hs395937 x395938 x395939 x395940 (mz_up ez396573 (Int.le_trans bg395934''.2 (by decide)) hm20_395940)
                        · have r396574 : p396400.toInt = p369827.toInt := gC_eq hc396571
                          refine G_aload 0 dr_cX17_rename_132 rfl ?_
                          refine G_iload_n 6 dr_cX17_rename_134 rfl ?_
                          refine Gp_put 1 hm396397 he396398 dr_cX17_rename_135 (gk_X15 D I) (Nat.le_of_ble_eq_true rfl) wr_9_182 rfl rfl rfl (Nat.le_of_ble_eq_true rfl) (fun F396575 e396576 n396577 => ?_)
                          have he396578 : F396575 q369826 = .inr (18, [.ref q394984, .ref q394985, .int p394986, .int p394987]) := (n396577 q369826 (rn_oo he395943 he396398 (by decide))).trans he395943
                          have he396579 : F396575 q394984 = .inr (4, [.int p395014, .ref q395016, .int p395015]) := (n396577 q394984 (rn_oo he395944 he396398 (by decide))).trans he395944
                          have he396580 : F396575 q395016 = .inl (I (.object "java/lang/Object"), n395030, .inr (.inr (.inr (.inr f395031)))) := (n396577 q395016 (rn_ao he395945 he396398)).trans he395945
                          have he396581 : F396575 q395033 = .inr (17, [.ref q395042, .ref q395043, .int p395044, .int p395045]) := (n396577 q395033 (rn_oo he395946 he396398 (by decide))).trans he395946
                          have he396582 : F396575 q395042 = .inr (4, [.int p395950, .ref q395952, .int p395951]) := (n396577 q395042 (rn_oo he395949 he396398 (by decide))).trans he395949
                          have he396583 : F396575 q395952 = .inl (I (.object "java/lang/Object"), n396383, .inr (.inr (.inr (.inr f396384)))) := (n396577 q395952 (rn_ao r396377 he396398)).trans r396377
                          have he396584 : F396575 q396386 = .inr (20, [.int p396399, .int p369828, .int p396401, .int p396402, .int p396403, .int p396404, .int p396405]) := e396576
                          have hs396585 : rStr γ [1] F369825 F396575 := rStr_pu2 hs395937 n396577 ht396389 (by decide)
                          have fs396586 : rFs γ (γ 1 q369826) F369825 F396575 := rFs_put x395940 n396577 ((show γ 1 q396386 = γ 1 q395042 from ht396390).trans ((show γ 1 q395042 = γ 1 q395033 from ht395047).trans ((show γ 1 q395033 = γ 1 q394984 from ht395039).trans (show γ 1 q394984 = γ 1 q369826 from ht394989))))
                          have fk396587 : rFk [1] γ F369825 F396575 := rFk_put x395939 n396577 ht396389 (by decide)
                          obtain ⟨z396588, hz396588⟩ : ∃ z : Int32, z = g395934 + Int32.ofInt 1 := ⟨_, rfl⟩
                          have ez396588 : z396588.toInt = g395934.toInt + 1 := gI_inc hz396588 (by decide) bg395934'' (by decide) (by decide)
                          have bz396588 : gB z396588 1 1000000 := ⟨by omega, by omega⟩
                          refine G_iinc (L' := [(5, .int z396588), (6, .ref q396386), (4, .ref q395033), (3, .int g394972), (0, .ref q369826), (1, .int p369827), (2, .int p369828)]) z396588 1 dr_cX17_rename_138 rfl hz396588.symm (Nat.le_of_ble_eq_true rfl) rfl ?_
                          refine G_goto 20 dr_cX17_rename_141 (by decide +kernel) ?_
                          have hT396589 : RS D I P369824 F396575 γ el := RS_set hT395936 n396577 ht396389 (by decide) ⟨p396399, p369828, p396401, p396402, p396403, p396404, p396405, he396584, bp396399, bp369828, bp396403, bp396404, bp396405, r396406, r396407, r396408, r396409, r396410⟩
                          refine G_lv (L' := [(5, .int z396588), (4, .ref q395033), (3, .int g394972), (0, .ref q369826), (1, .int p369827), (2, .int p369828)]) [0, 2, 3, 4, 5, 6] rfl ?_
                          exact ih20_395940 F396575 z396588 (gB_w bz396588 (by decide) (by decide)) hT396589 hs396585 (fun N hv hu hp => rPl_put hT395936 htq369826 rfl (x395938 N hv hu hp) n396577 hp396411 nb396414 hL396412 (fun _ _ _ _ z => z) (rNx_ren he396398 he396584 hu hv (Or.inl rfl) (Or.inl rfl) (Or.inr ⟨rfl, by first | assumption | omega⟩) (by rw [← hp396411]; exact x395938 N hv hu hp _ nb396414 _ hL396412))) fk396587 fs396586 (mz_up ez396588 (Int.le_trans bg395934''.2 (by decide)) hm20_395940)
                    · have r396591 : o396555.toInt ≠ 0 := gj_neq hc396558 (show Int32.toInt 0 = 0 by decide)
                      have bo396555' : gB o396555 1 1 := gB_t1 bo396555 r396591
                      refine G_aload 0 dr_cX17_rename_100 rfl ?_
                      refine Gp_get 3 hm396397 he396398 dr_cX17_rename_102 (gk_X15 D I) (Nat.le_of_ble_eq_true rfl) wr_9_190 rfl ?_
                      refine G_iload_n 5 dr_cX17_rename_105 rfl ?_
                      refine G_icmp_ne 115 dr_cX17_rename_106 (by decide +kernel) (fun hc396592 => ?_) (fun hc396592 => ?_)
                      · have r396593 : p396402.toInt ≠ p369827.toInt := gC_ne hc396592
                        refine G_aload 0 dr_cX17_rename_115 rfl ?_
                        refine Gw_callV (As := []) (gV_ok D I) (cp_1660_Row_sets l hl0 D I P369824 F395935 q396386 p396399 p396400 p396401 p396402 p396403 p396404 p396405 hm396397 he396398 bp396399 bp396400 bp396403 bp396404 bp396405) dr_cX17_rename_117 ⟨wr_10_181, wr_1_39, wr_10_184, by decide, rfl, (Nat.le_of_ble_eq_true rfl), (Nat.le_of_ble_eq_true rfl)⟩ wr_10_182 wr_10_183 hm396397 he396398 rfl (show 0 + 0 ≤ 0 by first | omega | decide) (show 0 + 0 ≤ 0 by first | omega | decide) (Nat.le_of_ble_eq_true rfl) (fun r396597 w396598 dc396594 ds396595 hp396596 => ?_) (fun _ _ _ _ _ z => z.elim)
                        obtain ⟨o396599, rfl, rfl, hdc, hds, bo396599, ht396600⟩ := hp396596
                        change G _ _ _ _ _ _ _ (.int o396599 :: _) _ _ _
                        refine G_widen (cs' := 0) (sl' := 0) (by omega) (by omega) ?_
                        refine G_if_eq 138 dr_cX17_rename_120 (by decide +kernel) (fun hc396601 => ?_) (fun hc396601 => ?_)
                        · have r396602 : o396599.toInt = 0 := gj_eq hc396601 (show Int32.toInt 0 = 0 by decide)
                          have bo396599' : gB o396599 0 0 := gB_t0 r396602
                          obtain ⟨z396603, hz396603⟩ : ∃ z : Int32, z = g395934 + Int32.ofInt 1 := ⟨_, rfl⟩
                          have ez396603 : z396603.toInt = g395934.toInt + 1 := gI_inc hz396603 (by decide) bg395934'' (by decide) (by decide)
                          have bz396603 : gB z396603 1 1000000 := ⟨by omega, by omega⟩
                          refine G_iinc (L' := [(5, .int z396603), (6, .ref q396386), (4, .ref q395033), (3, .int g394972), (0, .ref q369826), (1, .int p369827), (2, .int p369828)]) z396603 1 dr_cX17_rename_138 rfl hz396603.symm (Nat.le_of_ble_eq_true rfl) rfl ?_
                          refine G_goto 20 dr_cX17_rename_141 (by decide +kernel) ?_
                          refine G_lv (L' := [(5, .int z396603), (4, .ref q395033), (3, .int g394972), (0, .ref q369826), (1, .int p369827), (2, .int p369828)]) [0, 2, 3, 4, 5, 6] rfl ?_
                          exact ih20_395940 F395935 z396603 (gB_w bz396603 (by decide) (by decide)) hT395936 hs395937 x395938 x395939 x395940 (mz_up ez396603 (Int.le_trans bg395934''.2 (by decide)) hm20_395940)
                        · have r396604 : o396599.toInt ≠ 0 := gj_neq hc396601 (show Int32.toInt 0 = 0 by decide)
                          have bo396599' : gB o396599 1 1 := gB_t1 bo396599 r396604
                          refine G_aload 0 dr_cX17_rename_123 rfl ?_
                          refine Gp_get 1 hm396397 he396398 dr_cX17_rename_125 (gk_X15 D I) (Nat.le_of_ble_eq_true rfl) wr_9_182 rfl ?_
                          refine G_iload_n 5 dr_cX17_rename_128 rfl ?_
                          refine G_icmp_ne 138 dr_cX17_rename_129 (by decide +kernel) (fun hc396605 => ?_) (fun hc396605 => ?_)
                          · have r396606 : p396400.toInt ≠ p369827.toInt := gC_ne hc396605
                            obtain ⟨z396607, hz396607⟩ : ∃ z : Int32, z = g395934 + Int32.ofInt 1 := ⟨_, rfl⟩
                            have ez396607 : z396607.toInt = g395934.toInt + 1 := gI_inc hz396607 (by decide) bg395934'' (by decide) (by decide)
                            have bz396607 : gB z396607 1 1000000 := ⟨by omega, by omega⟩
                            refine G_iinc (L' := [(5, .int z396607), (6, .ref q396386), (4, .ref q395033), (3, .int g394972), (0, .ref q369826), (1, .int p369827), (2, .int p369828)]) z396607 1 dr_cX17_rename_138 rfl hz396607.symm (Nat.le_of_ble_eq_true rfl) rfl ?_
                            refine G_goto 20 dr_cX17_rename_141 (by decide +kernel) ?_
                            refine G_lv (L' := [(5, .int z396607), (4, .ref q395033), (3, .int g394972), (0, .ref q369826), (1, .int p369827), (2, .int p369828)]) [0, 2, 3, 4, 5, 6] rfl ?_
                            exact ih20_395940 F395935 z396607 (gB_w bz396607 (by decide) (by decide)) hT395936 hs395937 x395938 x395939 x395940 (mz_up ez396607 (Int.le_trans bg395934''.2 (by decide)) hm20_395940)
                          · have r396608 : p396400.toInt = p369827.toInt := gC_eq hc396605
                            refine G_aload 0 dr_cX17_rename_132 rfl ?_
                            refine G_iload_n 6 dr_cX17_rename_134 rfl ?_
                            refine Gp_put 1 hm396397 he396398 dr_cX17_rename_135 (gk_X15 D I) (Nat.le_of_ble_eq_true rfl) wr_9_182 rfl rfl rfl (Nat.le_of_ble_eq_true rfl) (fun F396609 e396610 n396611 => ?_)
                            have he396612 : F396609 q369826 = .inr (18, [.ref q394984, .ref q394985, .int p394986, .int p394987]) := (n396611 q369826 (rn_oo he395943 he396398 (by decide))).trans he395943
                            have he396613 : F396609 q394984 = .inr (4, [.int p395014, .ref q395016, .int p395015]) := (n396611 q394984 (rn_oo he395944 he396398 (by decide))).trans he395944
                            have he396614 : F396609 q395016 = .inl (I (.object "java/lang/Object"), n395030, .inr (.inr (.inr (.inr f395031)))) := (n396611 q395016 (rn_ao he395945 he396398)).trans he395945
                            have he396615 : F396609 q395033 = .inr (17, [.ref q395042, .ref q395043, .int p395044, .int p395045]) := (n396611 q395033 (rn_oo he395946 he396398 (by decide))).trans he395946
                            have he396616 : F396609 q395042 = .inr (4, [.int p395950, .ref q395952, .int p395951]) := (n396611 q395042 (rn_oo he395949 he396398 (by decide))).trans he395949
                            have he396617 : F396609 q395952 = .inl (I (.object "java/lang/Object"), n396383, .inr (.inr (.inr (.inr f396384)))) := (n396611 q395952 (rn_ao r396377 he396398)).trans r396377
                            have he396618 : F396609 q396386 = .inr (20, [.int p396399, .int p369828, .int p396401, .int p396402, .int p396403, .int p396404, .int p396405]) := e396610
                            have hs396619 : rStr γ [1] F369825 F396609 := rStr_pu2 hs395937 n396611 ht396389 (by decide)
                            have fs396620 : rFs γ (γ 1 q369826) F369825 F396609 := rFs_put x395940 n396611 ((show γ 1 q396386 = γ 1 q395042 from ht396390).trans ((show γ 1 q395042 = γ 1 q395033 from ht395047).trans ((show γ 1 q395033 = γ 1 q394984 from ht395039).trans (show γ 1 q394984 = γ 1 q369826 from ht394989))))
                            have fk396621 : rFk [1] γ F369825 F396609 := rFk_put x395939 n396611 ht396389 (by decide)
                            obtain ⟨z396622, hz396622⟩ : ∃ z : Int32, z = g395934 + Int32.ofInt 1 := ⟨_, rfl⟩
                            have ez396622 : z396622.toInt = g395934.toInt + 1 := gI_inc hz396622 (by decide) bg395934'' (by decide) (by decide)
                            have bz396622 : gB z396622 1 1000000 := ⟨by omega, by omega⟩
                            refine G_iinc (L' := [(5, .int z396622), (6, .ref q396386), (4, .ref q395033), (3, .int g394972), (0, .ref q369826), (1, .int p369827), (2, .int p369828)]) z396622 1 dr_cX17_rename_138 rfl hz396622.symm (Nat.le_of_ble_eq_true rfl) rfl ?_
                            refine G_goto 20 dr_cX17_rename_141 (by decide +kernel) ?_
                            have hT396623 : RS D I P369824 F396609 γ el := RS_set hT395936 n396611 ht396389 (by decide) ⟨p396399, p369828, p396401, p396402, p396403, p396404, p396405, he396618, bp396399, bp369828, bp396403, bp396404, bp396405, r396406, r396407, r396408, r396409, r396410⟩
                            refine G_lv (L' := [(5, .int z396622), (4, .ref q395033), (3, .int g394972), (0, .ref q369826), (1, .int p369827), (2, .int p369828)]) [0, 2, 3, 4, 5, 6] rfl ?_
                            exact ih20_395940 F396609 z396622 (gB_w bz396622 (by decide) (by decide)) hT396623 hs396619 (fun N hv hu hp => rPl_put hT395936 htq369826 rfl (x395938 N hv hu hp) n396611 hp396411 nb396414 hL396412 (fun _ _ _ _ z => z) (rNx_ren he396398 he396618 hu hv (Or.inl rfl) (Or.inl rfl) (Or.inr ⟨rfl, by first | assumption | omega⟩) (by rw [← hp396411]; exact x395938 N hv hu hp _ nb396414 _ hL396412))) fk396621 fs396620 (mz_up ez396622 (Int.le_trans bg395934''.2 (by decide)) hm20_395940)
                      · have r396625 : p396402.toInt = p369827.toInt := gC_eq hc396592
                        have bp396402' : gB p396402 0 1999 := ⟨by omega, by omega⟩
                        refine G_aload 0 dr_cX17_rename_109 rfl ?_
                        refine G_iload_n 6 dr_cX17_rename_111 rfl ?_
                        refine Gp_put 3 hm396397 he396398 dr_cX17_rename_112 (gk_X15 D I) (Nat.le_of_ble_eq_true rfl) wr_9_190 rfl rfl rfl (Nat.le_of_ble_eq_true rfl) (fun F396626 e396627 n396628 => ?_)
                        have he396629 : F396626 q369826 = .inr (18, [.ref q394984, .ref q394985, .int p394986, .int p394987]) := (n396628 q369826 (rn_oo he395943 he396398 (by decide))).trans he395943
                        have he396630 : F396626 q394984 = .inr (4, [.int p395014, .ref q395016, .int p395015]) := (n396628 q394984 (rn_oo he395944 he396398 (by decide))).trans he395944
                        have he396631 : F396626 q395016 = .inl (I (.object "java/lang/Object"), n395030, .inr (.inr (.inr (.inr f395031)))) := (n396628 q395016 (rn_ao he395945 he396398)).trans he395945
                        have he396632 : F396626 q395033 = .inr (17, [.ref q395042, .ref q395043, .int p395044, .int p395045]) := (n396628 q395033 (rn_oo he395946 he396398 (by decide))).trans he395946
                        have he396633 : F396626 q395042 = .inr (4, [.int p395950, .ref q395952, .int p395951]) := (n396628 q395042 (rn_oo he395949 he396398 (by decide))).trans he395949
                        have he396634 : F396626 q395952 = .inl (I (.object "java/lang/Object"), n396383, .inr (.inr (.inr (.inr f396384)))) := (n396628 q395952 (rn_ao r396377 he396398)).trans r396377
                        have he396635 : F396626 q396386 = .inr (20, [.int p396399, .int p396400, .int p396401, .int p369828, .int p396403, .int p396404, .int p396405]) := e396627
                        have hs396636 : rStr γ [1] F369825 F396626 := rStr_pu2 hs395937 n396628 ht396389 (by decide)
                        have fs396637 : rFs γ (γ 1 q369826) F369825 F396626 := rFs_put x395940 n396628 ((show γ 1 q396386 = γ 1 q395042 from ht396390).trans ((show γ 1 q395042 = γ 1 q395033 from ht395047).trans ((show γ 1 q395033 = γ 1 q394984 from ht395039).trans (show γ 1 q394984 = γ 1 q369826 from ht394989))))
                        have fk396638 : rFk [1] γ F369825 F396626 := rFk_put x395939 n396628 ht396389 (by decide)
                        refine G_aload 0 dr_cX17_rename_115 rfl ?_
                        have hT396639 : RS D I P369824 F396626 γ el := RS_set hT395936 n396628 ht396389 (by decide) ⟨p396399, p396400, p396401, p369828, p396403, p396404, p396405, he396635, bp396399, bp396400, bp396403, bp396404, bp396405, r396406, r396407, (Or.inr bp369828), r396409, r396410⟩
                        refine Gw_callV (As := []) (gV_ok D I) (cp_1660_Row_sets l hl0 D I P369824 F396626 q396386 p396399 p396400 p396401 p369828 p396403 p396404 p396405 hm396397 he396635 bp396399 bp396400 bp396403 bp396404 bp396405) dr_cX17_rename_117 ⟨wr_10_181, wr_1_39, wr_10_184, by decide, rfl, (Nat.le_of_ble_eq_true rfl), (Nat.le_of_ble_eq_true rfl)⟩ wr_10_182 wr_10_183 hm396397 he396635 rfl (show 0 + 0 ≤ 0 by first | omega | decide) (show 0 + 0 ≤ 0 by first | omega | decide) (Nat.le_of_ble_eq_true rfl) (fun r396644 w396645 dc396641 ds396642 hp396643 => ?_) (fun _ _ _ _ _ z => z.elim)
                        obtain ⟨o396646, rfl, rfl, hdc, hds, bo396646, ht396647⟩ := hp396643
                        change G _ _ _ _ _ _ _ (.int o396646 :: _) _ _ _
                        refine G_widen (cs' := 0) (sl' := 0) (by omega) (by omega) ?_
                        refine G_if_eq 138 dr_cX17_rename_120 (by decide +kernel) (fun hc396648 => ?_) (fun hc396648 => ?_)
                        · have r396649 : o396646.toInt = 0 := gj_eq hc396648 (show Int32.toInt 0 = 0 by decide)
                          have bo396646' : gB o396646 0 0 := gB_t0 r396649
                          obtain ⟨z396650, hz396650⟩ : ∃ z : Int32, z = g395934 + Int32.ofInt 1 := ⟨_, rfl⟩
                          have ez396650 : z396650.toInt = g395934.toInt + 1 := gI_inc hz396650 (by decide) bg395934'' (by decide) (by decide)
                          have bz396650 : gB z396650 1 1000000 := ⟨by omega, by omega⟩
                          refine G_iinc (L' := [(5, .int z396650), (6, .ref q396386), (4, .ref q395033), (3, .int g394972), (0, .ref q369826), (1, .int p369827), (2, .int p369828)]) z396650 1 dr_cX17_rename_138 rfl hz396650.symm (Nat.le_of_ble_eq_true rfl) rfl ?_
                          refine G_goto 20 dr_cX17_rename_141 (by decide +kernel) ?_
                          refine G_lv (L' := [(5, .int z396650), (4, .ref q395033), (3, .int g394972), (0, .ref q369826), (1, .int p369827), (2, .int p369828)]) [0, 2, 3, 4, 5, 6] rfl ?_
                          exact ih20_395940 F396626 z396650 (gB_w bz396650 (by decide) (by decide)) hT396639 hs396636 (fun N hv hu hp => rPl_put hT395936 htq369826 rfl (x395938 N hv hu hp) n396628 hp396411 nb396414 hL396412 (fun _ _ _ _ z => z) (rNx_ren he396398 he396635 hu hv (Or.inl rfl) (Or.inr rfl) (Or.inl rfl) (by rw [← hp396411]; exact x395938 N hv hu hp _ nb396414 _ hL396412))) fk396638 fs396637 (mz_up ez396650 (Int.le_trans bg395934''.2 (by decide)) hm20_395940)
                        · have r396651 : o396646.toInt ≠ 0 := gj_neq hc396648 (show Int32.toInt 0 = 0 by decide)
                          have bo396646' : gB o396646 1 1 := gB_t1 bo396646 r396651
                          refine G_aload 0 dr_cX17_rename_123 rfl ?_
                          refine Gp_get 1 hm396397 he396635 dr_cX17_rename_125 (gk_X15 D I) (Nat.le_of_ble_eq_true rfl) wr_9_182 rfl ?_
                          refine G_iload_n 5 dr_cX17_rename_128 rfl ?_
                          refine G_icmp_ne 138 dr_cX17_rename_129 (by decide +kernel) (fun hc396652 => ?_) (fun hc396652 => ?_)
                          · have r396653 : p396400.toInt ≠ p369827.toInt := gC_ne hc396652
                            obtain ⟨z396654, hz396654⟩ : ∃ z : Int32, z = g395934 + Int32.ofInt 1 := ⟨_, rfl⟩
                            have ez396654 : z396654.toInt = g395934.toInt + 1 := gI_inc hz396654 (by decide) bg395934'' (by decide) (by decide)
                            have bz396654 : gB z396654 1 1000000 := ⟨by omega, by omega⟩
                            refine G_iinc (L' := [(5, .int z396654), (6, .ref q396386), (4, .ref q395033), (3, .int g394972), (0, .ref q369826), (1, .int p369827), (2, .int p369828)]) z396654 1 dr_cX17_rename_138 rfl hz396654.symm (Nat.le_of_ble_eq_true rfl) rfl ?_
                            refine G_goto 20 dr_cX17_rename_141 (by decide +kernel) ?_
                            refine G_lv (L' := [(5, .int z396654), (4, .ref q395033), (3, .int g394972), (0, .ref q369826), (1, .int p369827), (2, .int p369828)]) [0, 2, 3, 4, 5, 6] rfl ?_
                            exact ih20_395940 F396626 z396654 (gB_w bz396654 (by decide) (by decide)) hT396639 hs396636 (fun N hv hu hp => rPl_put hT395936 htq369826 rfl (x395938 N hv hu hp) n396628 hp396411 nb396414 hL396412 (fun _ _ _ _ z => z) (rNx_ren he396398 he396635 hu hv (Or.inl rfl) (Or.inr rfl) (Or.inl rfl) (by rw [← hp396411]; exact x395938 N hv hu hp _ nb396414 _ hL396412))) fk396638 fs396637 (mz_up ez396654 (Int.le_trans bg395934''.2 (by decide)) hm20_395940)
                          · have r396655 : p396400.toInt = p369827.toInt := gC_eq hc396652
                            refine G_aload 0 dr_cX17_rename_132 rfl ?_
                            refine G_iload_n 6 dr_cX17_rename_134 rfl ?_
                            refine Gp_put 1 hm396397 he396635 dr_cX17_rename_135 (gk_X15 D I) (Nat.le_of_ble_eq_true rfl) wr_9_182 rfl rfl rfl (Nat.le_of_ble_eq_true rfl) (fun F396656 e396657 n396658 => ?_)
                            have he396659 : F396656 q369826 = .inr (18, [.ref q394984, .ref q394985, .int p394986, .int p394987]) := (n396658 q369826 (rn_oo he396629 he396635 (by decide))).trans he396629
                            have he396660 : F396656 q394984 = .inr (4, [.int p395014, .ref q395016, .int p395015]) := (n396658 q394984 (rn_oo he396630 he396635 (by decide))).trans he396630
                            have he396661 : F396656 q395016 = .inl (I (.object "java/lang/Object"), n395030, .inr (.inr (.inr (.inr f395031)))) := (n396658 q395016 (rn_ao he396631 he396635)).trans he396631
                            have he396662 : F396656 q395033 = .inr (17, [.ref q395042, .ref q395043, .int p395044, .int p395045]) := (n396658 q395033 (rn_oo he396632 he396635 (by decide))).trans he396632
                            have he396663 : F396656 q395042 = .inr (4, [.int p395950, .ref q395952, .int p395951]) := (n396658 q395042 (rn_oo he396633 he396635 (by decide))).trans he396633
                            have he396664 : F396656 q395952 = .inl (I (.object "java/lang/Object"), n396383, .inr (.inr (.inr (.inr f396384)))) := (n396658 q395952 (rn_ao he396634 he396635)).trans he396634
                            have he396665 : F396656 q396386 = .inr (20, [.int p396399, .int p369828, .int p396401, .int p369828, .int p396403, .int p396404, .int p396405]) := e396657
                            have hs396666 : rStr γ [1] F369825 F396656 := rStr_pu2 hs396636 n396658 ht396389 (by decide)
                            have fs396667 : rFs γ (γ 1 q369826) F369825 F396656 := rFs_put fs396637 n396658 ((show γ 1 q396386 = γ 1 q395042 from ht396390).trans ((show γ 1 q395042 = γ 1 q395033 from ht395047).trans ((show γ 1 q395033 = γ 1 q394984 from ht395039).trans (show γ 1 q394984 = γ 1 q369826 from ht394989))))
                            have fk396668 : rFk [1] γ F369825 F396656 := rFk_put fk396638 n396658 ht396389 (by decide)
                            obtain ⟨z396669, hz396669⟩ : ∃ z : Int32, z = g395934 + Int32.ofInt 1 := ⟨_, rfl⟩
                            have ez396669 : z396669.toInt = g395934.toInt + 1 := gI_inc hz396669 (by decide) bg395934'' (by decide) (by decide)
                            have bz396669 : gB z396669 1 1000000 := ⟨by omega, by omega⟩
                            refine G_iinc (L' := [(5, .int z396669), (6, .ref q396386), (4, .ref q395033), (3, .int g394972), (0, .ref q369826), (1, .int p369827), (2, .int p369828)]) z396669 1 dr_cX17_rename_138 rfl hz396669.symm (Nat.le_of_ble_eq_true rfl) rfl ?_
                            refine G_goto 20 dr_cX17_rename_141 (by decide +kernel) ?_
                            have hT396670 : RS D I P369824 F396656 γ el := RS_set hT396639 n396658 ht396389 (by decide) ⟨p396399, p369828, p396401, p369828, p396403, p396404, p396405, he396665, bp396399, bp369828, bp396403, bp396404, bp396405, r396406, r396407, (Or.inr bp369828), r396409, r396410⟩
                            have of396671 : ∀ b, b ≠ q396386 → F396656 b = F395935 b := fun b hb => (n396658 b hb).trans (n396628 b hb)
                            refine G_lv (L' := [(5, .int z396669), (4, .ref q395033), (3, .int g394972), (0, .ref q369826), (1, .int p369827), (2, .int p369828)]) [0, 2, 3, 4, 5, 6] rfl ?_
                            exact ih20_395940 F396656 z396669 (gB_w bz396669 (by decide) (by decide)) hT396670 hs396666 (fun N hv hu hp => rPl_put hT395936 htq369826 rfl (x395938 N hv hu hp) of396671 hp396411 nb396414 hL396412 (fun _ _ _ _ z => z) (rNx_ren he396398 he396665 hu hv (Or.inl rfl) (Or.inr rfl) (Or.inr ⟨rfl, by first | assumption | omega⟩) (by rw [← hp396411]; exact x395938 N hv hu hp _ nb396414 _ hL396412))) fk396668 fs396667 (mz_up ez396669 (Int.le_trans bg395934''.2 (by decide)) hm20_395940)
                  · have r396672 : p396401.toInt = p369827.toInt := gC_eq hc396548
                    have bp396401' : gB p396401 0 1999 := ⟨by omega, by omega⟩
                    refine G_aload 0 dr_cX17_rename_86 rfl ?_
                    refine G_iload_n 6 dr_cX17_rename_88 rfl ?_
                    refine Gp_put 2 hm396397 he396398 dr_cX17_rename_89 (gk_X15 D I) (Nat.le_of_ble_eq_true rfl) wr_9_186 rfl rfl rfl (Nat.le_of_ble_eq_true rfl) (fun F396673 e396674 n396675 => ?_)
                    have he396676 : F396673 q369826 = .inr (18, [.ref q394984, .ref q394985, .int p394986, .int p394987]) := (n396675 q369826 (rn_oo he395943 he396398 (by decide))).trans he395943
                    have he396677 : F396673 q394984 = .inr (4, [.int p395014, .ref q395016, .int p395015]) := (n396675 q394984 (rn_oo he395944 he396398 (by decide))).trans he395944
                    have he396678 : F396673 q395016 = .inl (I (.object "java/lang/Object"), n395030, .inr (.inr (.inr (.inr f395031)))) := (n396675 q395016 (rn_ao he395945 he396398)).trans he395945
                    have he396679 : F396673 q395033 = .inr (17, [.ref q395042, .ref q395043, .int p395044, .int p395045]) := (n396675 q395033 (rn_oo he395946 he396398 (by decide))).trans he395946
                    have he396680 : F396673 q395042 = .inr (4, [.int p395950, .ref q395952, .int p395951]) := (n396675 q395042 (rn_oo he395949 he396398 (by decide))).trans he395949
                    have he396681 : F396673 q395952 = .inl (I (.object "java/lang/Object"), n396383, .inr (.inr (.inr (.inr f396384)))) := (n396675 q395952 (rn_ao r396377 he396398)).trans r396377
                    have he396682 : F396673 q396386 = .inr (20, [.int p396399, .int p396400, .int p369828, .int p396402, .int p396403, .int p396404, .int p396405]) := e396674
                    have hs396683 : rStr γ [1] F369825 F396673 := rStr_pu2 hs395937 n396675 ht396389 (by decide)
                    have fs396684 : rFs γ (γ 1 q369826) F369825 F396673 := rFs_put x395940 n396675 ((show γ 1 q396386 = γ 1 q395042 from ht396390).trans ((show γ 1 q395042 = γ 1 q395033 from ht395047).trans ((show γ 1 q395033 = γ 1 q394984 from ht395039).trans (show γ 1 q394984 = γ 1 q369826 from ht394989))))
                    have fk396685 : rFk [1] γ F369825 F396673 := rFk_put x395939 n396675 ht396389 (by decide)
                    refine G_aload 0 dr_cX17_rename_92 rfl ?_
                    have hT396686 : RS D I P369824 F396673 γ el := RS_set hT395936 n396675 ht396389 (by decide) ⟨p396399, p396400, p369828, p396402, p396403, p396404, p396405, he396682, bp396399, bp396400, bp396403, bp396404, bp396405, r396406, (Or.inr bp369828), r396408, r396409, r396410⟩
                    refine Gw_callV (As := []) (gV_ok D I) (cp_1699_Row_usesB l hl0 D I P369824 F396673 q396386 p396399 p396400 p369828 p396402 p396403 p396404 p396405 hm396397 he396682 bp396399 bp396400 bp396403 bp396404 bp396405) dr_cX17_rename_94 ⟨wr_10_196, wr_1_39, wr_10_199, by decide, rfl, (Nat.le_of_ble_eq_true rfl), (Nat.le_of_ble_eq_true rfl)⟩ wr_10_197 wr_10_198 hm396397 he396682 rfl (show 0 + 0 ≤ 0 by first | omega | decide) (show 0 + 0 ≤ 0 by first | omega | decide) (Nat.le_of_ble_eq_true rfl) (fun r396691 w396692 dc396688 ds396689 hp396690 => ?_) (fun _ _ _ _ _ z => z.elim)
                    obtain ⟨o396693, rfl, rfl, hdc, hds, bo396693, x396694, ht396695⟩ := hp396690
                    change G _ _ _ _ _ _ _ (.int o396693 :: _) _ _ _
                    refine G_widen (cs' := 0) (sl' := 0) (by omega) (by omega) ?_
                    refine G_if_eq 115 dr_cX17_rename_97 (by decide +kernel) (fun hc396696 => ?_) (fun hc396696 => ?_)
                    · have r396697 : o396693.toInt = 0 := gj_eq hc396696 (show Int32.toInt 0 = 0 by decide)
                      have bo396693' : gB o396693 0 0 := gB_t0 r396697
                      refine G_aload 0 dr_cX17_rename_115 rfl ?_
                      refine Gw_callV (As := []) (gV_ok D I) (cp_1660_Row_sets l hl0 D I P369824 F396673 q396386 p396399 p396400 p369828 p396402 p396403 p396404 p396405 hm396397 he396682 bp396399 bp396400 bp396403 bp396404 bp396405) dr_cX17_rename_117 ⟨wr_10_181, wr_1_39, wr_10_184, by decide, rfl, (Nat.le_of_ble_eq_true rfl), (Nat.le_of_ble_eq_true rfl)⟩ wr_10_182 wr_10_183 hm396397 he396682 rfl (show 0 + 0 ≤ 0 by first | omega | decide) (show 0 + 0 ≤ 0 by first | omega | decide) (Nat.le_of_ble_eq_true rfl) (fun r396701 w396702 dc396698 ds396699 hp396700 => ?_) (fun _ _ _ _ _ z => z.elim)
                      obtain ⟨o396703, rfl, rfl, hdc, hds, bo396703, ht396704⟩ := hp396700
                      change G _ _ _ _ _ _ _ (.int o396703 :: _) _ _ _
                      refine G_widen (cs' := 0) (sl' := 0) (by omega) (by omega) ?_
                      refine G_if_eq 138 dr_cX17_rename_120 (by decide +kernel) (fun hc396705 => ?_) (fun hc396705 => ?_)
                      · have r396706 : o396703.toInt = 0 := gj_eq hc396705 (show Int32.toInt 0 = 0 by decide)
                        have bo396703' : gB o396703 0 0 := gB_t0 r396706
                        obtain ⟨z396707, hz396707⟩ : ∃ z : Int32, z = g395934 + Int32.ofInt 1 := ⟨_, rfl⟩
                        have ez396707 : z396707.toInt = g395934.toInt + 1 := gI_inc hz396707 (by decide) bg395934'' (by decide) (by decide)
                        have bz396707 : gB z396707 1 1000000 := ⟨by omega, by omega⟩
                        refine G_iinc (L' := [(5, .int z396707), (6, .ref q396386), (4, .ref q395033), (3, .int g394972), (0, .ref q369826), (1, .int p369827), (2, .int p369828)]) z396707 1 dr_cX17_rename_138 rfl hz396707.symm (Nat.le_of_ble_eq_true rfl) rfl ?_
                        refine G_goto 20 dr_cX17_rename_141 (by decide +kernel) ?_
                        refine G_lv (L' := [(5, .int z396707), (4, .ref q395033), (3, .int g394972), (0, .ref q369826), (1, .int p369827), (2, .int p369828)]) [0, 2, 3, 4, 5, 6] rfl ?_
                        exact ih20_395940 F396673 z396707 (gB_w bz396707 (by decide) (by decide)) hT396686 hs396683 (fun N hv hu hp => rPl_put hT395936 htq369826 rfl (x395938 N hv hu hp) n396675 hp396411 nb396414 hL396412 (fun _ _ _ _ z => z) (rNx_ren he396398 he396682 hu hv (Or.inr rfl) (Or.inl rfl) (Or.inl rfl) (by rw [← hp396411]; exact x395938 N hv hu hp _ nb396414 _ hL396412))) fk396685 fs396684 (mz_up ez396707 (Int.le_trans bg395934''.2 (by decide)) hm20_395940)
                      · have r396708 : o396703.toInt ≠ 0 := gj_neq hc396705 (show Int32.toInt 0 = 0 by decide)
                        have bo396703' : gB o396703 1 1 := gB_t1 bo396703 r396708
                        refine G_aload 0 dr_cX17_rename_123 rfl ?_
                        refine Gp_get 1 hm396397 he396682 dr_cX17_rename_125 (gk_X15 D I) (Nat.le_of_ble_eq_true rfl) wr_9_182 rfl ?_
                        refine G_iload_n 5 dr_cX17_rename_128 rfl ?_
                        refine G_icmp_ne 138 dr_cX17_rename_129 (by decide +kernel) (fun hc396709 => ?_) (fun hc396709 => ?_)
                        · have r396710 : p396400.toInt ≠ p369827.toInt := gC_ne hc396709
                          obtain ⟨z396711, hz396711⟩ : ∃ z : Int32, z = g395934 + Int32.ofInt 1 := ⟨_, rfl⟩
                          have ez396711 : z396711.toInt = g395934.toInt + 1 := gI_inc hz396711 (by decide) bg395934'' (by decide) (by decide)
                          have bz396711 : gB z396711 1 1000000 := ⟨by omega, by omega⟩
                          refine G_iinc (L' := [(5, .int z396711), (6, .ref q396386), (4, .ref q395033), (3, .int g394972), (0, .ref q369826), (1, .int p369827), (2, .int p369828)]) z396711 1 dr_cX17_rename_138 rfl hz396711.symm (Nat.le_of_ble_eq_true rfl) rfl ?_
                          refine G_goto 20 dr_cX17_rename_141 (by decide +kernel) ?_
                          refine G_lv (L' := [(5, .int z396711), (4, .ref q395033), (3, .int g394972), (0, .ref q369826), (1, .int p369827), (2, .int p369828)]) [0, 2, 3, 4, 5, 6] rfl ?_
                          exact ih20_395940 F396673 z396711 (gB_w bz396711 (by decide) (by decide)) hT396686 hs396683 (fun N hv hu hp => rPl_put hT395936 htq369826 rfl (x395938 N hv hu hp) n396675 hp396411 nb396414 hL396412 (fun _ _ _ _ z => z) (rNx_ren he396398 he396682 hu hv (Or.inr rfl) (Or.inl rfl) (Or.inl rfl) (by rw [← hp396411]; exact x395938 N hv hu hp _ nb396414 _ hL396412))) fk396685 fs396684 (mz_up ez396711 (Int.le_trans bg395934''.2 (by decide)) hm20_395940)
                        · have r396712 : p396400.toInt = p369827.toInt := gC_eq hc396709
                          refine G_aload 0 dr_cX17_rename_132 rfl ?_
                          refine G_iload_n 6 dr_cX17_rename_134 rfl ?_
                          refine Gp_put 1 hm396397 he396682 dr_cX17_rename_135 (gk_X15 D I) (Nat.le_of_ble_eq_true rfl) wr_9_182 rfl rfl rfl (Nat.le_of_ble_eq_true rfl) (fun F396713 e396714 n396715 => ?_)
                          have he396716 : F396713 q369826 = .inr (18, [.ref q394984, .ref q394985, .int p394986, .int p394987]) := (n396715 q369826 (rn_oo he396676 he396682 (by decide))).trans he396676
                          have he396717 : F396713 q394984 = .inr (4, [.int p395014, .ref q395016, .int p395015]) := (n396715 q394984 (rn_oo he396677 he396682 (by decide))).trans he396677
                          have he396718 : F396713 q395016 = .inl (I (.object "java/lang/Object"), n395030, .inr (.inr (.inr (.inr f395031)))) := (n396715 q395016 (rn_ao he396678 he396682)).trans he396678
                          have he396719 : F396713 q395033 = .inr (17, [.ref q395042, .ref q395043, .int p395044, .int p395045]) := (n396715 q395033 (rn_oo he396679 he396682 (by decide))).trans he396679
                          have he396720 : F396713 q395042 = .inr (4, [.int p395950, .ref q395952, .int p395951]) := (n396715 q395042 (rn_oo he396680 he396682 (by decide))).trans he396680
                          have he396721 : F396713 q395952 = .inl (I (.object "java/lang/Object"), n396383, .inr (.inr (.inr (.inr f396384)))) := (n396715 q395952 (rn_ao he396681 he396682)).trans he396681
                          have he396722 : F396713 q396386 = .inr (20, [.int p396399, .int p369828, .int p369828, .int p396402, .int p396403, .int p396404, .int p396405]) := e396714
                          have hs396723 : rStr γ [1] F369825 F396713 := rStr_pu2 hs396683 n396715 ht396389 (by decide)
                          have fs396724 : rFs γ (γ 1 q369826) F369825 F396713 := rFs_put fs396684 n396715 ((show γ 1 q396386 = γ 1 q395042 from ht396390).trans ((show γ 1 q395042 = γ 1 q395033 from ht395047).trans ((show γ 1 q395033 = γ 1 q394984 from ht395039).trans (show γ 1 q394984 = γ 1 q369826 from ht394989))))
                          have fk396725 : rFk [1] γ F369825 F396713 := rFk_put fk396685 n396715 ht396389 (by decide)
                          obtain ⟨z396726, hz396726⟩ : ∃ z : Int32, z = g395934 + Int32.ofInt 1 := ⟨_, rfl⟩
                          have ez396726 : z396726.toInt = g395934.toInt + 1 := gI_inc hz396726 (by decide) bg395934'' (by decide) (by decide)
                          have bz396726 : gB z396726 1 1000000 := ⟨by omega, by omega⟩
                          refine G_iinc (L' := [(5, .int z396726), (6, .ref q396386), (4, .ref q395033), (3, .int g394972), (0, .ref q369826), (1, .int p369827), (2, .int p369828)]) z396726 1 dr_cX17_rename_138 rfl hz396726.symm (Nat.le_of_ble_eq_true rfl) rfl ?_
                          refine G_goto 20 dr_cX17_rename_141 (by decide +kernel) ?_
                          have hT396727 : RS D I P369824 F396713 γ el := RS_set hT396686 n396715 ht396389 (by decide) ⟨p396399, p369828, p369828, p396402, p396403, p396404, p396405, he396722, bp396399, bp369828, bp396403, bp396404, bp396405, r396406, (Or.inr bp369828), r396408, r396409, r396410⟩
                          have of396728 : ∀ b, b ≠ q396386 → F396713 b = F395935 b := fun b hb => (n396715 b hb).trans (n396675 b hb)
                          refine G_lv (L' := [(5, .int z396726), (4, .ref q395033), (3, .int g394972), (0, .ref q369826), (1, .int p369827), (2, .int p369828)]) [0, 2, 3, 4, 5, 6] rfl ?_
                          exact ih20_395940 F396713 z396726 (gB_w bz396726 (by decide) (by decide)) hT396727 hs396723 (fun N hv hu hp => rPl_put hT395936 htq369826 rfl (x395938 N hv hu hp) of396728 hp396411 nb396414 hL396412 (fun _ _ _ _ z => z) (rNx_ren he396398 he396722 hu hv (Or.inr rfl) (Or.inl rfl) (Or.inr ⟨rfl, by first | assumption | omega⟩) (by rw [← hp396411]; exact x395938 N hv hu hp _ nb396414 _ hL396412))) fk396725 fs396724 (mz_up ez396726 (Int.le_trans bg395934''.2 (by decide)) hm20_395940)
                    · have r396729 : o396693.toInt ≠ 0 := gj_neq hc396696 (show Int32.toInt 0 = 0 by decide)
                      have bo396693' : gB o396693 1 1 := gB_t1 bo396693 r396729
                      refine G_aload 0 dr_cX17_rename_100 rfl ?_
                      refine Gp_get 3 hm396397 he396682 dr_cX17_rename_102 (gk_X15 D I) (Nat.le_of_ble_eq_true rfl) wr_9_190 rfl ?_
                      refine G_iload_n 5 dr_cX17_rename_105 rfl ?_
                      refine G_icmp_ne 115 dr_cX17_rename_106 (by decide +kernel) (fun hc396730 => ?_) (fun hc396730 => ?_)
                      · have r396731 : p396402.toInt ≠ p369827.toInt := gC_ne hc396730
                        refine G_aload 0 dr_cX17_rename_115 rfl ?_
                        refine Gw_callV (As := []) (gV_ok D I) (cp_1660_Row_sets l hl0 D I P369824 F396673 q396386 p396399 p396400 p369828 p396402 p396403 p396404 p396405 hm396397 he396682 bp396399 bp396400 bp396403 bp396404 bp396405) dr_cX17_rename_117 ⟨wr_10_181, wr_1_39, wr_10_184, by decide, rfl, (Nat.le_of_ble_eq_true rfl), (Nat.le_of_ble_eq_true rfl)⟩ wr_10_182 wr_10_183 hm396397 he396682 rfl (show 0 + 0 ≤ 0 by first | omega | decide) (show 0 + 0 ≤ 0 by first | omega | decide) (Nat.le_of_ble_eq_true rfl) (fun r396735 w396736 dc396732 ds396733 hp396734 => ?_) (fun _ _ _ _ _ z => z.elim)
                        obtain ⟨o396737, rfl, rfl, hdc, hds, bo396737, ht396738⟩ := hp396734
                        change G _ _ _ _ _ _ _ (.int o396737 :: _) _ _ _
                        refine G_widen (cs' := 0) (sl' := 0) (by omega) (by omega) ?_
                        refine G_if_eq 138 dr_cX17_rename_120 (by decide +kernel) (fun hc396739 => ?_) (fun hc396739 => ?_)
                        · have r396740 : o396737.toInt = 0 := gj_eq hc396739 (show Int32.toInt 0 = 0 by decide)
                          have bo396737' : gB o396737 0 0 := gB_t0 r396740
                          obtain ⟨z396741, hz396741⟩ : ∃ z : Int32, z = g395934 + Int32.ofInt 1 := ⟨_, rfl⟩
                          have ez396741 : z396741.toInt = g395934.toInt + 1 := gI_inc hz396741 (by decide) bg395934'' (by decide) (by decide)
                          have bz396741 : gB z396741 1 1000000 := ⟨by omega, by omega⟩
                          refine G_iinc (L' := [(5, .int z396741), (6, .ref q396386), (4, .ref q395033), (3, .int g394972), (0, .ref q369826), (1, .int p369827), (2, .int p369828)]) z396741 1 dr_cX17_rename_138 rfl hz396741.symm (Nat.le_of_ble_eq_true rfl) rfl ?_
                          refine G_goto 20 dr_cX17_rename_141 (by decide +kernel) ?_
                          refine G_lv (L' := [(5, .int z396741), (4, .ref q395033), (3, .int g394972), (0, .ref q369826), (1, .int p369827), (2, .int p369828)]) [0, 2, 3, 4, 5, 6] rfl ?_
                          exact ih20_395940 F396673 z396741 (gB_w bz396741 (by decide) (by decide)) hT396686 hs396683 (fun N hv hu hp => rPl_put hT395936 htq369826 rfl (x395938 N hv hu hp) n396675 hp396411 nb396414 hL396412 (fun _ _ _ _ z => z) (rNx_ren he396398 he396682 hu hv (Or.inr rfl) (Or.inl rfl) (Or.inl rfl) (by rw [← hp396411]; exact x395938 N hv hu hp _ nb396414 _ hL396412))) fk396685 fs396684 (mz_up ez396741 (Int.le_trans bg395934''.2 (by decide)) hm20_395940)
                        · have r396742 : o396737.toInt ≠ 0 := gj_neq hc396739 (show Int32.toInt 0 = 0 by decide)
                          have bo396737' : gB o396737 1 1 := gB_t1 bo396737 r396742
                          refine G_aload 0 dr_cX17_rename_123 rfl ?_
                          refine Gp_get 1 hm396397 he396682 dr_cX17_rename_125 (gk_X15 D I) (Nat.le_of_ble_eq_true rfl) wr_9_182 rfl ?_
                          refine G_iload_n 5 dr_cX17_rename_128 rfl ?_
                          refine G_icmp_ne 138 dr_cX17_rename_129 (by decide +kernel) (fun hc396743 => ?_) (fun hc396743 => ?_)
                          · have r396744 : p396400.toInt ≠ p369827.toInt := gC_ne hc396743
                            obtain ⟨z396745, hz396745⟩ : ∃ z : Int32, z = g395934 + Int32.ofInt 1 := ⟨_, rfl⟩
                            have ez396745 : z396745.toInt = g395934.toInt + 1 := gI_inc hz396745 (by decide) bg395934'' (by decide) (by decide)
                            have bz396745 : gB z396745 1 1000000 := ⟨by omega, by omega⟩
                            refine G_iinc (L' := [(5, .int z396745), (6, .ref q396386), (4, .ref q395033), (3, .int g394972), (0, .ref q369826), (1, .int p369827), (2, .int p369828)]) z396745 1 dr_cX17_rename_138 rfl hz396745.symm (Nat.le_of_ble_eq_true rfl) rfl ?_
                            refine G_goto 20 dr_cX17_rename_141 (by decide +kernel) ?_
                            refine G_lv (L' := [(5, .int z396745), (4, .ref q395033), (3, .int g394972), (0, .ref q369826), (1, .int p369827), (2, .int p369828)]) [0, 2, 3, 4, 5, 6] rfl ?_
                            exact ih20_395940 F396673 z396745 (gB_w bz396745 (by decide) (by decide)) hT396686 hs396683 (fun N hv hu hp => rPl_put hT395936 htq369826 rfl (x395938 N hv hu hp) n396675 hp396411 nb396414 hL396412 (fun _ _ _ _ z => z) (rNx_ren he396398 he396682 hu hv (Or.inr rfl) (Or.inl rfl) (Or.inl rfl) (by rw [← hp396411]; exact x395938 N hv hu hp _ nb396414 _ hL396412))) fk396685 fs396684 (mz_up ez396745 (Int.le_trans bg395934''.2 (by decide)) hm20_395940)
                          · have r396746 : p396400.toInt = p369827.toInt := gC_eq hc396743
                            refine G_aload 0 dr_cX17_rename_132 rfl ?_
                            refine G_iload_n 6 dr_cX17_rename_134 rfl ?_
                            refine Gp_put 1 hm396397 he396682 dr_cX17_rename_135 (gk_X15 D I) (Nat.le_of_ble_eq_true rfl) wr_9_182 rfl rfl rfl (Nat.le_of_ble_eq_true rfl) (fun F396747 e396748 n396749 => ?_)
                            have he396750 : F396747 q369826 = .inr (18, [.ref q394984, .ref q394985, .int p394986, .int p394987]) := (n396749 q369826 (rn_oo he396676 he396682 (by decide))).trans he396676
                            have he396751 : F396747 q394984 = .inr (4, [.int p395014, .ref q395016, .int p395015]) := (n396749 q394984 (rn_oo he396677 he396682 (by decide))).trans he396677
                            have he396752 : F396747 q395016 = .inl (I (.object "java/lang/Object"), n395030, .inr (.inr (.inr (.inr f395031)))) := (n396749 q395016 (rn_ao he396678 he396682)).trans he396678
                            have he396753 : F396747 q395033 = .inr (17, [.ref q395042, .ref q395043, .int p395044, .int p395045]) := (n396749 q395033 (rn_oo he396679 he396682 (by decide))).trans he396679
                            have he396754 : F396747 q395042 = .inr (4, [.int p395950, .ref q395952, .int p395951]) := (n396749 q395042 (rn_oo he396680 he396682 (by decide))).trans he396680
                            have he396755 : F396747 q395952 = .inl (I (.object "java/lang/Object"), n396383, .inr (.inr (.inr (.inr f396384)))) := (n396749 q395952 (rn_ao he396681 he396682)).trans he396681
                            have he396756 : F396747 q396386 = .inr (20, [.int p396399, .int p369828, .int p369828, .int p396402, .int p396403, .int p396404, .int p396405]) := e396748
                            have hs396757 : rStr γ [1] F369825 F396747 := rStr_pu2 hs396683 n396749 ht396389 (by decide)
                            have fs396758 : rFs γ (γ 1 q369826) F369825 F396747 := rFs_put fs396684 n396749 ((show γ 1 q396386 = γ 1 q395042 from ht396390).trans ((show γ 1 q395042 = γ 1 q395033 from ht395047).trans ((show γ 1 q395033 = γ 1 q394984 from ht395039).trans (show γ 1 q394984 = γ 1 q369826 from ht394989))))
                            have fk396759 : rFk [1] γ F369825 F396747 := rFk_put fk396685 n396749 ht396389 (by decide)
                            obtain ⟨z396760, hz396760⟩ : ∃ z : Int32, z = g395934 + Int32.ofInt 1 := ⟨_, rfl⟩
                            have ez396760 : z396760.toInt = g395934.toInt + 1 := gI_inc hz396760 (by decide) bg395934'' (by decide) (by decide)
                            have bz396760 : gB z396760 1 1000000 := ⟨by omega, by omega⟩
                            refine G_iinc (L' := [(5, .int z396760), (6, .ref q396386), (4, .ref q395033), (3, .int g394972), (0, .ref q369826), (1, .int p369827), (2, .int p369828)]) z396760 1 dr_cX17_rename_138 rfl hz396760.symm (Nat.le_of_ble_eq_true rfl) rfl ?_
                            refine G_goto 20 dr_cX17_rename_141 (by decide +kernel) ?_
                            have hT396761 : RS D I P369824 F396747 γ el := RS_set hT396686 n396749 ht396389 (by decide) ⟨p396399, p369828, p369828, p396402, p396403, p396404, p396405, he396756, bp396399, bp369828, bp396403, bp396404, bp396405, r396406, (Or.inr bp369828), r396408, r396409, r396410⟩
                            have of396762 : ∀ b, b ≠ q396386 → F396747 b = F395935 b := fun b hb => (n396749 b hb).trans (n396675 b hb)
                            refine G_lv (L' := [(5, .int z396760), (4, .ref q395033), (3, .int g394972), (0, .ref q369826), (1, .int p369827), (2, .int p369828)]) [0, 2, 3, 4, 5, 6] rfl ?_
                            exact ih20_395940 F396747 z396760 (gB_w bz396760 (by decide) (by decide)) hT396761 hs396757 (fun N hv hu hp => rPl_put hT395936 htq369826 rfl (x395938 N hv hu hp) of396762 hp396411 nb396414 hL396412 (fun _ _ _ _ z => z) (rNx_ren he396398 he396756 hu hv (Or.inr rfl) (Or.inl rfl) (Or.inr ⟨rfl, by first | assumption | omega⟩) (by rw [← hp396411]; exact x395938 N hv hu hp _ nb396414 _ hL396412))) fk396759 fs396758 (mz_up ez396760 (Int.le_trans bg395934''.2 (by decide)) hm20_395940)
                      · have r396763 : p396402.toInt = p369827.toInt := gC_eq hc396730
                        have bp396402' : gB p396402 0 1999 := ⟨by omega, by omega⟩
                        refine G_aload 0 dr_cX17_rename_109 rfl ?_
                        refine G_iload_n 6 dr_cX17_rename_111 rfl ?_
                        refine Gp_put 3 hm396397 he396682 dr_cX17_rename_112 (gk_X15 D I) (Nat.le_of_ble_eq_true rfl) wr_9_190 rfl rfl rfl (Nat.le_of_ble_eq_true rfl) (fun F396764 e396765 n396766 => ?_)
                        have he396767 : F396764 q369826 = .inr (18, [.ref q394984, .ref q394985, .int p394986, .int p394987]) := (n396766 q369826 (rn_oo he396676 he396682 (by decide))).trans he396676
                        have he396768 : F396764 q394984 = .inr (4, [.int p395014, .ref q395016, .int p395015]) := (n396766 q394984 (rn_oo he396677 he396682 (by decide))).trans he396677
                        have he396769 : F396764 q395016 = .inl (I (.object "java/lang/Object"), n395030, .inr (.inr (.inr (.inr f395031)))) := (n396766 q395016 (rn_ao he396678 he396682)).trans he396678
                        have he396770 : F396764 q395033 = .inr (17, [.ref q395042, .ref q395043, .int p395044, .int p395045]) := (n396766 q395033 (rn_oo he396679 he396682 (by decide))).trans he396679
                        have he396771 : F396764 q395042 = .inr (4, [.int p395950, .ref q395952, .int p395951]) := (n396766 q395042 (rn_oo he396680 he396682 (by decide))).trans he396680
                        have he396772 : F396764 q395952 = .inl (I (.object "java/lang/Object"), n396383, .inr (.inr (.inr (.inr f396384)))) := (n396766 q395952 (rn_ao he396681 he396682)).trans he396681
                        have he396773 : F396764 q396386 = .inr (20, [.int p396399, .int p396400, .int p369828, .int p369828, .int p396403, .int p396404, .int p396405]) := e396765
                        have hs396774 : rStr γ [1] F369825 F396764 := rStr_pu2 hs396683 n396766 ht396389 (by decide)
                        have fs396775 : rFs γ (γ 1 q369826) F369825 F396764 := rFs_put fs396684 n396766 ((show γ 1 q396386 = γ 1 q395042 from ht396390).trans ((show γ 1 q395042 = γ 1 q395033 from ht395047).trans ((show γ 1 q395033 = γ 1 q394984 from ht395039).trans (show γ 1 q394984 = γ 1 q369826 from ht394989))))
                        have fk396776 : rFk [1] γ F369825 F396764 := rFk_put fk396685 n396766 ht396389 (by decide)
                        refine G_aload 0 dr_cX17_rename_115 rfl ?_
                        have hT396777 : RS D I P369824 F396764 γ el := RS_set hT396686 n396766 ht396389 (by decide) ⟨p396399, p396400, p369828, p369828, p396403, p396404, p396405, he396773, bp396399, bp396400, bp396403, bp396404, bp396405, r396406, (Or.inr bp369828), (Or.inr bp369828), r396409, r396410⟩
                        have of396778 : ∀ b, b ≠ q396386 → F396764 b = F395935 b := fun b hb => (n396766 b hb).trans (n396675 b hb)
                        refine Gw_callV (As := []) (gV_ok D I) (cp_1660_Row_sets l hl0 D I P369824 F396764 q396386 p396399 p396400 p369828 p369828 p396403 p396404 p396405 hm396397 he396773 bp396399 bp396400 bp396403 bp396404 bp396405) dr_cX17_rename_117 ⟨wr_10_181, wr_1_39, wr_10_184, by decide, rfl, (Nat.le_of_ble_eq_true rfl), (Nat.le_of_ble_eq_true rfl)⟩ wr_10_182 wr_10_183 hm396397 he396773 rfl (show 0 + 0 ≤ 0 by first | omega | decide) (show 0 + 0 ≤ 0 by first | omega | decide) (Nat.le_of_ble_eq_true rfl) (fun r396782 w396783 dc396779 ds396780 hp396781 => ?_) (fun _ _ _ _ _ z => z.elim)
                        obtain ⟨o396784, rfl, rfl, hdc, hds, bo396784, ht396785⟩ := hp396781
                        change G _ _ _ _ _ _ _ (.int o396784 :: _) _ _ _
                        refine G_widen (cs' := 0) (sl' := 0) (by omega) (by omega) ?_
                        refine G_if_eq 138 dr_cX17_rename_120 (by decide +kernel) (fun hc396786 => ?_) (fun hc396786 => ?_)
                        · have r396787 : o396784.toInt = 0 := gj_eq hc396786 (show Int32.toInt 0 = 0 by decide)
                          have bo396784' : gB o396784 0 0 := gB_t0 r396787
                          obtain ⟨z396788, hz396788⟩ : ∃ z : Int32, z = g395934 + Int32.ofInt 1 := ⟨_, rfl⟩
                          have ez396788 : z396788.toInt = g395934.toInt + 1 := gI_inc hz396788 (by decide) bg395934'' (by decide) (by decide)
                          have bz396788 : gB z396788 1 1000000 := ⟨by omega, by omega⟩
                          refine G_iinc (L' := [(5, .int z396788), (6, .ref q396386), (4, .ref q395033), (3, .int g394972), (0, .ref q369826), (1, .int p369827), (2, .int p369828)]) z396788 1 dr_cX17_rename_138 rfl hz396788.symm (Nat.le_of_ble_eq_true rfl) rfl ?_
                          refine G_goto 20 dr_cX17_rename_141 (by decide +kernel) ?_
                          refine G_lv (L' := [(5, .int z396788), (4, .ref q395033), (3, .int g394972), (0, .ref q369826), (1, .int p369827), (2, .int p369828)]) [0, 2, 3, 4, 5, 6] rfl ?_
                          exact ih20_395940 F396764 z396788 (gB_w bz396788 (by decide) (by decide)) hT396777 hs396774 (fun N hv hu hp => rPl_put hT395936 htq369826 rfl (x395938 N hv hu hp) of396778 hp396411 nb396414 hL396412 (fun _ _ _ _ z => z) (rNx_ren he396398 he396773 hu hv (Or.inr rfl) (Or.inr rfl) (Or.inl rfl) (by rw [← hp396411]; exact x395938 N hv hu hp _ nb396414 _ hL396412))) fk396776 fs396775 (mz_up ez396788 (Int.le_trans bg395934''.2 (by decide)) hm20_395940)
                        · have r396789 : o396784.toInt ≠ 0 := gj_neq hc396786 (show Int32.toInt 0 = 0 by decide)
                          have bo396784' : gB o396784 1 1 := gB_t1 bo396784 r396789
                          refine G_aload 0 dr_cX17_rename_123 rfl ?_
                          refine Gp_get 1 hm396397 he396773 dr_cX17_rename_125 (gk_X15 D I) (Nat.le_of_ble_eq_true rfl) wr_9_182 rfl ?_
                          refine G_iload_n 5 dr_cX17_rename_128 rfl ?_
                          refine G_icmp_ne 138 dr_cX17_rename_129 (by decide +kernel) (fun hc396790 => ?_) (fun hc396790 => ?_)
                          · have r396791 : p396400.toInt ≠ p369827.toInt := gC_ne hc396790
                            obtain ⟨z396792, hz396792⟩ : ∃ z : Int32, z = g395934 + Int32.ofInt 1 := ⟨_, rfl⟩
                            have ez396792 : z396792.toInt = g395934.toInt + 1 := gI_inc hz396792 (by decide) bg395934'' (by decide) (by decide)
                            have bz396792 : gB z396792 1 1000000 := ⟨by omega, by omega⟩
                            refine G_iinc (L' := [(5, .int z396792), (6, .ref q396386), (4, .ref q395033), (3, .int g394972), (0, .ref q369826), (1, .int p369827), (2, .int p369828)]) z396792 1 dr_cX17_rename_138 rfl hz396792.symm (Nat.le_of_ble_eq_true rfl) rfl ?_
                            refine G_goto 20 dr_cX17_rename_141 (by decide +kernel) ?_
                            refine G_lv (L' := [(5, .int z396792), (4, .ref q395033), (3, .int g394972), (0, .ref q369826), (1, .int p369827), (2, .int p369828)]) [0, 2, 3, 4, 5, 6] rfl ?_
                            exact ih20_395940 F396764 z396792 (gB_w bz396792 (by decide) (by decide)) hT396777 hs396774 (fun N hv hu hp => rPl_put hT395936 htq369826 rfl (x395938 N hv hu hp) of396778 hp396411 nb396414 hL396412 (fun _ _ _ _ z => z) (rNx_ren he396398 he396773 hu hv (Or.inr rfl) (Or.inr rfl) (Or.inl rfl) (by rw [← hp396411]; exact x395938 N hv hu hp _ nb396414 _ hL396412))) fk396776 fs396775 (mz_up ez396792 (Int.le_trans bg395934''.2 (by decide)) hm20_395940)
                          · have r396793 : p396400.toInt = p369827.toInt := gC_eq hc396790
                            refine G_aload 0 dr_cX17_rename_132 rfl ?_
                            refine G_iload_n 6 dr_cX17_rename_134 rfl ?_
                            refine Gp_put 1 hm396397 he396773 dr_cX17_rename_135 (gk_X15 D I) (Nat.le_of_ble_eq_true rfl) wr_9_182 rfl rfl rfl (Nat.le_of_ble_eq_true rfl) (fun F396794 e396795 n396796 => ?_)
                            have he396797 : F396794 q369826 = .inr (18, [.ref q394984, .ref q394985, .int p394986, .int p394987]) := (n396796 q369826 (rn_oo he396767 he396773 (by decide))).trans he396767
                            have he396798 : F396794 q394984 = .inr (4, [.int p395014, .ref q395016, .int p395015]) := (n396796 q394984 (rn_oo he396768 he396773 (by decide))).trans he396768
                            have he396799 : F396794 q395016 = .inl (I (.object "java/lang/Object"), n395030, .inr (.inr (.inr (.inr f395031)))) := (n396796 q395016 (rn_ao he396769 he396773)).trans he396769
                            have he396800 : F396794 q395033 = .inr (17, [.ref q395042, .ref q395043, .int p395044, .int p395045]) := (n396796 q395033 (rn_oo he396770 he396773 (by decide))).trans he396770
                            have he396801 : F396794 q395042 = .inr (4, [.int p395950, .ref q395952, .int p395951]) := (n396796 q395042 (rn_oo he396771 he396773 (by decide))).trans he396771
                            have he396802 : F396794 q395952 = .inl (I (.object "java/lang/Object"), n396383, .inr (.inr (.inr (.inr f396384)))) := (n396796 q395952 (rn_ao he396772 he396773)).trans he396772
                            have he396803 : F396794 q396386 = .inr (20, [.int p396399, .int p369828, .int p369828, .int p369828, .int p396403, .int p396404, .int p396405]) := e396795
                            have hs396804 : rStr γ [1] F369825 F396794 := rStr_pu2 hs396774 n396796 ht396389 (by decide)
                            have fs396805 : rFs γ (γ 1 q369826) F369825 F396794 := rFs_put fs396775 n396796 ((show γ 1 q396386 = γ 1 q395042 from ht396390).trans ((show γ 1 q395042 = γ 1 q395033 from ht395047).trans ((show γ 1 q395033 = γ 1 q394984 from ht395039).trans (show γ 1 q394984 = γ 1 q369826 from ht394989))))
                            have fk396806 : rFk [1] γ F369825 F396794 := rFk_put fk396776 n396796 ht396389 (by decide)
                            obtain ⟨z396807, hz396807⟩ : ∃ z : Int32, z = g395934 + Int32.ofInt 1 := ⟨_, rfl⟩
                            have ez396807 : z396807.toInt = g395934.toInt + 1 := gI_inc hz396807 (by decide) bg395934'' (by decide) (by decide)
                            have bz396807 : gB z396807 1 1000000 := ⟨by omega, by omega⟩
                            refine G_iinc (L' := [(5, .int z396807), (6, .ref q396386), (4, .ref q395033), (3, .int g394972), (0, .ref q369826), (1, .int p369827), (2, .int p369828)]) z396807 1 dr_cX17_rename_138 rfl hz396807.symm (Nat.le_of_ble_eq_true rfl) rfl ?_
                            refine G_goto 20 dr_cX17_rename_141 (by decide +kernel) ?_
                            have hT396808 : RS D I P369824 F396794 γ el := RS_set hT396777 n396796 ht396389 (by decide) ⟨p396399, p369828, p369828, p369828, p396403, p396404, p396405, he396803, bp396399, bp369828, bp396403, bp396404, bp396405, r396406, (Or.inr bp369828), (Or.inr bp369828), r396409, r396410⟩
                            have of396809 : ∀ b, b ≠ q396386 → F396794 b = F395935 b := fun b hb => (n396796 b hb).trans (of396778 b hb)
                            refine G_lv (L' := [(5, .int z396807), (4, .ref q395033), (3, .int g394972), (0, .ref q369826), (1, .int p369827), (2, .int p369828)]) [0, 2, 3, 4, 5, 6] rfl ?_
                            exact ih20_395940 F396794 z396807 (gB_w bz396807 (by decide) (by decide)) hT396808 hs396804 (fun N hv hu hp => rPl_put hT395936 htq369826 rfl (x395938 N hv hu hp) of396809 hp396411 nb396414 hL396412 (fun _ _ _ _ z => z) (rNx_ren he396398 he396803 hu hv (Or.inr rfl) (Or.inr rfl) (Or.inr ⟨rfl, by first | assumption | omega⟩) (by rw [← hp396411]; exact x395938 N hv hu hp _ nb396414 _ hL396412))) fk396806 fs396805 (mz_up ez396807 (Int.le_trans bg395934''.2 (by decide)) hm20_395940)
        exact hlp20_395940 (((1000002 : Int) - 0).toNat + 1) F394973 0 (gB_w (gBl (show Int32.toInt 0 = 0 by decide)) (by decide) (by decide)) hT394974 hs394975 x394976 x394977 x394978 (Nat.lt_succ_self _)
  exact hlp2_394978 (((1000001 : Int) - 0).toNat + 1) F369825 0 (gB_w (gBl (show Int32.toInt 0 = 0 by decide)) (by decide) (by decide)) hT (rStr_rf (γ := γ) (W := [1]) (F := F369825)) (fun N _ _ h => h) (rFk_rf) (rFs_rf) (Nat.lt_succ_self _)
