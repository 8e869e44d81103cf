abbrev ky_369944_SpillForgeModel_rename : gKey := (cX17_rename, 7, "SpillForgeModel", none, [], "rename", fun _ _ => True)
def pt_369944_SpillForgeModel_rename (D : va_G) (I : FieldType → ClassId) (γ el : Nat → Nat → Nat) (P369938 : List Nat) (F369939 : Nat → va_E) (q369940 : Nat) (p369941 : Int32) (p369942 : Int32) : Option Value → va_W → Nat → Nat → Prop := fun r w dc ds => ∃ (F397004 : Nat → va_E), r = none ∧ w = va_pl P369938 F397004 ∧ RS D I P369938 F397004 γ el ∧ rStr γ [1] F369939 F397004 ∧ dc ≤ 0 ∧ ds ≤ 0 ∧ (∀ N : Nat → Prop, N (p369942.toInt : Int).toNat → p369941.toInt < 100 → rPl γ el F369939 q369940 (γ 6 (γ 1 q369940)) (fun _ _ => rNx N) → rPl γ el F397004 q369940 (γ 6 (γ 1 q369940)) (fun _ _ => rNx N)) ∧ rFk [1] γ F369939 F397004 ∧ rFs γ (γ 1 q369940) F369939 F397004 ∧ tr_RModel_rename D I γ el P369938 F369939 q369940 p369941 p369942 F397004
set_option maxRecDepth 100000 in
set_option maxHeartbeats 4000000 in
theorem ct_369944_SpillForgeModel_rename (l : Launch) (hl0 : l.stackTraces = false) (D : va_G) (I : FieldType → ClassId) (γ el : Nat → Nat → Nat) (P369938 : List Nat) (F369939 : Nat → va_E) (q369940 : Nat) (p369941 : Int32) (p369942 : Int32) (hT : RS D I P369938 F369939 γ el) (htq369940 : rKd γ q369940 9) (bp369941 : gB p369941 0 1999) (bp369942 : gB p369942 0 1999) (x369943 : 0 < γ 6 (γ 1 q369940)) : CtA (gV D I) l yX17_rename cX17_rename 7 none 4 85 0 0 [.ref q369940, .int p369941, .int p369942] (va_pl P369938 F369939) (pt_369944_SpillForgeModel_rename D I γ el P369938 F369939 q369940 p369941 p369942) gNA := by
  refine CtA_of hl0 (by decide) (Nat.le_of_ble_eq_true rfl) ?_
  refine G_iconst 0 dr_cX17_rename_0 (by decide +kernel) ?_
  refine G_istore_n (L' := [(3, .int 0), (0, .ref q369940), (1, .int p369941), (2, .int p369942)]) dr_cX17_rename_1 (Nat.le_of_ble_eq_true rfl) rfl ?_
  have hlp2_395092 : ∀ (n2_395092 : Nat) (F395087 : Nat → va_E) (g395086 : Int32), gB g395086 0 1000000 → RS D I P369938 F395087 γ el → rStr γ [1] F369939 F395087 → (∀ N : Nat → Prop, N (p369942.toInt : Int).toNat → p369941.toInt < 100 → rPl γ el F369939 q369940 (γ 6 (γ 1 q369940)) (fun _ _ => rNx N) → rPl γ el F395087 q369940 (γ 6 (γ 1 q369940)) (fun _ _ => rNx N)) → rFk [1] γ F369939 F395087 → rFs γ (γ 1 q369940) F369939 F395087 → (∀ (k : Nat) (e1 : Nat → va_E), tl_RModel_rename_2 D I γ el P369938 F369939 p369942 p369941 q369940 F395087 g395086 k e1 → tl_RModel_rename_2 D I γ el P369938 F369939 p369942 p369941 q369940 F369939 (0 : Int32) k e1) → ((1000001 : Int) - g395086.toInt).toNat < n2_395092 → G (gV D I) l (gRm 4 85 0 0) (gMA (gV D I) (pt_369944_SpillForgeModel_rename D I γ el P369938 F369939 q369940 p369941 p369942) gNA 0 0) ky_369944_SpillForgeModel_rename 2 [(3, .int g395086), (0, .ref q369940), (1, .int p369941), (2, .int p369942)] [] (va_pl P369938 F395087) 0 0 := by
    intro n2_395092
    induction n2_395092 with
    | zero => intro F395087 g395086 bg395086 hT395088 hs395089 x395090 x395091 x395092 kt2_395093 hm2_395092; exact absurd hm2_395092 (Nat.not_lt_zero _)
    | succ n2_395092 ih2_395092 =>
      intro F395087 g395086 bg395086 hT395088 hs395089 x395090 x395091 x395092 kt2_395093 hm2_395092
      have hs395094 : rStr γ [1] F369939 F395087 := fun b h0 hb hw => (hs395089 b h0 hb hw).trans ((rStr_rf (γ := γ) (W := [1]) (F := F369939)) b h0 hb hw).symm
      have hs395095 : rStr γ [1] F369939 F395087 := rStr_tr (rStr_rf (γ := γ) (W := [1]) (F := F369939)) hs395094
      refine G_iload_n 0 dr_cX17_rename_2 rfl ?_
      refine G_aload_n 1 dr_cX17_rename_3 rfl ?_
      have hm395096 : q369940 ∈ P369938 := RS_m hT395088 htq369940 (by decide)
      obtain ⟨q395098, q395099, p395100, p395101, he395097, ht395117, ht395102, ht395103, ht395104, ht395105, r395106, r395107, r395108, r395109, r395110, r395111, r395112, r395113, r395114, r395115, r395116⟩ := show rk_9 γ el q369940 (F395087 q369940) from RS_o hT395088 htq369940
      have bp395100 : gB p395100 0 1000000 := ⟨by omega, by omega⟩
      have bp395101 : gB p395101 0 1000000 := ⟨by omega, by omega⟩
      have fq395118 : fI (F395087 q369940) 3 = p395101 := by rw [he395097]; rfl
      refine Gw_callV (As := []) (gV_ok D I) (cp_12780_Code_size l hl0 D I P369938 F395087 q369940 q395098 q395099 p395100 p395101 hm395096 he395097) dr_cX17_rename_4 ⟨wr_10_160, wr_1_15, wr_9_131, by decide, rfl, (Nat.le_of_ble_eq_true rfl), (Nat.le_of_ble_eq_true rfl)⟩ wr_9_129 wr_9_130 hm395096 he395097 rfl (show 0 + 0 ≤ 0 by first | omega | decide) (show 0 + 0 ≤ 0 by first | omega | decide) (Nat.le_of_ble_eq_true rfl) (fun r395122 w395123 dc395119 ds395120 hp395121 => ?_) (fun _ _ _ _ _ z => z.elim)
      obtain ⟨rfl, rfl, hdc, hds⟩ := hp395121
      change G _ _ _ _ _ _ _ (.int p395101 :: _) _ _ _
      refine G_widen (cs' := 0) (sl' := 0) (by omega) (by omega) ?_
      refine G_icmp_ge 150 dr_cX17_rename_7 (by decide +kernel) (fun hc395124 => ?_) (fun hc395124 => ?_)
      · have r395125 : p395101.toInt ≤ g395086.toInt := gC_le hc395124
        have hx395126 : tl_RModel_rename_2 D I γ el P369938 F369939 p369942 p369941 q369940 F369939 (0 : Int32) 150 F395087 := kt2_395093 150 F395087 (fun R c1 c2 => c1 F395087 g395086 p395101 bg395086 hT395088 hs395089 x395090 x395091 x395092 fq395118 r395125)
        exact G_vretA dr_cX17_rename_150 rfl (Nat.le_of_ble_eq_true rfl) (Nat.le_of_ble_eq_true rfl) ⟨F395087, rfl, rfl, hT395088, hs395089, (Nat.le_of_ble_eq_true rfl), (Nat.le_of_ble_eq_true rfl), x395090, x395091, x395092, (fun R c1 => c1 F395087 hx395126)⟩
      · have r395127 : g395086.toInt < p395101.toInt := gC_nle hc395124
        have bg395086' : gB g395086 0 999999 := ⟨by omega, by omega⟩
        have bp395101' : gB p395101 1 1000000 := ⟨by omega, by omega⟩
        refine G_aload_n 1 dr_cX17_rename_10 rfl ?_
        refine G_iload_n 0 dr_cX17_rename_11 rfl ?_
        have hm395128 : q395098 ∈ P369938 := RS_m hT395088 ht395102 (by decide)
        obtain ⟨⟨p395130, p395131, q395132, he395129, r395133, r395134, r395135, r395137⟩, r395136⟩ := show rk_4 D I γ el F395087 q395098 from RS_o hT395088 ht395102
        have bp395130 := gB_any p395130
        have bp395131 : gB p395131 0 1000000 := ⟨by omega, by omega⟩
        obtain ⟨r395138, r395139, n395146, f395147, r395140, r395141, r395142, r395143, r395144, r395145⟩ := rLC_n r395135 (by omega)
        have hm395148 : q395132 ∈ P369938 := RS_m hT395088 r395138 (by decide)
        obtain ⟨q395149, hx395150⟩ : ∃ x, x = el q395098 g395086.toInt.toNat := ⟨_, rfl⟩
        have fq395154 : fR (F395087 q369940) 0 = q395098 := by rw [he395097]; rfl
        have hx395151 : f395147 g395086.toNatClampNeg = some q395149 := (r395144 _ (show g395086.toInt.toNat < γ 2 q395098 by omega)).trans (by rw [hx395150])
        have ht395155 : rKd γ q395149 2 := by rw [hx395150]; exact (r395113 _ (by omega)).resolve_right (fun z => absurd z.1 (by omega))
        have ht395156 : rFm γ q395149 q395098 := by rw [hx395150]; exact (r395136 _ (show g395086.toInt.toNat < γ 2 q395098 by omega)).2.1
        have hm395157 : q395149 ∈ P369938 := RS_m hT395088 ht395155 (by decide)
        obtain ⟨q395159, q395160, p395161, p395162, he395158, ht395169, ht395163, ht395164, ht395165, ht395166, ht395167, bp395161, bp395162, r395168, r395170, r395171⟩ := show rk_2 γ q395149 (F395087 q395149) from RS_o hT395088 ht395155
        have fq395172 : fI (F395087 q395098) 2 = p395131 := by rw [he395129]; rfl
        refine Gw_callV (As := [.int g395086]) (gV_ok D I) (cp_7901_Code_get l hl0 D I P369938 F395087 q369940 q395098 q395132 g395086 q395099 p395100 p395101 p395130 p395131 f395147 n395146 q395149 q395159 q395160 p395161 p395162 hm395096 hm395128 hm395148 hm395157 he395097 he395129 r395140 he395158 (gB_w bg395086' (by decide) (by decide)) (gB_w bp395131 (by decide) (by decide)) (by omega) (by omega) (by assumption) (by omega)) dr_cX17_rename_12 ⟨wr_10_161, wr_1_15, wr_10_141, by decide, rfl, (Nat.le_of_ble_eq_true rfl), (Nat.le_of_ble_eq_true rfl)⟩ wr_10_139 wr_10_140 hm395096 he395097 rfl (show 0 + 0 ≤ 0 by first | omega | decide) (show 0 + 0 ≤ 0 by first | omega | decide) (Nat.le_of_ble_eq_true rfl) (fun r395176 w395177 dc395173 ds395174 hp395175 => ?_) (fun _ _ _ _ _ z => z.elim)
        obtain ⟨rfl, rfl, hdc, hds, ht395178⟩ := hp395175
        change G _ _ _ _ _ _ _ (.ref q395149 :: _) _ _ _
        refine G_widen (cs' := 0) (sl' := 0) (by omega) (by omega) ?_
        have hb395179 : el (γ 14 q369940) (g395086.toInt : Int).toNat = q395149 := by rw [ht395117.1, hx395150]
        refine G_astore (L' := [(4, .ref q395149), (3, .int g395086), (0, .ref q369940), (1, .int p369941), (2, .int p369942)]) dr_cX17_rename_15 (Nat.le_of_ble_eq_true rfl) rfl ?_
        refine G_iconst 0 dr_cX17_rename_17 (by decide +kernel) ?_
        refine G_istore (L' := [(5, .int 0), (4, .ref q395149), (3, .int g395086), (0, .ref q369940), (1, .int p369941), (2, .int p369942)]) dr_cX17_rename_18 (Nat.le_of_ble_eq_true rfl) rfl ?_
        have hlp20_396058 : ∀ (n20_396058 : Nat) (F396053 : Nat → va_E) (g396052 : Int32), gB g396052 0 1000001 → RS D I P369938 F396053 γ el → rStr γ [1] F369939 F396053 → (∀ N : Nat → Prop, N (p369942.toInt : Int).toNat → p369941.toInt < 100 → rPl γ el F369939 q369940 (γ 6 (γ 1 q369940)) (fun _ _ => rNx N) → rPl γ el F396053 q369940 (γ 6 (γ 1 q369940)) (fun _ _ => rNx N)) → rFk [1] γ F369939 F396053 → rFs γ (γ 1 q369940) F369939 F396053 → (∀ (k : Nat) (e1 : Nat → va_E), tl_RModel_rename_20 D I γ el P369938 F369939 p369942 p369941 q369940 q395149 F396053 g396052 k e1 → tl_RModel_rename_20 D I γ el P369938 F369939 p369942 p369941 q369940 q395149 F395087 (0 : Int32) k e1) → ((1000002 : Int) - g396052.toInt).toNat < n20_396058 → G (gV D I) l (gRm 4 85 0 0) (gMA (gV D I) (pt_369944_SpillForgeModel_rename D I γ el P369938 F369939 q369940 p369941 p369942) gNA 0 0) ky_369944_SpillForgeModel_rename 20 [(5, .int g396052), (4, .ref q395149), (3, .int g395086), (0, .ref q369940), (1, .int p369941), (2, .int p369942)] [] (va_pl P369938 F396053) 0 0 := by
          intro n20_396058
          induction n20_396058 with
          | zero => intro F396053 g396052 bg396052 hT396054 hs396055 x396056 x396057 x396058 kt20_396059 hm20_396058; exact absurd hm20_396058 (Nat.not_lt_zero _)
          | succ n20_396058 ih20_396058 =>
            intro F396053 g396052 bg396052 hT396054 hs396055 x396056 x396057 x396058 kt20_396059 hm20_396058
            have hs396060 : rStr γ [1] F395087 F396053 := fun b h0 hb hw => (hs396055 b h0 hb hw).trans (hs395089 b h0 hb hw).symm
            have he396061 : F396053 q369940 = .inr (18, [.ref q395098, .ref q395099, .int p395100, .int p395101]) := (hs396060 q369940 (rT0 htq369940 (by decide)) (rT1 htq369940 (by decide)) (rT2 htq369940 (by decide))).trans he395097
            have he396062 : F396053 q395098 = .inr (4, [.int p395130, .ref q395132, .int p395131]) := (hs396060 q395098 (rT0 ht395102 (by decide)) (rT1 ht395102 (by decide)) (rT2 ht395102 (by decide))).trans he395129
            have he396063 : F396053 q395132 = .inl (I (.object "java/lang/Object"), n395146, .inr (.inr (.inr (.inr f395147)))) := (hs396060 q395132 (rT0 r395138 (by decide)) (rT1 r395138 (by decide)) (rT2 r395138 (by decide))).trans r395140
            have he396064 : F396053 q395149 = .inr (17, [.ref q395159, .ref q395160, .int p395161, .int p395162]) := (hs396060 q395149 (rT0 ht395155 (by decide)) (rT1 ht395155 (by decide)) (rT2 ht395155 (by decide))).trans he395158
            have hs396065 : rStr γ [1] F369939 F396053 := rStr_tr hs395089 hs396060
            refine G_iload 0 dr_cX17_rename_20 rfl ?_
            refine G_aload 1 dr_cX17_rename_22 rfl ?_
            have fq396066 : fR (F396053 q395149) 0 = q395159 := by rw [he396064]; rfl
            refine Gp_get 0 hm395157 he396064 dr_cX17_rename_24 (gk_X12 D I) (Nat.le_of_ble_eq_true rfl) wr_9_220 rfl ?_
            have hm396067 : q395159 ∈ P369938 := RS_m hT396054 ht395163 (by decide)
            obtain ⟨⟨p396069, p396070, q396071, he396068, r396072, r396073, r396074, r396076⟩, r396075⟩ := show rk_3 D I γ el F396053 q395159 from RS_o hT396054 ht395163
            have bp396069 := gB_any p396069
            have bp396070 : gB p396070 0 1000000 := ⟨by omega, by omega⟩
            have fq396077 : p396070.toInt = (γ 2 q395159 : Int) := by omega
            have fq396078 : fI (F396053 q395159) 2 = p396070 := by rw [he396068]; rfl
            refine Gw_callV (As := []) (gV_ok D I) (cp_7_ArrayList_size l hl0 D I P369938 F396053 q395159 p396069 q396071 p396070 hm396067 he396068 (gB_w bp396070 (by decide) (by decide))) dr_cX17_rename_27 ⟨wr_10_200, wr_1_18, wr_9_160, by decide, rfl, (Nat.le_of_ble_eq_true rfl), (Nat.le_of_ble_eq_true rfl)⟩ wr_9_158 wr_9_159 hm396067 he396068 rfl (show 0 + 0 ≤ 0 by first | omega | decide) (show 0 + 0 ≤ 0 by first | omega | decide) (Nat.le_of_ble_eq_true rfl) (fun r396082 w396083 dc396079 ds396080 hp396081 => ?_) (fun _ _ _ _ _ z => z.elim)
            obtain ⟨rfl, rfl, hdc, hds⟩ := hp396081
            change G _ _ _ _ _ _ _ (.int p396070 :: _) _ _ _
            refine G_widen (cs' := 0) (sl' := 0) (by omega) (by omega) ?_
            refine G_icmp_gt 144 dr_cX17_rename_30 (by decide +kernel) (fun hc396084 => ?_) (fun hc396084 => ?_)
            · have r396085 : p396070.toInt < g396052.toInt := gC_lt hc396084
              have bg396052' : gB g396052 1 1000001 := ⟨by omega, by omega⟩
              have hx396086 : tl_RModel_rename_20 D I γ el P369938 F369939 p369942 p369941 q369940 q395149 F395087 (0 : Int32) 144 F396053 := kt20_396059 144 F396053 (fun R c1 c2 c3 c4 c5 c6 c7 c8 c9 c10 c11 c12 c13 c14 c15 c16 c17 c18 c19 c20 c21 c22 c23 c24 c25 c26 c27 c28 c29 c30 c31 c32 c33 c34 c35 c36 c37 c38 c39 c40 c41 c42 c43 c44 c45 c46 c47 c48 c49 c50 c51 c52 c53 c54 c55 => c1 F396053 g396052 q395159 p396070 bg396052 hT396054 hs396055 x396056 x396057 x396058 fq396066 fq396077 fq396078 r396085)
              obtain ⟨z396087, hz396087⟩ : ∃ z : Int32, z = g395086 + Int32.ofInt 1 := ⟨_, rfl⟩
              have ez396087 : z396087.toInt = g395086.toInt + 1 := gI_inc hz396087 (by decide) bg395086' (by decide) (by decide)
              have bz396087 : gB z396087 1 1000000 := ⟨by omega, by omega⟩
              refine G_iinc (L' := [(3, .int z396087), (5, .int g396052), (4, .ref q395149), (0, .ref q369940), (1, .int p369941), (2, .int p369942)]) z396087 2 dr_cX17_rename_144 rfl hz396087.symm (Nat.le_of_ble_eq_true rfl) rfl ?_
              refine G_goto 2 dr_cX17_rename_147 (by decide +kernel) ?_
              refine G_lv (L' := [(3, .int z396087), (0, .ref q369940), (1, .int p369941), (2, .int p369942)]) [0, 3, 4, 5] rfl ?_
              exact ih2_395092 F396053 z396087 (gB_w bz396087 (by decide) (by decide)) hT396054 hs396055 x396056 x396057 x396058 (fun k e1 ht => kt2_395093 k e1 (fun R c1 c2 => c2 F395087 g395086 p395101 q395098 q395149 p395131 F396053 z396087 k e1 bg395086 hT395088 hs395089 x395090 x395091 x395092 fq395118 r395127 fq395154 hx395150 fq395172 ht395178 hx396086 ez396087 (ht R c1 c2))) (mz_up ez396087 (Int.le_trans bg395086'.2 (by decide)) hm2_395092)
            · have r396088 : g396052.toInt ≤ p396070.toInt := gC_nlt hc396084
              have bg396052' : gB g396052 0 1000000 := ⟨by omega, by omega⟩
              refine G_iload 0 dr_cX17_rename_33 rfl ?_
              refine G_aload 1 dr_cX17_rename_35 rfl ?_
              refine Gp_get 0 hm395157 he396064 dr_cX17_rename_37 (gk_X12 D I) (Nat.le_of_ble_eq_true rfl) wr_9_220 rfl ?_
              have fq396089 : p396070.toInt = (γ 2 q395159 : Int) := by omega
              refine Gw_callV (As := []) (gV_ok D I) (cp_7_ArrayList_size l hl0 D I P369938 F396053 q395159 p396069 q396071 p396070 hm396067 he396068 (gB_w bp396070 (by decide) (by decide))) dr_cX17_rename_40 ⟨wr_10_200, wr_1_18, wr_9_160, by decide, rfl, (Nat.le_of_ble_eq_true rfl), (Nat.le_of_ble_eq_true rfl)⟩ wr_9_158 wr_9_159 hm396067 he396068 rfl (show 0 + 0 ≤ 0 by first | omega | decide) (show 0 + 0 ≤ 0 by first | omega | decide) (Nat.le_of_ble_eq_true rfl) (fun r396093 w396094 dc396090 ds396091 hp396092 => ?_) (fun _ _ _ _ _ z => z.elim)
              obtain ⟨rfl, rfl, hdc, hds⟩ := hp396092
              change G _ _ _ _ _ _ _ (.int p396070 :: _) _ _ _
              refine G_widen (cs' := 0) (sl' := 0) (by omega) (by omega) ?_
              refine G_icmp_ge 62 dr_cX17_rename_43 (by decide +kernel) (fun hc396095 => ?_) (fun hc396095 => ?_)
              · have r396096 : p396070.toInt ≤ g396052.toInt := gC_le hc396095
                refine G_aload 1 dr_cX17_rename_62 rfl ?_
                have fq396097 : fR (F396053 q395149) 1 = q395160 := by rw [he396064]; rfl
                refine Gp_get 1 hm395157 he396064 dr_cX17_rename_64 (gk_X12 D I) (Nat.le_of_ble_eq_true rfl) wr_9_223 rfl ?_
                have fl396100 : p396070.toInt = γ 2 q395159 := r396072
                have hp396098 : rAt γ el q369940 (g395086.toInt : Int).toNat (g396052.toInt : Int).toNat = q395160 := (rAt_e hb395179 ht395169.1 (by omega)).trans ht395169.2.1
                have hL396099 : (g396052.toInt : Int).toNat ≤ γ 2 (rwL γ el q369940 (g395086.toInt : Int).toNat) := by unfold rwL; rw [hb395179, ht395169.1]; omega
                have nb396101 : (g395086.toInt : Int).toNat < γ 6 (γ 1 q369940) := by omega
                have hm396102 : q395160 ∈ P369938 := RS_m hT396054 ht395165 (by decide)
                obtain ⟨p396104, p396105, p396106, p396107, p396108, p396109, p396110, he396103, bp396104, bp396105, bp396108, bp396109, bp396110, r396111, r396112, r396113, r396114, r396115⟩ := show rk_1 γ q395160 (F396053 q395160) from RS_o hT396054 ht395165
                have bp396106 := gB_any p396106
                have bp396107 := gB_any p396107
                refine G_astore (L' := [(6, .ref q395160), (5, .int g396052), (4, .ref q395149), (3, .int g395086), (0, .ref q369940), (1, .int p369941), (2, .int p369942)]) dr_cX17_rename_67 (Nat.le_of_ble_eq_true rfl) rfl ?_
                refine G_aload 0 dr_cX17_rename_69 rfl ?_
                have fq396116 : fI (F396053 q395160) 0 = p396104 := by rw [he396103]; rfl
                have fq396117 : fI (F396053 q395160) 5 = p396109 := by rw [he396103]; rfl
                refine Gw_callV (As := []) (gV_ok D I) (cp_1675_Row_usesA l hl0 D I P369938 F396053 q395160 p396104 p396105 p396106 p396107 p396108 p396109 p396110 hm396102 he396103 bp396104 bp396105 bp396108 bp396109 bp396110) dr_cX17_rename_71 ⟨wr_10_192, wr_1_39, wr_10_195, by decide, rfl, (Nat.le_of_ble_eq_true rfl), (Nat.le_of_ble_eq_true rfl)⟩ wr_10_193 wr_10_194 hm396102 he396103 rfl (show 0 + 0 ≤ 0 by first | omega | decide) (show 0 + 0 ≤ 0 by first | omega | decide) (Nat.le_of_ble_eq_true rfl) (fun r396121 w396122 dc396118 ds396119 hp396120 => ?_) (fun _ _ _ _ _ z => z.elim)
                obtain ⟨o396123, rfl, rfl, hdc, hds, bo396123, x396124, ht396125⟩ := hp396120
                change G _ _ _ _ _ _ _ (.int o396123 :: _) _ _ _
                refine G_widen (cs' := 0) (sl' := 0) (by omega) (by omega) ?_
                refine G_if_eq 92 dr_cX17_rename_74 (by decide +kernel) (fun hc396126 => ?_) (fun hc396126 => ?_)
                · have r396127 : o396123.toInt = 0 := gj_eq hc396126 (show Int32.toInt 0 = 0 by decide)
                  have bo396123' : gB o396123 0 0 := gB_t0 r396127
                  refine G_aload 0 dr_cX17_rename_92 rfl ?_
                  have fq396128 : fI (F396053 q395160) 6 = p396110 := by rw [he396103]; rfl
                  refine Gw_callV (As := []) (gV_ok D I) (cp_1699_Row_usesB l hl0 D I P369938 F396053 q395160 p396104 p396105 p396106 p396107 p396108 p396109 p396110 hm396102 he396103 bp396104 bp396105 bp396108 bp396109 bp396110) dr_cX17_rename_94 ⟨wr_10_196, wr_1_39, wr_10_199, by decide, rfl, (Nat.le_of_ble_eq_true rfl), (Nat.le_of_ble_eq_true rfl)⟩ wr_10_197 wr_10_198 hm396102 he396103 rfl (show 0 + 0 ≤ 0 by first | omega | decide) (show 0 + 0 ≤ 0 by first | omega | decide) (Nat.le_of_ble_eq_true rfl) (fun r396132 w396133 dc396129 ds396130 hp396131 => ?_) (fun _ _ _ _ _ z => z.elim)
                  obtain ⟨o396134, rfl, rfl, hdc, hds, bo396134, x396135, ht396136⟩ := hp396131
                  change G _ _ _ _ _ _ _ (.int o396134 :: _) _ _ _
                  refine G_widen (cs' := 0) (sl' := 0) (by omega) (by omega) ?_
                  refine G_if_eq 115 dr_cX17_rename_97 (by decide +kernel) (fun hc396137 => ?_) (fun hc396137 => ?_)
                  · have r396138 : o396134.toInt = 0 := gj_eq hc396137 (show Int32.toInt 0 = 0 by decide)
                    have bo396134' : gB o396134 0 0 := gB_t0 r396138
                    refine G_aload 0 dr_cX17_rename_115 rfl ?_
                    refine Gw_callV (As := []) (gV_ok D I) (cp_1660_Row_sets l hl0 D I P369938 F396053 q395160 p396104 p396105 p396106 p396107 p396108 p396109 p396110 hm396102 he396103 bp396104 bp396105 bp396108 bp396109 bp396110) dr_cX17_rename_117 ⟨wr_10_181, wr_1_39, wr_10_184, by decide, rfl, (Nat.le_of_ble_eq_true rfl), (Nat.le_of_ble_eq_true rfl)⟩ wr_10_182 wr_10_183 hm396102 he396103 rfl (show 0 + 0 ≤ 0 by first | omega | decide) (show 0 + 0 ≤ 0 by first | omega | decide) (Nat.le_of_ble_eq_true rfl) (fun r396142 w396143 dc396139 ds396140 hp396141 => ?_) (fun _ _ _ _ _ z => z.elim)
                    obtain ⟨o396144, rfl, rfl, hdc, hds, bo396144, ht396145⟩ := hp396141
                    change G _ _ _ _ _ _ _ (.int o396144 :: _) _ _ _
                    refine G_widen (cs' := 0) (sl' := 0) (by omega) (by omega) ?_
                    refine G_if_eq 138 dr_cX17_rename_120 (by decide +kernel) (fun hc396146 => ?_) (fun hc396146 => ?_)
                    · have r396147 : o396144.toInt = 0 := gj_eq hc396146 (show Int32.toInt 0 = 0 by decide)
                      have bo396144' : gB o396144 0 0 := gB_t0 r396147
                      obtain ⟨z396148, hz396148⟩ : ∃ z : Int32, z = g396052 + Int32.ofInt 1 := ⟨_, rfl⟩
                      have ez396148 : z396148.toInt = g396052.toInt + 1 := gI_inc hz396148 (by decide) bg396052' (by decide) (by decide)
                      have bz396148 : gB z396148 1 1000001 := ⟨by omega, by omega⟩
                      refine G_iinc (L' := [(5, .int z396148), (6, .ref q395160), (4, .ref q395149), (3, .int g395086), (0, .ref q369940), (1, .int p369941), (2, .int p369942)]) z396148 1 dr_cX17_rename_138 rfl hz396148.symm (Nat.le_of_ble_eq_true rfl) rfl ?_
                      refine G_goto 20 dr_cX17_rename_141 (by decide +kernel) ?_
                      refine G_lv (L' := [(5, .int z396148), (4, .ref q395149), (3, .int g395086), (0, .ref q369940), (1, .int p369941), (2, .int p369942)]) [0, 2, 3, 4, 5, 6] rfl ?_
                      exact ih20_396058 F396053 z396148 (gB_w bz396148 (by decide) (by decide)) hT396054 hs396055 x396056 x396057 x396058 (fun k e1 ht => kt20_396059 k e1 (fun R c1 c2 c3 c4 c5 c6 c7 c8 c9 c10 c11 c12 c13 c14 c15 c16 c17 c18 c19 c20 c21 c22 c23 c24 c25 c26 c27 c28 c29 c30 c31 c32 c33 c34 c35 c36 c37 c38 c39 c40 c41 c42 c43 c44 c45 c46 c47 c48 c49 c50 c51 c52 c53 c54 c55 => c2 F396053 g396052 q395159 p396070 q395160 p396104 p396109 o396123 p396110 o396134 o396144 z396148 k e1 bg396052 hT396054 hs396055 x396056 x396057 x396058 fq396066 fq396077 fq396078 r396088 fq396089 r396096 fq396097 fq396116 fq396117 bo396123 ht396125 r396127 fq396128 bo396134 ht396136 r396138 bo396144 ht396145 r396147 ez396148 (ht R c1 c2 c3 c4 c5 c6 c7 c8 c9 c10 c11 c12 c13 c14 c15 c16 c17 c18 c19 c20 c21 c22 c23 c24 c25 c26 c27 c28 c29 c30 c31 c32 c33 c34 c35 c36 c37 c38 c39 c40 c41 c42 c43 c44 c45 c46 c47 c48 c49 c50 c51 c52 c53 c54 c55))) (mz_up ez396148 (Int.le_trans bg396052'.2 (by decide)) hm20_396058)
                    · have r396149 : o396144.toInt ≠ 0 := gj_neq hc396146 (show Int32.toInt 0 = 0 by decide)
                      have bo396144' : gB o396144 1 1 := gB_t1 bo396144 r396149
                      refine G_aload 0 dr_cX17_rename_123 rfl ?_
                      have fq396150 : fI (F396053 q395160) 1 = p396105 := by rw [he396103]; rfl
                      refine Gp_get 1 hm396102 he396103 dr_cX17_rename_125 (gk_X15 D I) (Nat.le_of_ble_eq_true rfl) wr_9_182 rfl ?_
                      refine G_iload_n 5 dr_cX17_rename_128 rfl ?_
                      refine G_icmp_ne 138 dr_cX17_rename_129 (by decide +kernel) (fun hc396151 => ?_) (fun hc396151 => ?_)
                      · have r396152 : p396105.toInt ≠ p369941.toInt := gC_ne hc396151
                        obtain ⟨z396153, hz396153⟩ : ∃ z : Int32, z = g396052 + Int32.ofInt 1 := ⟨_, rfl⟩
                        have ez396153 : z396153.toInt = g396052.toInt + 1 := gI_inc hz396153 (by decide) bg396052' (by decide) (by decide)
                        have bz396153 : gB z396153 1 1000001 := ⟨by omega, by omega⟩
                        refine G_iinc (L' := [(5, .int z396153), (6, .ref q395160), (4, .ref q395149), (3, .int g395086), (0, .ref q369940), (1, .int p369941), (2, .int p369942)]) z396153 1 dr_cX17_rename_138 rfl hz396153.symm (Nat.le_of_ble_eq_true rfl) rfl ?_
                        refine G_goto 20 dr_cX17_rename_141 (by decide +kernel) ?_
                        refine G_lv (L' := [(5, .int z396153), (4, .ref q395149), (3, .int g395086), (0, .ref q369940), (1, .int p369941), (2, .int p369942)]) [0, 2, 3, 4, 5, 6] rfl ?_
                        exact ih20_396058 F396053 z396153 (gB_w bz396153 (by decide) (by decide)) hT396054 hs396055 x396056 x396057 x396058 (fun k e1 ht => kt20_396059 k e1 (fun R c1 c2 c3 c4 c5 c6 c7 c8 c9 c10 c11 c12 c13 c14 c15 c16 c17 c18 c19 c20 c21 c22 c23 c24 c25 c26 c27 c28 c29 c30 c31 c32 c33 c34 c35 c36 c37 c38 c39 c40 c41 c42 c43 c44 c45 c46 c47 c48 c49 c50 c51 c52 c53 c54 c55 => c3 F396053 g396052 q395159 p396070 q395160 p396104 p396109 o396123 p396110 o396134 o396144 p396105 z396153 k e1 bg396052 hT396054 hs396055 x396056 x396057 x396058 fq396066 fq396077 fq396078 r396088 fq396089 r396096 fq396097 fq396116 fq396117 bo396123 ht396125 r396127 fq396128 bo396134 ht396136 r396138 bo396144 ht396145 r396149 fq396150 r396152 ez396153 (ht R c1 c2 c3 c4 c5 c6 c7 c8 c9 c10 c11 c12 c13 c14 c15 c16 c17 c18 c19 c20 c21 c22 c23 c24 c25 c26 c27 c28 c29 c30 c31 c32 c33 c34 c35 c36 c37 c38 c39 c40 c41 c42 c43 c44 c45 c46 c47 c48 c49 c50 c51 c52 c53 c54 c55))) (mz_up ez396153 (Int.le_trans bg396052'.2 (by decide)) hm20_396058)
                      · have r396154 : p396105.toInt = p369941.toInt := gC_eq hc396151
                        refine G_aload 0 dr_cX17_rename_132 rfl ?_
                        refine G_iload_n 6 dr_cX17_rename_134 rfl ?_
                        refine Gp_put 1 hm396102 he396103 dr_cX17_rename_135 (gk_X15 D I) (Nat.le_of_ble_eq_true rfl) wr_9_182 rfl rfl rfl (Nat.le_of_ble_eq_true rfl) (fun F396155 e396156 n396157 => ?_)
                        have he396158 : F396155 q369940 = .inr (18, [.ref q395098, .ref q395099, .int p395100, .int p395101]) := (n396157 q369940 (rn_oo he396061 he396103 (by decide))).trans he396061
                        have he396159 : F396155 q395098 = .inr (4, [.int p395130, .ref q395132, .int p395131]) := (n396157 q395098 (rn_oo he396062 he396103 (by decide))).trans he396062
                        have he396160 : F396155 q395132 = .inl (I (.object "java/lang/Object"), n395146, .inr (.inr (.inr (.inr f395147)))) := (n396157 q395132 (rn_ao he396063 he396103)).trans he396063
                        have he396161 : F396155 q395149 = .inr (17, [.ref q395159, .ref q395160, .int p395161, .int p395162]) := (n396157 q395149 (rn_oo he396064 he396103 (by decide))).trans he396064
                        have he396162 : F396155 q395159 = .inr (4, [.int p396069, .ref q396071, .int p396070]) := (n396157 q395159 (rn_oo he396068 he396103 (by decide))).trans he396068
                        have he396163 : F396155 q395160 = .inr (20, [.int p396104, .int p369942, .int p396106, .int p396107, .int p396108, .int p396109, .int p396110]) := e396156
                        have hs396164 : rStr γ [1] F369939 F396155 := rStr_pu2 hs396055 n396157 ht395165 (by decide)
                        have fs396165 : rFs γ (γ 1 q369940) F369939 F396155 := rFs_put x396058 n396157 ((show γ 1 q395160 = γ 1 q395149 from ht395166).trans ((show γ 1 q395149 = γ 1 q395098 from ht395156).trans (show γ 1 q395098 = γ 1 q369940 from ht395103)))
                        have fk396166 : rFk [1] γ F369939 F396155 := rFk_put x396057 n396157 ht395165 (by decide)
                        have fq396167 : F396155 q395160 = cF (F396053 q395160) 1 (.int p369942) := by rw [he396163, he396103]; rfl
                        obtain ⟨z396168, hz396168⟩ : ∃ z : Int32, z = g396052 + Int32.ofInt 1 := ⟨_, rfl⟩
                        have ez396168 : z396168.toInt = g396052.toInt + 1 := gI_inc hz396168 (by decide) bg396052' (by decide) (by decide)
                        have bz396168 : gB z396168 1 1000001 := ⟨by omega, by omega⟩
                        refine G_iinc (L' := [(5, .int z396168), (6, .ref q395160), (4, .ref q395149), (3, .int g395086), (0, .ref q369940), (1, .int p369941), (2, .int p369942)]) z396168 1 dr_cX17_rename_138 rfl hz396168.symm (Nat.le_of_ble_eq_true rfl) rfl ?_
                        refine G_goto 20 dr_cX17_rename_141 (by decide +kernel) ?_
                        have hT396169 : RS D I P369938 F396155 γ el := RS_set hT396054 n396157 ht395165 (by decide) ⟨p396104, p369942, p396106, p396107, p396108, p396109, p396110, he396163, bp396104, bp369942, bp396108, bp396109, bp396110, r396111, r396112, r396113, r396114, r396115⟩
                        refine G_lv (L' := [(5, .int z396168), (4, .ref q395149), (3, .int g395086), (0, .ref q369940), (1, .int p369941), (2, .int p369942)]) [0, 2, 3, 4, 5, 6] rfl ?_
                        exact ih20_396058 F396155 z396168 (gB_w bz396168 (by decide) (by decide)) hT396169 hs396164 (fun N hv hu hp => rPl_put hT396054 htq369940 rfl (x396056 N hv hu hp) n396157 hp396098 nb396101 hL396099 (fun _ _ _ _ z => z) (rNx_ren he396103 he396163 hu hv (Or.inl rfl) (Or.inl rfl) (Or.inr ⟨rfl, by first | assumption | omega⟩) (by rw [← hp396098]; exact x396056 N hv hu hp _ nb396101 _ hL396099))) fk396166 fs396165 (fun k e1 ht => kt20_396059 k e1 (fun R c1 c2 c3 c4 c5 c6 c7 c8 c9 c10 c11 c12 c13 c14 c15 c16 c17 c18 c19 c20 c21 c22 c23 c24 c25 c26 c27 c28 c29 c30 c31 c32 c33 c34 c35 c36 c37 c38 c39 c40 c41 c42 c43 c44 c45 c46 c47 c48 c49 c50 c51 c52 c53 c54 c55 => c4 F396053 g396052 q395159 p396070 q395160 p396104 p396109 o396123 p396110 o396134 o396144 p396105 F396155 z396168 k e1 bg396052 hT396054 hs396055 x396056 x396057 x396058 fq396066 fq396077 fq396078 r396088 fq396089 r396096 fq396097 fq396116 fq396117 bo396123 ht396125 r396127 fq396128 bo396134 ht396136 r396138 bo396144 ht396145 r396149 fq396150 r396154 n396157 fq396167 ez396168 (ht R c1 c2 c3 c4 c5 c6 c7 c8 c9 c10 c11 c12 c13 c14 c15 c16 c17 c18 c19 c20 c21 c22 c23 c24 c25 c26 c27 c28 c29 c30 c31 c32 c33 c34 c35 c36 c37 c38 c39 c40 c41 c42 c43 c44 c45 c46 c47 c48 c49 c50 c51 c52 c53 c54 c55))) (mz_up ez396168 (Int.le_trans bg396052'.2 (by decide)) hm20_396058)
                  · have r396171 : o396134.toInt ≠ 0 := gj_neq hc396137 (show Int32.toInt 0 = 0 by decide)
                    have bo396134' : gB o396134 1 1 := gB_t1 bo396134 r396171
                    refine G_aload 0 dr_cX17_rename_100 rfl ?_
                    have fq396172 : fI (F396053 q395160) 3 = p396107 := by rw [he396103]; rfl
                    refine Gp_get 3 hm396102 he396103 dr_cX17_rename_102 (gk_X15 D I) (Nat.le_of_ble_eq_true rfl) wr_9_190 rfl ?_
                    refine G_iload_n 5 dr_cX17_rename_105 rfl ?_
                    refine G_icmp_ne 115 dr_cX17_rename_106 (by decide +kernel) (fun hc396173 => ?_) (fun hc396173 => ?_)
                    · have r396174 : p396107.toInt ≠ p369941.toInt := gC_ne hc396173
                      refine G_aload 0 dr_cX17_rename_115 rfl ?_
                      refine Gw_callV (As := []) (gV_ok D I) (cp_1660_Row_sets l hl0 D I P369938 F396053 q395160 p396104 p396105 p396106 p396107 p396108 p396109 p396110 hm396102 he396103 bp396104 bp396105 bp396108 bp396109 bp396110) dr_cX17_rename_117 ⟨wr_10_181, wr_1_39, wr_10_184, by decide, rfl, (Nat.le_of_ble_eq_true rfl), (Nat.le_of_ble_eq_true rfl)⟩ wr_10_182 wr_10_183 hm396102 he396103 rfl (show 0 + 0 ≤ 0 by first | omega | decide) (show 0 + 0 ≤ 0 by first | omega | decide) (Nat.le_of_ble_eq_true rfl) (fun r396178 w396179 dc396175 ds396176 hp396177 => ?_) (fun _ _ _ _ _ z => z.elim)
                      obtain ⟨o396180, rfl, rfl, hdc, hds, bo396180, ht396181⟩ := hp396177
                      change G _ _ _ _ _ _ _ (.int o396180 :: _) _ _ _
                      refine G_widen (cs' := 0) (sl' := 0) (by omega) (by omega) ?_
                      refine G_if_eq 138 dr_cX17_rename_120 (by decide +kernel) (fun hc396182 => ?_) (fun hc396182 => ?_)
                      · have r396183 : o396180.toInt = 0 := gj_eq hc396182 (show Int32.toInt 0 = 0 by decide)
                        have bo396180' : gB o396180 0 0 := gB_t0 r396183
                        obtain ⟨z396184, hz396184⟩ : ∃ z : Int32, z = g396052 + Int32.ofInt 1 := ⟨_, rfl⟩
                        have ez396184 : z396184.toInt = g396052.toInt + 1 := gI_inc hz396184 (by decide) bg396052' (by decide) (by decide)
                        have bz396184 : gB z396184 1 1000001 := ⟨by omega, by omega⟩
                        refine G_iinc (L' := [(5, .int z396184), (6, .ref q395160), (4, .ref q395149), (3, .int g395086), (0, .ref q369940), (1, .int p369941), (2, .int p369942)]) z396184 1 dr_cX17_rename_138 rfl hz396184.symm (Nat.le_of_ble_eq_true rfl) rfl ?_
                        refine G_goto 20 dr_cX17_rename_141 (by decide +kernel) ?_
                        refine G_lv (L' := [(5, .int z396184), (4, .ref q395149), (3, .int g395086), (0, .ref q369940), (1, .int p369941), (2, .int p369942)]) [0, 2, 3, 4, 5, 6] rfl ?_
                        exact ih20_396058 F396053 z396184 (gB_w bz396184 (by decide) (by decide)) hT396054 hs396055 x396056 x396057 x396058 (fun k e1 ht => kt20_396059 k e1 (fun R c1 c2 c3 c4 c5 c6 c7 c8 c9 c10 c11 c12 c13 c14 c15 c16 c17 c18 c19 c20 c21 c22 c23 c24 c25 c26 c27 c28 c29 c30 c31 c32 c33 c34 c35 c36 c37 c38 c39 c40 c41 c42 c43 c44 c45 c46 c47 c48 c49 c50 c51 c52 c53 c54 c55 => c5 F396053 g396052 q395159 p396070 q395160 p396104 p396109 o396123 p396110 o396134 p396107 o396180 z396184 k e1 bg396052 hT396054 hs396055 x396056 x396057 x396058 fq396066 fq396077 fq396078 r396088 fq396089 r396096 fq396097 fq396116 fq396117 bo396123 ht396125 r396127 fq396128 bo396134 ht396136 r396171 fq396172 r396174 bo396180 ht396181 r396183 ez396184 (ht R c1 c2 c3 c4 c5 c6 c7 c8 c9 c10 c11 c12 c13 c14 c15 c16 c17 c18 c19 c20 c21 c22 c23 c24 c25 c26 c27 c28 c29 c30 c31 c32 c33 c34 c35 c36 c37 c38 c39 c40 c41 c42 c43 c44 c45 c46 c47 c48 c49 c50 c51 c52 c53 c54 c55))) (mz_up ez396184 (Int.le_trans bg396052'.2 (by decide)) hm20_396058)
                      · have r396185 : o396180.toInt ≠ 0 := gj_neq hc396182 (show Int32.toInt 0 = 0 by decide)
                        have bo396180' : gB o396180 1 1 := gB_t1 bo396180 r396185
                        refine G_aload 0 dr_cX17_rename_123 rfl ?_
                        have fq396186 : fI (F396053 q395160) 1 = p396105 := by rw [he396103]; rfl
                        refine Gp_get 1 hm396102 he396103 dr_cX17_rename_125 (gk_X15 D I) (Nat.le_of_ble_eq_true rfl) wr_9_182 rfl ?_
                        refine G_iload_n 5 dr_cX17_rename_128 rfl ?_
                        refine G_icmp_ne 138 dr_cX17_rename_129 (by decide +kernel) (fun hc396187 => ?_) (fun hc396187 => ?_)
                        · have r396188 : p396105.toInt ≠ p369941.toInt := gC_ne hc396187
                          obtain ⟨z396189, hz396189⟩ : ∃ z : Int32, z = g396052 + Int32.ofInt 1 := ⟨_, rfl⟩
                          have ez396189 : z396189.toInt = g396052.toInt + 1 := gI_inc hz396189 (by decide) bg396052' (by decide) (by decide)
                          have bz396189 : gB z396189 1 1000001 := ⟨by omega, by omega⟩
                          refine G_iinc (L' := [(5, .int z396189), (6, .ref q395160), (4, .ref q395149), (3, .int g395086), (0, .ref q369940), (1, .int p369941), (2, .int p369942)]) z396189 1 dr_cX17_rename_138 rfl hz396189.symm (Nat.le_of_ble_eq_true rfl) rfl ?_
                          refine G_goto 20 dr_cX17_rename_141 (by decide +kernel) ?_
                          refine G_lv (L' := [(5, .int z396189), (4, .ref q395149), (3, .int g395086), (0, .ref q369940), (1, .int p369941), (2, .int p369942)]) [0, 2, 3, 4, 5, 6] rfl ?_
                          exact ih20_396058 F396053 z396189 (gB_w bz396189 (by decide) (by decide)) hT396054 hs396055 x396056 x396057 x396058 (fun k e1 ht => kt20_396059 k e1 (fun R c1 c2 c3 c4 c5 c6 c7 c8 c9 c10 c11 c12 c13 c14 c15 c16 c17 c18 c19 c20 c21 c22 c23 c24 c25 c26 c27 c28 c29 c30 c31 c32 c33 c34 c35 c36 c37 c38 c39 c40 c41 c42 c43 c44 c45 c46 c47 c48 c49 c50 c51 c52 c53 c54 c55 => c6 F396053 g396052 q395159 p396070 q395160 p396104 p396109 o396123 p396110 o396134 p396107 o396180 p396105 z396189 k e1 bg396052 hT396054 hs396055 x396056 x396057 x396058 fq396066 fq396077 fq396078 r396088 fq396089 r396096 fq396097 fq396116 fq396117 bo396123 ht396125 r396127 fq396128 bo396134 ht396136 r396171 fq396172 r396174 bo396180 ht396181 r396185 fq396186 r396188 ez396189 (ht R c1 c2 c3 c4 c5 c6 c7 c8 c9 c10 c11 c12 c13 c14 c15 c16 c17 c18 c19 c20 c21 c22 c23 c24 c25 c26 c27 c28 c29 c30 c31 c32 c33 c34 c35 c36 c37 c38 c39 c40 c41 c42 c43 c44 c45 c46 c47 c48 c49 c50 c51 c52 c53 c54 c55))) (mz_up ez396189 (Int.le_trans bg396052'.2 (by decide)) hm20_396058)
                        · have r396190 : p396105.toInt = p369941.toInt := gC_eq hc396187
                          refine G_aload 0 dr_cX17_rename_132 rfl ?_
                          refine G_iload_n 6 dr_cX17_rename_134 rfl ?_
                          refine Gp_put 1 hm396102 he396103 dr_cX17_rename_135 (gk_X15 D I) (Nat.le_of_ble_eq_true rfl) wr_9_182 rfl rfl rfl (Nat.le_of_ble_eq_true rfl) (fun F396191 e396192 n396193 => ?_)
                          have he396194 : F396191 q369940 = .inr (18, [.ref q395098, .ref q395099, .int p395100, .int p395101]) := (n396193 q369940 (rn_oo he396061 he396103 (by decide))).trans he396061
                          have he396195 : F396191 q395098 = .inr (4, [.int p395130, .ref q395132, .int p395131]) := (n396193 q395098 (rn_oo he396062 he396103 (by decide))).trans he396062
                          have he396196 : F396191 q395132 = .inl (I (.object "java/lang/Object"), n395146, .inr (.inr (.inr (.inr f395147)))) := (n396193 q395132 (rn_ao he396063 he396103)).trans he396063
                          have he396197 : F396191 q395149 = .inr (17, [.ref q395159, .ref q395160, .int p395161, .int p395162]) := (n396193 q395149 (rn_oo he396064 he396103 (by decide))).trans he396064
                          have he396198 : F396191 q395159 = .inr (4, [.int p396069, .ref q396071, .int p396070]) := (n396193 q395159 (rn_oo he396068 he396103 (by decide))).trans he396068
                          have he396199 : F396191 q395160 = .inr (20, [.int p396104, .int p369942, .int p396106, .int p396107, .int p396108, .int p396109, .int p396110]) := e396192
                          have hs396200 : rStr γ [1] F369939 F396191 := rStr_pu2 hs396055 n396193 ht395165 (by decide)
                          have fs396201 : rFs γ (γ 1 q369940) F369939 F396191 := rFs_put x396058 n396193 ((show γ 1 q395160 = γ 1 q395149 from ht395166).trans ((show γ 1 q395149 = γ 1 q395098 from ht395156).trans (show γ 1 q395098 = γ 1 q369940 from ht395103)))
                          have fk396202 : rFk [1] γ F369939 F396191 := rFk_put x396057 n396193 ht395165 (by decide)
                          have fq396203 : F396191 q395160 = cF (F396053 q395160) 1 (.int p369942) := by rw [he396199, he396103]; rfl
                          obtain ⟨z396204, hz396204⟩ : ∃ z : Int32, z = g396052 + Int32.ofInt 1 := ⟨_, rfl⟩
                          have ez396204 : z396204.toInt = g396052.toInt + 1 := gI_inc hz396204 (by decide) bg396052' (by decide) (by decide)
                          have bz396204 : gB z396204 1 1000001 := ⟨by omega, by omega⟩
                          refine G_iinc (L' := [(5, .int z396204), (6, .ref q395160), (4, .ref q395149), (3, .int g395086), (0, .ref q369940), (1, .int p369941), (2, .int p369942)]) z396204 1 dr_cX17_rename_138 rfl hz396204.symm (Nat.le_of_ble_eq_true rfl) rfl ?_
                          refine G_goto 20 dr_cX17_rename_141 (by decide +kernel) ?_
                          have hT396205 : RS D I P369938 F396191 γ el := RS_set hT396054 n396193 ht395165 (by decide) ⟨p396104, p369942, p396106, p396107, p396108, p396109, p396110, he396199, bp396104, bp369942, bp396108, bp396109, bp396110, r396111, r396112, r396113, r396114, r396115⟩
                          refine G_lv (L' := [(5, .int z396204), (4, .ref q395149), (3, .int g395086), (0, .ref q369940), (1, .int p369941), (2, .int p369942)]) [0, 2, 3, 4, 5, 6] rfl ?_
                          exact ih20_396058 F396191 z396204 (gB_w bz396204 (by decide) (by decide)) hT396205 hs396200 (fun N hv hu hp => rPl_put hT396054 htq369940 rfl (x396056 N hv hu hp) n396193 hp396098 nb396101 hL396099 (fun _ _ _ _ z => z) (rNx_ren he396103 he396199 hu hv (Or.inl rfl) (Or.inl rfl) (Or.inr ⟨rfl, by first | assumption | omega⟩) (by rw [← hp396098]; exact x396056 N hv hu hp _ nb396101 _ hL396099))) fk396202 fs396201 (fun k e1 ht => kt20_396059 k e1 (fun R c1 c2 c3 c4 c5 c6 c7 c8 c9 c10 c11 c12 c13 c14 c15 c16 c17 c18 c19 c20 c21 c22 c23 c24 c25 c26 c27 c28 c29 c30 c31 c32 c33 c34 c35 c36 c37 c38 c39 c40 c41 c42 c43 c44 c45 c46 c47 c48 c49 c50 c51 c52 c53 c54 c55 => c7 F396053 g396052 q395159 p396070 q395160 p396104 p396109 o396123 p396110 o396134 p396107 o396180 p396105 F396191 z396204 k e1 bg396052 hT396054 hs396055 x396056 x396057 x396058 fq396066 fq396077 fq396078 r396088 fq396089 r396096 fq396097 fq396116 fq396117 bo396123 ht396125 r396127 fq396128 bo396134 ht396136 r396171 fq396172 r396174 bo396180 ht396181 r396185 fq396186 r396190 n396193 fq396203 ez396204 (ht R c1 c2 c3 c4 c5 c6 c7 c8 c9 c10 c11 c12 c13 c14 c15 c16 c17 c18 c19 c20 c21 c22 c23 c24 c25 c26 c27 c28 c29 c30 c31 c32 c33 c34 c35 c36 c37 c38 c39 c40 c41 c42 c43 c44 c45 c46 c47 c48 c49 c50 c51 c52 c53 c54 c55))) (mz_up ez396204 (Int.le_trans bg396052'.2 (by decide)) hm20_396058)
                    · have r396207 : p396107.toInt = p369941.toInt := gC_eq hc396173
                      have bp396107' : gB p396107 0 1999 := ⟨by omega, by omega⟩
                      refine G_aload 0 dr_cX17_rename_109 rfl ?_
                      refine G_iload_n 6 dr_cX17_rename_111 rfl ?_
                      refine Gp_put 3 hm396102 he396103 dr_cX17_rename_112 (gk_X15 D I) (Nat.le_of_ble_eq_true rfl) wr_9_190 rfl rfl rfl (Nat.le_of_ble_eq_true rfl) (fun F396208 e396209 n396210 => ?_)
                      have he396211 : F396208 q369940 = .inr (18, [.ref q395098, .ref q395099, .int p395100, .int p395101]) := (n396210 q369940 (rn_oo he396061 he396103 (by decide))).trans he396061
                      have he396212 : F396208 q395098 = .inr (4, [.int p395130, .ref q395132, .int p395131]) := (n396210 q395098 (rn_oo he396062 he396103 (by decide))).trans he396062
                      have he396213 : F396208 q395132 = .inl (I (.object "java/lang/Object"), n395146, .inr (.inr (.inr (.inr f395147)))) := (n396210 q395132 (rn_ao he396063 he396103)).trans he396063
                      have he396214 : F396208 q395149 = .inr (17, [.ref q395159, .ref q395160, .int p395161, .int p395162]) := (n396210 q395149 (rn_oo he396064 he396103 (by decide))).trans he396064
                      have he396215 : F396208 q395159 = .inr (4, [.int p396069, .ref q396071, .int p396070]) := (n396210 q395159 (rn_oo he396068 he396103 (by decide))).trans he396068
                      have he396216 : F396208 q395160 = .inr (20, [.int p396104, .int p396105, .int p396106, .int p369942, .int p396108, .int p396109, .int p396110]) := e396209
                      have hs396217 : rStr γ [1] F369939 F396208 := rStr_pu2 hs396055 n396210 ht395165 (by decide)
                      have fs396218 : rFs γ (γ 1 q369940) F369939 F396208 := rFs_put x396058 n396210 ((show γ 1 q395160 = γ 1 q395149 from ht395166).trans ((show γ 1 q395149 = γ 1 q395098 from ht395156).trans (show γ 1 q395098 = γ 1 q369940 from ht395103)))
                      have fk396219 : rFk [1] γ F369939 F396208 := rFk_put x396057 n396210 ht395165 (by decide)
                      have fq396220 : F396208 q395160 = cF (F396053 q395160) 3 (.int p369942) := by rw [he396216, he396103]; rfl
                      refine G_aload 0 dr_cX17_rename_115 rfl ?_
                      have hT396221 : RS D I P369938 F396208 γ el := RS_set hT396054 n396210 ht395165 (by decide) ⟨p396104, p396105, p396106, p369942, p396108, p396109, p396110, he396216, bp396104, bp396105, bp396108, bp396109, bp396110, r396111, r396112, (Or.inr bp369942), r396114, r396115⟩
                      have fq396223 : fI (F396208 q395160) 0 = p396104 := by rw [he396216]; rfl
                      refine Gw_callV (As := []) (gV_ok D I) (cp_1660_Row_sets l hl0 D I P369938 F396208 q395160 p396104 p396105 p396106 p369942 p396108 p396109 p396110 hm396102 he396216 bp396104 bp396105 bp396108 bp396109 bp396110) dr_cX17_rename_117 ⟨wr_10_181, wr_1_39, wr_10_184, by decide, rfl, (Nat.le_of_ble_eq_true rfl), (Nat.le_of_ble_eq_true rfl)⟩ wr_10_182 wr_10_183 hm396102 he396216 rfl (show 0 + 0 ≤ 0 by first | omega | decide) (show 0 + 0 ≤ 0 by first | omega | decide) (Nat.le_of_ble_eq_true rfl) (fun r396227 w396228 dc396224 ds396225 hp396226 => ?_) (fun _ _ _ _ _ z => z.elim)
                      obtain ⟨o396229, rfl, rfl, hdc, hds, bo396229, ht396230⟩ := hp396226
                      change G _ _ _ _ _ _ _ (.int o396229 :: _) _ _ _
                      refine G_widen (cs' := 0) (sl' := 0) (by omega) (by omega) ?_
                      refine G_if_eq 138 dr_cX17_rename_120 (by decide +kernel) (fun hc396231 => ?_) (fun hc396231 => ?_)
                      · have r396232 : o396229.toInt = 0 := gj_eq hc396231 (show Int32.toInt 0 = 0 by decide)
                        have bo396229' : gB o396229 0 0 := gB_t0 r396232
                        obtain ⟨z396233, hz396233⟩ : ∃ z : Int32, z = g396052 + Int32.ofInt 1 := ⟨_, rfl⟩
                        have ez396233 : z396233.toInt = g396052.toInt + 1 := gI_inc hz396233 (by decide) bg396052' (by decide) (by decide)
                        have bz396233 : gB z396233 1 1000001 := ⟨by omega, by omega⟩
                        refine G_iinc (L' := [(5, .int z396233), (6, .ref q395160), (4, .ref q395149), (3, .int g395086), (0, .ref q369940), (1, .int p369941), (2, .int p369942)]) z396233 1 dr_cX17_rename_138 rfl hz396233.symm (Nat.le_of_ble_eq_true rfl) rfl ?_
                        refine G_goto 20 dr_cX17_rename_141 (by decide +kernel) ?_
                        refine G_lv (L' := [(5, .int z396233), (4, .ref q395149), (3, .int g395086), (0, .ref q369940), (1, .int p369941), (2, .int p369942)]) [0, 2, 3, 4, 5, 6] rfl ?_
                        exact ih20_396058 F396208 z396233 (gB_w bz396233 (by decide) (by decide)) hT396221 hs396217 (fun N hv hu hp => rPl_put hT396054 htq369940 rfl (x396056 N hv hu hp) n396210 hp396098 nb396101 hL396099 (fun _ _ _ _ z => z) (rNx_ren he396103 he396216 hu hv (Or.inl rfl) (Or.inr rfl) (Or.inl rfl) (by rw [← hp396098]; exact x396056 N hv hu hp _ nb396101 _ hL396099))) fk396219 fs396218 (fun k e1 ht => kt20_396059 k e1 (fun R c1 c2 c3 c4 c5 c6 c7 c8 c9 c10 c11 c12 c13 c14 c15 c16 c17 c18 c19 c20 c21 c22 c23 c24 c25 c26 c27 c28 c29 c30 c31 c32 c33 c34 c35 c36 c37 c38 c39 c40 c41 c42 c43 c44 c45 c46 c47 c48 c49 c50 c51 c52 c53 c54 c55 => c8 F396053 g396052 q395159 p396070 q395160 p396104 p396109 o396123 p396110 o396134 p396107 F396208 o396229 z396233 k e1 bg396052 hT396054 hs396055 x396056 x396057 x396058 fq396066 fq396077 fq396078 r396088 fq396089 r396096 fq396097 fq396116 fq396117 bo396123 ht396125 r396127 fq396128 bo396134 ht396136 r396171 fq396172 r396207 n396210 fq396220 fq396223 bo396229 ht396230 r396232 ez396233 (ht R c1 c2 c3 c4 c5 c6 c7 c8 c9 c10 c11 c12 c13 c14 c15 c16 c17 c18 c19 c20 c21 c22 c23 c24 c25 c26 c27 c28 c29 c30 c31 c32 c33 c34 c35 c36 c37 c38 c39 c40 c41 c42 c43 c44 c45 c46 c47 c48 c49 c50 c51 c52 c53 c54 c55))) (mz_up ez396233 (Int.le_trans bg396052'.2 (by decide)) hm20_396058)
                      · have r396234 : o396229.toInt ≠ 0 := gj_neq hc396231 (show Int32.toInt 0 = 0 by decide)
                        have bo396229' : gB o396229 1 1 := gB_t1 bo396229 r396234
                        refine G_aload 0 dr_cX17_rename_123 rfl ?_
                        have fq396235 : fI (F396208 q395160) 1 = p396105 := by rw [he396216]; rfl
                        refine Gp_get 1 hm396102 he396216 dr_cX17_rename_125 (gk_X15 D I) (Nat.le_of_ble_eq_true rfl) wr_9_182 rfl ?_
                        refine G_iload_n 5 dr_cX17_rename_128 rfl ?_
                        refine G_icmp_ne 138 dr_cX17_rename_129 (by decide +kernel) (fun hc396236 => ?_) (fun hc396236 => ?_)
                        · have r396237 : p396105.toInt ≠ p369941.toInt := gC_ne hc396236
                          obtain ⟨z396238, hz396238⟩ : ∃ z : Int32, z = g396052 + Int32.ofInt 1 := ⟨_, rfl⟩
                          have ez396238 : z396238.toInt = g396052.toInt + 1 := gI_inc hz396238 (by decide) bg396052' (by decide) (by decide)
                          have bz396238 : gB z396238 1 1000001 := ⟨by omega, by omega⟩
                          refine G_iinc (L' := [(5, .int z396238), (6, .ref q395160), (4, .ref q395149), (3, .int g395086), (0, .ref q369940), (1, .int p369941), (2, .int p369942)]) z396238 1 dr_cX17_rename_138 rfl hz396238.symm (Nat.le_of_ble_eq_true rfl) rfl ?_
                          refine G_goto 20 dr_cX17_rename_141 (by decide +kernel) ?_
                          refine G_lv (L' := [(5, .int z396238), (4, .ref q395149), (3, .int g395086), (0, .ref q369940), (1, .int p369941), (2, .int p369942)]) [0, 2, 3, 4, 5, 6] rfl ?_
                          exact ih20_396058 F396208 z396238 (gB_w bz396238 (by decide) (by decide)) hT396221 hs396217 (fun N hv hu hp => rPl_put hT396054 htq369940 rfl (x396056 N hv hu hp) n396210 hp396098 nb396101 hL396099 (fun _ _ _ _ z => z) (rNx_ren he396103 he396216 hu hv (Or.inl rfl) (Or.inr rfl) (Or.inl rfl) (by rw [← hp396098]; exact x396056 N hv hu hp _ nb396101 _ hL396099))) fk396219 fs396218 (fun k e1 ht => kt20_396059 k e1 (fun R c1 c2 c3 c4 c5 c6 c7 c8 c9 c10 c11 c12 c13 c14 c15 c16 c17 c18 c19 c20 c21 c22 c23 c24 c25 c26 c27 c28 c29 c30 c31 c32 c33 c34 c35 c36 c37 c38 c39 c40 c41 c42 c43 c44 c45 c46 c47 c48 c49 c50 c51 c52 c53 c54 c55 => c9 F396053 g396052 q395159 p396070 q395160 p396104 p396109 o396123 p396110 o396134 p396107 F396208 o396229 p396105 z396238 k e1 bg396052 hT396054 hs396055 x396056 x396057 x396058 fq396066 fq396077 fq396078 r396088 fq396089 r396096 fq396097 fq396116 fq396117 bo396123 ht396125 r396127 fq396128 bo396134 ht396136 r396171 fq396172 r396207 n396210 fq396220 fq396223 bo396229 ht396230 r396234 fq396235 r396237 ez396238 (ht R c1 c2 c3 c4 c5 c6 c7 c8 c9 c10 c11 c12 c13 c14 c15 c16 c17 c18 c19 c20 c21 c22 c23 c24 c25 c26 c27 c28 c29 c30 c31 c32 c33 c34 c35 c36 c37 c38 c39 c40 c41 c42 c43 c44 c45 c46 c47 c48 c49 c50 c51 c52 c53 c54 c55))) (mz_up ez396238 (Int.le_trans bg396052'.2 (by decide)) hm20_396058)
                        · have r396239 : p396105.toInt = p369941.toInt := gC_eq hc396236
                          refine G_aload 0 dr_cX17_rename_132 rfl ?_
                          refine G_iload_n 6 dr_cX17_rename_134 rfl ?_
                          refine Gp_put 1 hm396102 he396216 dr_cX17_rename_135 (gk_X15 D I) (Nat.le_of_ble_eq_true rfl) wr_9_182 rfl rfl rfl (Nat.le_of_ble_eq_true rfl) (fun F396240 e396241 n396242 => ?_)
                          have he396243 : F396240 q369940 = .inr (18, [.ref q395098, .ref q395099, .int p395100, .int p395101]) := (n396242 q369940 (rn_oo he396211 he396216 (by decide))).trans he396211
                          have he396244 : F396240 q395098 = .inr (4, [.int p395130, .ref q395132, .int p395131]) := (n396242 q395098 (rn_oo he396212 he396216 (by decide))).trans he396212
                          have he396245 : F396240 q395132 = .inl (I (.object "java/lang/Object"), n395146, .inr (.inr (.inr (.inr f395147)))) := (n396242 q395132 (rn_ao he396213 he396216)).trans he396213
                          have he396246 : F396240 q395149 = .inr (17, [.ref q395159, .ref q395160, .int p395161, .int p395162]) := (n396242 q395149 (rn_oo he396214 he396216 (by decide))).trans he396214
                          have he396247 : F396240 q395159 = .inr (4, [.int p396069, .ref q396071, .int p396070]) := (n396242 q395159 (rn_oo he396215 he396216 (by decide))).trans he396215
                          have he396248 : F396240 q395160 = .inr (20, [.int p396104, .int p369942, .int p396106, .int p369942, .int p396108, .int p396109, .int p396110]) := e396241
                          have hs396249 : rStr γ [1] F369939 F396240 := rStr_pu2 hs396217 n396242 ht395165 (by decide)
                          have fs396250 : rFs γ (γ 1 q369940) F369939 F396240 := rFs_put fs396218 n396242 ((show γ 1 q395160 = γ 1 q395149 from ht395166).trans ((show γ 1 q395149 = γ 1 q395098 from ht395156).trans (show γ 1 q395098 = γ 1 q369940 from ht395103)))
                          have fk396251 : rFk [1] γ F369939 F396240 := rFk_put fk396219 n396242 ht395165 (by decide)
                          have fq396252 : F396240 q395160 = cF (F396208 q395160) 1 (.int p369942) := by rw [he396248, he396216]; rfl
                          obtain ⟨z396253, hz396253⟩ : ∃ z : Int32, z = g396052 + Int32.ofInt 1 := ⟨_, rfl⟩
                          have ez396253 : z396253.toInt = g396052.toInt + 1 := gI_inc hz396253 (by decide) bg396052' (by decide) (by decide)
                          have bz396253 : gB z396253 1 1000001 := ⟨by omega, by omega⟩
                          refine G_iinc (L' := [(5, .int z396253), (6, .ref q395160), (4, .ref q395149), (3, .int g395086), (0, .ref q369940), (1, .int p369941), (2, .int p369942)]) z396253 1 dr_cX17_rename_138 rfl hz396253.symm (Nat.le_of_ble_eq_true rfl) rfl ?_
                          refine G_goto 20 dr_cX17_rename_141 (by decide +kernel) ?_
                          have hT396254 : RS D I P369938 F396240 γ el := RS_set hT396221 n396242 ht395165 (by decide) ⟨p396104, p369942, p396106, p369942, p396108, p396109, p396110, he396248, bp396104, bp369942, bp396108, bp396109, bp396110, r396111, r396112, (Or.inr bp369942), r396114, r396115⟩
                          have of396255 : ∀ b, b ≠ q395160 → F396240 b = F396053 b := fun b hb => (n396242 b hb).trans (n396210 b hb)
                          refine G_lv (L' := [(5, .int z396253), (4, .ref q395149), (3, .int g395086), (0, .ref q369940), (1, .int p369941), (2, .int p369942)]) [0, 2, 3, 4, 5, 6] rfl ?_
                          exact ih20_396058 F396240 z396253 (gB_w bz396253 (by decide) (by decide)) hT396254 hs396249 (fun N hv hu hp => rPl_put hT396054 htq369940 rfl (x396056 N hv hu hp) of396255 hp396098 nb396101 hL396099 (fun _ _ _ _ z => z) (rNx_ren he396103 he396248 hu hv (Or.inl rfl) (Or.inr rfl) (Or.inr ⟨rfl, by first | assumption | omega⟩) (by rw [← hp396098]; exact x396056 N hv hu hp _ nb396101 _ hL396099))) fk396251 fs396250 (fun k e1 ht => kt20_396059 k e1 (fun R c1 c2 c3 c4 c5 c6 c7 c8 c9 c10 c11 c12 c13 c14 c15 c16 c17 c18 c19 c20 c21 c22 c23 c24 c25 c26 c27 c28 c29 c30 c31 c32 c33 c34 c35 c36 c37 c38 c39 c40 c41 c42 c43 c44 c45 c46 c47 c48 c49 c50 c51 c52 c53 c54 c55 => c10 F396053 g396052 q395159 p396070 q395160 p396104 p396109 o396123 p396110 o396134 p396107 F396208 o396229 p396105 F396240 z396253 k e1 bg396052 hT396054 hs396055 x396056 x396057 x396058 fq396066 fq396077 fq396078 r396088 fq396089 r396096 fq396097 fq396116 fq396117 bo396123 ht396125 r396127 fq396128 bo396134 ht396136 r396171 fq396172 r396207 n396210 fq396220 fq396223 bo396229 ht396230 r396234 fq396235 r396239 n396242 fq396252 ez396253 (ht R c1 c2 c3 c4 c5 c6 c7 c8 c9 c10 c11 c12 c13 c14 c15 c16 c17 c18 c19 c20 c21 c22 c23 c24 c25 c26 c27 c28 c29 c30 c31 c32 c33 c34 c35 c36 c37 c38 c39 c40 c41 c42 c43 c44 c45 c46 c47 c48 c49 c50 c51 c52 c53 c54 c55))) (mz_up ez396253 (Int.le_trans bg396052'.2 (by decide)) hm20_396058)
                · have r396256 : o396123.toInt ≠ 0 := gj_neq hc396126 (show Int32.toInt 0 = 0 by decide)
                  have bo396123' : gB o396123 1 1 := gB_t1 bo396123 r396256
                  refine G_aload 0 dr_cX17_rename_77 rfl ?_
                  have fq396257 : fI (F396053 q395160) 2 = p396106 := by rw [he396103]; rfl
                  refine Gp_get 2 hm396102 he396103 dr_cX17_rename_79 (gk_X15 D I) (Nat.le_of_ble_eq_true rfl) wr_9_186 rfl ?_
                  refine G_iload_n 5 dr_cX17_rename_82 rfl ?_
                  refine G_icmp_ne 92 dr_cX17_rename_83 (by decide +kernel) (fun hc396258 => ?_) (fun hc396258 => ?_)
                  · have r396259 : p396106.toInt ≠ p369941.toInt := gC_ne hc396258
                    refine G_aload 0 dr_cX17_rename_92 rfl ?_
                    have fq396260 : fI (F396053 q395160) 6 = p396110 := by rw [he396103]; rfl
                    refine Gw_callV (As := []) (gV_ok D I) (cp_1699_Row_usesB l hl0 D I P369938 F396053 q395160 p396104 p396105 p396106 p396107 p396108 p396109 p396110 hm396102 he396103 bp396104 bp396105 bp396108 bp396109 bp396110) dr_cX17_rename_94 ⟨wr_10_196, wr_1_39, wr_10_199, by decide, rfl, (Nat.le_of_ble_eq_true rfl), (Nat.le_of_ble_eq_true rfl)⟩ wr_10_197 wr_10_198 hm396102 he396103 rfl (show 0 + 0 ≤ 0 by first | omega | decide) (show 0 + 0 ≤ 0 by first | omega | decide) (Nat.le_of_ble_eq_true rfl) (fun r396264 w396265 dc396261 ds396262 hp396263 => ?_) (fun _ _ _ _ _ z => z.elim)
                    obtain ⟨o396266, rfl, rfl, hdc, hds, bo396266, x396267, ht396268⟩ := hp396263
                    change G _ _ _ _ _ _ _ (.int o396266 :: _) _ _ _
                    refine G_widen (cs' := 0) (sl' := 0) (by omega) (by omega) ?_
                    refine G_if_eq 115 dr_cX17_rename_97 (by decide +kernel) (fun hc396269 => ?_) (fun hc396269 => ?_)
                    · have r396270 : o396266.toInt = 0 := gj_eq hc396269 (show Int32.toInt 0 = 0 by decide)
                      have bo396266' : gB o396266 0 0 := gB_t0 r396270
                      refine G_aload 0 dr_cX17_rename_115 rfl ?_
                      refine Gw_callV (As := []) (gV_ok D I) (cp_1660_Row_sets l hl0 D I P369938 F396053 q395160 p396104 p396105 p396106 p396107 p396108 p396109 p396110 hm396102 he396103 bp396104 bp396105 bp396108 bp396109 bp396110) dr_cX17_rename_117 ⟨wr_10_181, wr_1_39, wr_10_184, by decide, rfl, (Nat.le_of_ble_eq_true rfl), (Nat.le_of_ble_eq_true rfl)⟩ wr_10_182 wr_10_183 hm396102 he396103 rfl (show 0 + 0 ≤ 0 by first | omega | decide) (show 0 + 0 ≤ 0 by first | omega | decide) (Nat.le_of_ble_eq_true rfl) (fun r396274 w396275 dc396271 ds396272 hp396273 => ?_) (fun _ _ _ _ _ z => z.elim)
                      obtain ⟨o396276, rfl, rfl, hdc, hds, bo396276, ht396277⟩ := hp396273
                      change G _ _ _ _ _ _ _ (.int o396276 :: _) _ _ _
                      refine G_widen (cs' := 0) (sl' := 0) (by omega) (by omega) ?_
                      refine G_if_eq 138 dr_cX17_rename_120 (by decide +kernel) (fun hc396278 => ?_) (fun hc396278 => ?_)
                      · have r396279 : o396276.toInt = 0 := gj_eq hc396278 (show Int32.toInt 0 = 0 by decide)
                        have bo396276' : gB o396276 0 0 := gB_t0 r396279
                        obtain ⟨z396280, hz396280⟩ : ∃ z : Int32, z = g396052 + Int32.ofInt 1 := ⟨_, rfl⟩
                        have ez396280 : z396280.toInt = g396052.toInt + 1 := gI_inc hz396280 (by decide) bg396052' (by decide) (by decide)
                        have bz396280 : gB z396280 1 1000001 := ⟨by omega, by omega⟩
                        refine G_iinc (L' := [(5, .int z396280), (6, .ref q395160), (4, .ref q395149), (3, .int g395086), (0, .ref q369940), (1, .int p369941), (2, .int p369942)]) z396280 1 dr_cX17_rename_138 rfl hz396280.symm (Nat.le_of_ble_eq_true rfl) rfl ?_
                        refine G_goto 20 dr_cX17_rename_141 (by decide +kernel) ?_
                        refine G_lv (L' := [(5, .int z396280), (4, .ref q395149), (3, .int g395086), (0, .ref q369940), (1, .int p369941), (2, .int p369942)]) [0, 2, 3, 4, 5, 6] rfl ?_
                        exact ih20_396058 F396053 z396280 (gB_w bz396280 (by decide) (by decide)) hT396054 hs396055 x396056 x396057 x396058 (fun k e1 ht => kt20_396059 k e1 (fun R c1 c2 c3 c4 c5 c6 c7 c8 c9 c10 c11 c12 c13 c14 c15 c16 c17 c18 c19 c20 c21 c22 c23 c24 c25 c26 c27 c28 c29 c30 c31 c32 c33 c34 c35 c36 c37 c38 c39 c40 c41 c42 c43 c44 c45 c46 c47 c48 c49 c50 c51 c52 c53 c54 c55 => c11 F396053 g396052 q395159 p396070 q395160 p396104 p396109 o396123 p396106 p396110 o396266 o396276 z396280 k e1 bg396052 hT396054 hs396055 x396056 x396057 x396058 fq396066 fq396077 fq396078 r396088 fq396089 r396096 fq396097 fq396116 fq396117 bo396123 ht396125 r396256 fq396257 r396259 fq396260 bo396266 ht396268 r396270 bo396276 ht396277 r396279 ez396280 (ht R c1 c2 c3 c4 c5 c6 c7 c8 c9 c10 c11 c12 c13 c14 c15 c16 c17 c18 c19 c20 c21 c22 c23 c24 c25 c26 c27 c28 c29 c30 c31 c32 c33 c34 c35 c36 c37 c38 c39 c40 c41 c42 c43 c44 c45 c46 c47 c48 c49 c50 c51 c52 c53 c54 c55))) (mz_up ez396280 (Int.le_trans bg396052'.2 (by decide)) hm20_396058)
                      · have r396281 : o396276.toInt ≠ 0 := gj_neq hc396278 (show Int32.toInt 0 = 0 by decide)
                        have bo396276' : gB o396276 1 1 := gB_t1 bo396276 r396281
                        refine G_aload 0 dr_cX17_rename_123 rfl ?_
                        have fq396282 : fI (F396053 q395160) 1 = p396105 := by rw [he396103]; rfl
                        refine Gp_get 1 hm396102 he396103 dr_cX17_rename_125 (gk_X15 D I) (Nat.le_of_ble_eq_true rfl) wr_9_182 rfl ?_
                        refine G_iload_n 5 dr_cX17_rename_128 rfl ?_
                        refine G_icmp_ne 138 dr_cX17_rename_129 (by decide +kernel) (fun hc396283 => ?_) (fun hc396283 => ?_)
                        · have r396284 : p396105.toInt ≠ p369941.toInt := gC_ne hc396283
                          obtain ⟨z396285, hz396285⟩ : ∃ z : Int32, z = g396052 + Int32.ofInt 1 := ⟨_, rfl⟩
                          have ez396285 : z396285.toInt = g396052.toInt + 1 := gI_inc hz396285 (by decide) bg396052' (by decide) (by decide)
                          have bz396285 : gB z396285 1 1000001 := ⟨by omega, by omega⟩
                          refine G_iinc (L' := [(5, .int z396285), (6, .ref q395160), (4, .ref q395149), (3, .int g395086), (0, .ref q369940), (1, .int p369941), (2, .int p369942)]) z396285 1 dr_cX17_rename_138 rfl hz396285.symm (Nat.le_of_ble_eq_true rfl) rfl ?_
                          refine G_goto 20 dr_cX17_rename_141 (by decide +kernel) ?_
                          refine G_lv (L' := [(5, .int z396285), (4, .ref q395149), (3, .int g395086), (0, .ref q369940), (1, .int p369941), (2, .int p369942)]) [0, 2, 3, 4, 5, 6] rfl ?_
                          exact ih20_396058 F396053 z396285 (gB_w bz396285 (by decide) (by decide)) hT396054 hs396055 x396056 x396057 x396058 (fun k e1 ht => kt20_396059 k e1 (fun R c1 c2 c3 c4 c5 c6 c7 c8 c9 c10 c11 c12 c13 c14 c15 c16 c17 c18 c19 c20 c21 c22 c23 c24 c25 c26 c27 c28 c29 c30 c31 c32 c33 c34 c35 c36 c37 c38 c39 c40 c41 c42 c43 c44 c45 c46 c47 c48 c49 c50 c51 c52 c53 c54 c55 => c12 F396053 g396052 q395159 p396070 q395160 p396104 p396109 o396123 p396106 p396110 o396266 o396276 p396105 z396285 k e1 bg396052 hT396054 hs396055 x396056 x396057 x396058 fq396066 fq396077 fq396078 r396088 fq396089 r396096 fq396097 fq396116 fq396117 bo396123 ht396125 r396256 fq396257 r396259 fq396260 bo396266 ht396268 r396270 bo396276 ht396277 r396281 fq396282 r396284 ez396285 (ht R c1 c2 c3 c4 c5 c6 c7 c8 c9 c10 c11 c12 c13 c14 c15 c16 c17 c18 c19 c20 c21 c22 c23 c24 c25 c26 c27 c28 c29 c30 c31 c32 c33 c34 c35 c36 c37 c38 c39 c40 c41 c42 c43 c44 c45 c46 c47 c48 c49 c50 c51 c52 c53 c54 c55))) (mz_up ez396285 (Int.le_trans bg396052'.2 (by decide)) hm20_396058)
                        · have r396286 : p396105.toInt = p369941.toInt := gC_eq hc396283
                          refine G_aload 0 dr_cX17_rename_132 rfl ?_
                          refine G_iload_n 6 dr_cX17_rename_134 rfl ?_
                          refine Gp_put 1 hm396102 he396103 dr_cX17_rename_135 (gk_X15 D I) (Nat.le_of_ble_eq_true rfl) wr_9_182 rfl rfl rfl (Nat.le_of_ble_eq_true rfl) (fun F396287 e396288 n396289 => ?_)
                          have he396290 : F396287 q369940 = .inr (18, [.ref q395098, .ref q395099, .int p395100, .int p395101]) := (n396289 q369940 (rn_oo he396061 he396103 (by decide))).trans he396061
                          have he396291 : F396287 q395098 = .inr (4, [.int p395130, .ref q395132, .int p395131]) := (n396289 q395098 (rn_oo he396062 he396103 (by decide))).trans he396062
                          have he396292 : F396287 q395132 = .inl (I (.object "java/lang/Object"), n395146, .inr (.inr (.inr (.inr f395147)))) := (n396289 q395132 (rn_ao he396063 he396103)).trans he396063
                          have he396293 : F396287 q395149 = .inr (17, [.ref q395159, .ref q395160, .int p395161, .int p395162]) := (n396289 q395149 (rn_oo he396064 he396103 (by decide))).trans he396064
                          have he396294 : F396287 q395159 = .inr (4, [.int p396069, .ref q396071, .int p396070]) := (n396289 q395159 (rn_oo he396068 he396103 (by decide))).trans he396068
                          have he396295 : F396287 q395160 = .inr (20, [.int p396104, .int p369942, .int p396106, .int p396107, .int p396108, .int p396109, .int p396110]) := e396288
                          have hs396296 : rStr γ [1] F369939 F396287 := rStr_pu2 hs396055 n396289 ht395165 (by decide)
                          have fs396297 : rFs γ (γ 1 q369940) F369939 F396287 := rFs_put x396058 n396289 ((show γ 1 q395160 = γ 1 q395149 from ht395166).trans ((show γ 1 q395149 = γ 1 q395098 from ht395156).trans (show γ 1 q395098 = γ 1 q369940 from ht395103)))
                          have fk396298 : rFk [1] γ F369939 F396287 := rFk_put x396057 n396289 ht395165 (by decide)
                          have fq396299 : F396287 q395160 = cF (F396053 q395160) 1 (.int p369942) := by rw [he396295, he396103]; rfl
                          obtain ⟨z396300, hz396300⟩ : ∃ z : Int32, z = g396052 + Int32.ofInt 1 := ⟨_, rfl⟩
                          have ez396300 : z396300.toInt = g396052.toInt + 1 := gI_inc hz396300 (by decide) bg396052' (by decide) (by decide)
                          have bz396300 : gB z396300 1 1000001 := ⟨by omega, by omega⟩
                          refine G_iinc (L' := [(5, .int z396300), (6, .ref q395160), (4, .ref q395149), (3, .int g395086), (0, .ref q369940), (1, .int p369941), (2, .int p369942)]) z396300 1 dr_cX17_rename_138 rfl hz396300.symm (Nat.le_of_ble_eq_true rfl) rfl ?_
                          refine G_goto 20 dr_cX17_rename_141 (by decide +kernel) ?_
                          have hT396301 : RS D I P369938 F396287 γ el := RS_set hT396054 n396289 ht395165 (by decide) ⟨p396104, p369942, p396106, p396107, p396108, p396109, p396110, he396295, bp396104, bp369942, bp396108, bp396109, bp396110, r396111, r396112, r396113, r396114, r396115⟩
                          refine G_lv (L' := [(5, .int z396300), (4, .ref q395149), (3, .int g395086), (0, .ref q369940), (1, .int p369941), (2, .int p369942)]) [0, 2, 3, 4, 5, 6] rfl ?_
                          exact ih20_396058 F396287 z396300 (gB_w bz396300 (by decide) (by decide)) hT396301 hs396296 (fun N hv hu hp => rPl_put hT396054 htq369940 rfl (x396056 N hv hu hp) n396289 hp396098 nb396101 hL396099 (fun _ _ _ _ z => z) (rNx_ren he396103 he396295 hu hv (Or.inl rfl) (Or.inl rfl) (Or.inr ⟨rfl, by first | assumption | omega⟩) (by rw [← hp396098]; exact x396056 N hv hu hp _ nb396101 _ hL396099))) fk396298 fs396297 (fun k e1 ht => kt20_396059 k e1 (fun R c1 c2 c3 c4 c5 c6 c7 c8 c9 c10 c11 c12 c13 c14 c15 c16 c17 c18 c19 c20 c21 c22 c23 c24 c25 c26 c27 c28 c29 c30 c31 c32 c33 c34 c35 c36 c37 c38 c39 c40 c41 c42 c43 c44 c45 c46 c47 c48 c49 c50 c51 c52 c53 c54 c55 => c13 F396053 g396052 q395159 p396070 q395160 p396104 p396109 o396123 p396106 p396110 o396266 o396276 p396105 F396287 z396300 k e1 bg396052 hT396054 hs396055 x396056 x396057 x396058 fq396066 fq396077 fq396078 r396088 fq396089 r396096 fq396097 fq396116 fq396117 bo396123 ht396125 r396256 fq396257 r396259 fq396260 bo396266 ht396268 r396270 bo396276 ht396277 r396281 fq396282 r396286 n396289 fq396299 ez396300 (ht R c1 c2 c3 c4 c5 c6 c7 c8 c9 c10 c11 c12 c13 c14 c15 c16 c17 c18 c19 c20 c21 c22 c23 c24 c25 c26 c27 c28 c29 c30 c31 c32 c33 c34 c35 c36 c37 c38 c39 c40 c41 c42 c43 c44 c45 c46 c47 c48 c49 c50 c51 c52 c53 c54 c55))) (mz_up ez396300 (Int.le_trans bg396052'.2 (by decide)) hm20_396058)
                    · have r396303 : o396266.toInt ≠ 0 := gj_neq hc396269 (show Int32.toInt 0 = 0 by decide)
                      have bo396266' : gB o396266 1 1 := gB_t1 bo396266 r396303
                      refine G_aload 0 dr_cX17_rename_100 rfl ?_
                      have fq396304 : fI (F396053 q395160) 3 = p396107 := by rw [he396103]; rfl
                      refine Gp_get 3 hm396102 he396103 dr_cX17_rename_102 (gk_X15 D I) (Nat.le_of_ble_eq_true rfl) wr_9_190 rfl ?_
                      refine G_iload_n 5 dr_cX17_rename_105 rfl ?_
                      refine G_icmp_ne 115 dr_cX17_rename_106 (by decide +kernel) (fun hc396305 => ?_) (fun hc396305 => ?_)
                      · have r396306 : p396107.toInt ≠ p369941.toInt := gC_ne hc396305
                        refine G_aload 0 dr_cX17_rename_115 rfl ?_
                        refine Gw_callV (As := []) (gV_ok D I) (cp_1660_Row_sets l hl0 D I P369938 F396053 q395160 p396104 p396105 p396106 p396107 p396108 p396109 p396110 hm396102 he396103 bp396104 bp396105 bp396108 bp396109 bp396110) dr_cX17_rename_117 ⟨wr_10_181, wr_1_39, wr_10_184, by decide, rfl, (Nat.le_of_ble_eq_true rfl), (Nat.le_of_ble_eq_true rfl)⟩ wr_10_182 wr_10_183 hm396102 he396103 rfl (show 0 + 0 ≤ 0 by first | omega | decide) (show 0 + 0 ≤ 0 by first | omega | decide) (Nat.le_of_ble_eq_true rfl) (fun r396310 w396311 dc396307 ds396308 hp396309 => ?_) (fun _ _ _ _ _ z => z.elim)
                        obtain ⟨o396312, rfl, rfl, hdc, hds, bo396312, ht396313⟩ := hp396309
                        change G _ _ _ _ _ _ _ (.int o396312 :: _) _ _ _
                        refine G_widen (cs' := 0) (sl' := 0) (by omega) (by omega) ?_
                        refine G_if_eq 138 dr_cX17_rename_120 (by decide +kernel) (fun hc396314 => ?_) (fun hc396314 => ?_)
                        · have r396315 : o396312.toInt = 0 := gj_eq hc396314 (show Int32.toInt 0 = 0 by decide)
                          have bo396312' : gB o396312 0 0 := gB_t0 r396315
                          obtain ⟨z396316, hz396316⟩ : ∃ z : Int32, z = g396052 + Int32.ofInt 1 := ⟨_, rfl⟩
                          have ez396316 : z396316.toInt = g396052.toInt + 1 := gI_inc hz396316 (by decide) bg396052' (by decide) (by decide)
                          have bz396316 : gB z396316 1 1000001 := ⟨by omega, by omega⟩
                          refine G_iinc (L' := [(5, .int z396316), (6, .ref q395160), (4, .ref q395149), (3, .int g395086), (0, .ref q369940), (1, .int p369941), (2, .int p369942)]) z396316 1 dr_cX17_rename_138 rfl hz396316.symm (Nat.le_of_ble_eq_true rfl) rfl ?_
                          refine G_goto 20 dr_cX17_rename_141 (by decide +kernel) ?_
                          refine G_lv (L' := [(5, .int z396316), (4, .ref q395149), (3, .int g395086), (0, .ref q369940), (1, .int p369941), (2, .int p369942)]) [0, 2, 3, 4, 5, 6] rfl ?_
                          exact ih20_396058 F396053 z396316 (gB_w bz396316 (by decide) (by decide)) hT396054 hs396055 x396056 x396057 x396058 (fun k e1 ht => kt20_396059 k e1 (fun R c1 c2 c3 c4 c5 c6 c7 c8 c9 c10 c11 c12 c13 c14 c15 c16 c17 c18 c19 c20 c21 c22 c23 c24 c25 c26 c27 c28 c29 c30 c31 c32 c33 c34 c35 c36 c37 c38 c39 c40 c41 c42 c43 c44 c45 c46 c47 c48 c49 c50 c51 c52 c53 c54 c55 => c14 F396053 g396052 q395159 p396070 q395160 p396104 p396109 o396123 p396106 p396110 o396266 p396107 o396312 z396316 k e1 bg396052 hT396054 hs396055 x396056 x396057 x396058 fq396066 fq396077 fq396078 r396088 fq396089 r396096 fq396097 fq396116 fq396117 bo396123 ht396125 r396256 fq396257 r396259 fq396260 bo396266 ht396268 r396303 fq396304 r396306 bo396312 ht396313 r396315 ez396316 (ht R c1 c2 c3 c4 c5 c6 c7 c8 c9 c10 c11 c12 c13 c14 c15 c16 c17 c18 c19 c20 c21 c22 c23 c24 c25 c26 c27 c28 c29 c30 c31 c32 c33 c34 c35 c36 c37 c38 c39 c40 c41 c42 c43 c44 c45 c46 c47 c48 c49 c50 c51 c52 c53 c54 c55))) (mz_up ez396316 (Int.le_trans bg396052'.2 (by decide)) hm20_396058)
                        · have r396317 : o396312.toInt ≠ 0 := gj_neq hc396314 (show Int32.toInt 0 = 0 by decide)
                          have bo396312' : gB o396312 1 1 := gB_t1 bo396312 r396317
                          refine G_aload 0 dr_cX17_rename_123 rfl ?_
                          have fq396318 : fI (F396053 q395160) 1 = p396105 := by rw [he396103]; rfl
                          refine Gp_get 1 hm396102 he396103 dr_cX17_rename_125 (gk_X15 D I) (Nat.le_of_ble_eq_true rfl) wr_9_182 rfl ?_
                          refine G_iload_n 5 dr_cX17_rename_128 rfl ?_
                          refine G_icmp_ne 138 dr_cX17_rename_129 (by decide +kernel) (fun hc396319 => ?_) (fun hc396319 => ?_)
                          · have r396320 : p396105.toInt ≠ p369941.toInt := gC_ne hc396319
                            obtain ⟨z396321, hz396321⟩ : ∃ z : Int32, z = g396052 + Int32.ofInt 1 := ⟨_, rfl⟩
                            have ez396321 : z396321.toInt = g396052.toInt + 1 := gI_inc hz396321 (by decide) bg396052' (by decide) (by decide)
                            have bz396321 : gB z396321 1 1000001 := ⟨by omega, by omega⟩
                            refine G_iinc (L' := [(5, .int z396321), (6, .ref q395160), (4, .ref q395149), (3, .int g395086), (0, .ref q369940), (1, .int p369941), (2, .int p369942)]) z396321 1 dr_cX17_rename_138 rfl hz396321.symm (Nat.le_of_ble_eq_true rfl) rfl ?_
                            refine G_goto 20 dr_cX17_rename_141 (by decide +kernel) ?_
                            refine G_lv (L' := [(5, .int z396321), (4, .ref q395149), (3, .int g395086), (0, .ref q369940), (1, .int p369941), (2, .int p369942)]) [0, 2, 3, 4, 5, 6] rfl ?_
                            exact ih20_396058 F396053 z396321 (gB_w bz396321 (by decide) (by decide)) hT396054 hs396055 x396056 x396057 x396058 (fun k e1 ht => kt20_396059 k e1 (fun R c1 c2 c3 c4 c5 c6 c7 c8 c9 c10 c11 c12 c13 c14 c15 c16 c17 c18 c19 c20 c21 c22 c23 c24 c25 c26 c27 c28 c29 c30 c31 c32 c33 c34 c35 c36 c37 c38 c39 c40 c41 c42 c43 c44 c45 c46 c47 c48 c49 c50 c51 c52 c53 c54 c55 => c15 F396053 g396052 q395159 p396070 q395160 p396104 p396109 o396123 p396106 p396110 o396266 p396107 o396312 p396105 z396321 k e1 bg396052 hT396054 hs396055 x396056 x396057 x396058 fq396066 fq396077 fq396078 r396088 fq396089 r396096 fq396097 fq396116 fq396117 bo396123 ht396125 r396256 fq396257 r396259 fq396260 bo396266 ht396268 r396303 fq396304 r396306 bo396312 ht396313 r396317 fq396318 r396320 ez396321 (ht R c1 c2 c3 c4 c5 c6 c7 c8 c9 c10 c11 c12 c13 c14 c15 c16 c17 c18 c19 c20 c21 c22 c23 c24 c25 c26 c27 c28 c29 c30 c31 c32 c33 c34 c35 c36 c37 c38 c39 c40 c41 c42 c43 c44 c45 c46 c47 c48 c49 c50 c51 c52 c53 c54 c55))) (mz_up ez396321 (Int.le_trans bg396052'.2 (by decide)) hm20_396058)
                          · have r396322 : p396105.toInt = p369941.toInt := gC_eq hc396319
                            refine G_aload 0 dr_cX17_rename_132 rfl ?_
                            refine G_iload_n 6 dr_cX17_rename_134 rfl ?_
                            refine Gp_put 1 hm396102 he396103 dr_cX17_rename_135 (gk_X15 D I) (Nat.le_of_ble_eq_true rfl) wr_9_182 rfl rfl rfl (Nat.le_of_ble_eq_true rfl) (fun F396323 e396324 n396325 => ?_)
                            have he396326 : F396323 q369940 = .inr (18, [.ref q395098, .ref q395099, .int p395100, .int p395101]) := (n396325 q369940 (rn_oo he396061 he396103 (by decide))).trans he396061
                            have he396327 : F396323 q395098 = .inr (4, [.int p395130, .ref q395132, .int p395131]) := (n396325 q395098 (rn_oo he396062 he396103 (by decide))).trans he396062
                            have he396328 : F396323 q395132 = .inl (I (.object "java/lang/Object"), n395146, .inr (.inr (.inr (.inr f395147)))) := (n396325 q395132 (rn_ao he396063 he396103)).trans he396063
                            have he396329 : F396323 q395149 = .inr (17, [.ref q395159, .ref q395160, .int p395161, .int p395162]) := (n396325 q395149 (rn_oo he396064 he396103 (by decide))).trans he396064
                            have he396330 : F396323 q395159 = .inr (4, [.int p396069, .ref q396071, .int p396070]) := (n396325 q395159 (rn_oo he396068 he396103 (by decide))).trans he396068
                            have he396331 : F396323 q395160 = .inr (20, [.int p396104, .int p369942, .int p396106, .int p396107, .int p396108, .int p396109, .int p396110]) := e396324
                            have hs396332 : rStr γ [1] F369939 F396323 := rStr_pu2 hs396055 n396325 ht395165 (by decide)
                            have fs396333 : rFs γ (γ 1 q369940) F369939 F396323 := rFs_put x396058 n396325 ((show γ 1 q395160 = γ 1 q395149 from ht395166).trans ((show γ 1 q395149 = γ 1 q395098 from ht395156).trans (show γ 1 q395098 = γ 1 q369940 from ht395103)))
                            have fk396334 : rFk [1] γ F369939 F396323 := rFk_put x396057 n396325 ht395165 (by decide)
                            have fq396335 : F396323 q395160 = cF (F396053 q395160) 1 (.int p369942) := by rw [he396331, he396103]; rfl
                            obtain ⟨z396336, hz396336⟩ : ∃ z : Int32, z = g396052 + Int32.ofInt 1 := ⟨_, rfl⟩
                            have ez396336 : z396336.toInt = g396052.toInt + 1 := gI_inc hz396336 (by decide) bg396052' (by decide) (by decide)
                            have bz396336 : gB z396336 1 1000001 := ⟨by omega, by omega⟩
                            refine G_iinc (L' := [(5, .int z396336), (6, .ref q395160), (4, .ref q395149), (3, .int g395086), (0, .ref q369940), (1, .int p369941), (2, .int p369942)]) z396336 1 dr_cX17_rename_138 rfl hz396336.symm (Nat.le_of_ble_eq_true rfl) rfl ?_
                            refine G_goto 20 dr_cX17_rename_141 (by decide +kernel) ?_
                            have hT396337 : RS D I P369938 F396323 γ el := RS_set hT396054 n396325 ht395165 (by decide) ⟨p396104, p369942, p396106, p396107, p396108, p396109, p396110, he396331, bp396104, bp369942, bp396108, bp396109, bp396110, r396111, r396112, r396113, r396114, r396115⟩
                            refine G_lv (L' := [(5, .int z396336), (4, .ref q395149), (3, .int g395086), (0, .ref q369940), (1, .int p369941), (2, .int p369942)]) [0, 2, 3, 4, 5, 6] rfl ?_
                            exact ih20_396058 F396323 z396336 (gB_w bz396336 (by decide) (by decide)) hT396337 hs396332 (fun N hv hu hp => rPl_put hT396054 htq369940 rfl (x396056 N hv hu hp) n396325 hp396098 nb396101 hL396099 (fun _ _ _ _ z => z) (rNx_ren he396103 he396331 hu hv (Or.inl rfl) (Or.inl rfl) (Or.inr ⟨rfl, by first | assumption | omega⟩) (by rw [← hp396098]; exact x396056 N hv hu hp _ nb396101 _ hL396099))) fk396334 fs396333 (fun k e1 ht => kt20_396059 k e1 (fun R c1 c2 c3 c4 c5 c6 c7 c8 c9 c10 c11 c12 c13 c14 c15 c16 c17 c18 c19 c20 c21 c22 c23 c24 c25 c26 c27 c28 c29 c30 c31 c32 c33 c34 c35 c36 c37 c38 c39 c40 c41 c42 c43 c44 c45 c46 c47 c48 c49 c50 c51 c52 c53 c54 c55 => c16 F396053 g396052 q395159 p396070 q395160 p396104 p396109 o396123 p396106 p396110 o396266 p396107 o396312 p396105 F396323 z396336 k e1 bg396052 hT396054 hs396055 x396056 x396057 x396058 fq396066 fq396077 fq396078 r396088 fq396089 r396096 fq396097 fq396116 fq396117 bo396123 ht396125 r396256 fq396257 r396259 fq396260 bo396266 ht396268 r396303 fq396304 r396306 bo396312 ht396313 r396317 fq396318 r396322 n396325 fq396335 ez396336 (ht R c1 c2 c3 c4 c5 c6 c7 c8 c9 c10 c11 c12 c13 c14 c15 c16 c17 c18 c19 c20 c21 c22 c23 c24 c25 c26 c27 c28 c29 c30 c31 c32 c33 c34 c35 c36 c37 c38 c39 c40 c41 c42 c43 c44 c45 c46 c47 c48 c49 c50 c51 c52 c53 c54 c55))) (mz_up ez396336 (Int.le_trans bg396052'.2 (by decide)) hm20_396058)
                      · have r396339 : p396107.toInt = p369941.toInt := gC_eq hc396305
                        have bp396107' : gB p396107 0 1999 := ⟨by omega, by omega⟩
                        refine G_aload 0 dr_cX17_rename_109 rfl ?_
                        refine G_iload_n 6 dr_cX17_rename_111 rfl ?_
                        refine Gp_put 3 hm396102 he396103 dr_cX17_rename_112 (gk_X15 D I) (Nat.le_of_ble_eq_true rfl) wr_9_190 rfl rfl rfl (Nat.le_of_ble_eq_true rfl) (fun F396340 e396341 n396342 => ?_)
                        have he396343 : F396340 q369940 = .inr (18, [.ref q395098, .ref q395099, .int p395100, .int p395101]) := (n396342 q369940 (rn_oo he396061 he396103 (by decide))).trans he396061
                        have he396344 : F396340 q395098 = .inr (4, [.int p395130, .ref q395132, .int p395131]) := (n396342 q395098 (rn_oo he396062 he396103 (by decide))).trans he396062
                        have he396345 : F396340 q395132 = .inl (I (.object "java/lang/Object"), n395146, .inr (.inr (.inr (.inr f395147)))) := (n396342 q395132 (rn_ao he396063 he396103)).trans he396063
                        have he396346 : F396340 q395149 = .inr (17, [.ref q395159, .ref q395160, .int p395161, .int p395162]) := (n396342 q395149 (rn_oo he396064 he396103 (by decide))).trans he396064
                        have he396347 : F396340 q395159 = .inr (4, [.int p396069, .ref q396071, .int p396070]) := (n396342 q395159 (rn_oo he396068 he396103 (by decide))).trans he396068
                        have he396348 : F396340 q395160 = .inr (20, [.int p396104, .int p396105, .int p396106, .int p369942, .int p396108, .int p396109, .int p396110]) := e396341
                        have hs396349 : rStr γ [1] F369939 F396340 := rStr_pu2 hs396055 n396342 ht395165 (by decide)
                        have fs396350 : rFs γ (γ 1 q369940) F369939 F396340 := rFs_put x396058 n396342 ((show γ 1 q395160 = γ 1 q395149 from ht395166).trans ((show γ 1 q395149 = γ 1 q395098 from ht395156).trans (show γ 1 q395098 = γ 1 q369940 from ht395103)))
                        have fk396351 : rFk [1] γ F369939 F396340 := rFk_put x396057 n396342 ht395165 (by decide)
                        have fq396352 : F396340 q395160 = cF (F396053 q395160) 3 (.int p369942) := by rw [he396348, he396103]; rfl
                        refine G_aload 0 dr_cX17_rename_115 rfl ?_
                        have hT396353 : RS D I P369938 F396340 γ el := RS_set hT396054 n396342 ht395165 (by decide) ⟨p396104, p396105, p396106, p369942, p396108, p396109, p396110, he396348, bp396104, bp396105, bp396108, bp396109, bp396110, r396111, r396112, (Or.inr bp369942), r396114, r396115⟩
                        have fq396355 : fI (F396340 q395160) 0 = p396104 := by rw [he396348]; rfl
                        refine Gw_callV (As := []) (gV_ok D I) (cp_1660_Row_sets l hl0 D I P369938 F396340 q395160 p396104 p396105 p396106 p369942 p396108 p396109 p396110 hm396102 he396348 bp396104 bp396105 bp396108 bp396109 bp396110) dr_cX17_rename_117 ⟨wr_10_181, wr_1_39, wr_10_184, by decide, rfl, (Nat.le_of_ble_eq_true rfl), (Nat.le_of_ble_eq_true rfl)⟩ wr_10_182 wr_10_183 hm396102 he396348 rfl (show 0 + 0 ≤ 0 by first | omega | decide) (show 0 + 0 ≤ 0 by first | omega | decide) (Nat.le_of_ble_eq_true rfl) (fun r396359 w396360 dc396356 ds396357 hp396358 => ?_) (fun _ _ _ _ _ z => z.elim)
                        obtain ⟨o396361, rfl, rfl, hdc, hds, bo396361, ht396362⟩ := hp396358
                        change G _ _ _ _ _ _ _ (.int o396361 :: _) _ _ _
                        refine G_widen (cs' := 0) (sl' := 0) (by omega) (by omega) ?_
                        refine G_if_eq 138 dr_cX17_rename_120 (by decide +kernel) (fun hc396363 => ?_) (fun hc396363 => ?_)
                        · have r396364 : o396361.toInt = 0 := gj_eq hc396363 (show Int32.toInt 0 = 0 by decide)
                          have bo396361' : gB o396361 0 0 := gB_t0 r396364
                          obtain ⟨z396365, hz396365⟩ : ∃ z : Int32, z = g396052 + Int32.ofInt 1 := ⟨_, rfl⟩
                          have ez396365 : z396365.toInt = g396052.toInt + 1 := gI_inc hz396365 (by decide) bg396052' (by decide) (by decide)
                          have bz396365 : gB z396365 1 1000001 := ⟨by omega, by omega⟩
                          refine G_iinc (L' := [(5, .int z396365), (6, .ref q395160), (4, .ref q395149), (3, .int g395086), (0, .ref q369940), (1, .int p369941), (2, .int p369942)]) z396365 1 dr_cX17_rename_138 rfl hz396365.symm (Nat.le_of_ble_eq_true rfl) rfl ?_
                          refine G_goto 20 dr_cX17_rename_141 (by decide +kernel) ?_
                          refine G_lv (L' := [(5, .int z396365), (4, .ref q395149), (3, .int g395086), (0, .ref q369940), (1, .int p369941), (2, .int p369942)]) [0, 2, 3, 4, 5, 6] rfl ?_
                          exact ih20_396058 F396340 z396365 (gB_w bz396365 (by decide) (by decide)) hT396353 hs396349 (fun N hv hu hp => rPl_put hT396054 htq369940 rfl (x396056 N hv hu hp) n396342 hp396098 nb396101 hL396099 (fun _ _ _ _ z => z) (rNx_ren he396103 he396348 hu hv (Or.inl rfl) (Or.inr rfl) (Or.inl rfl) (by rw [← hp396098]; exact x396056 N hv hu hp _ nb396101 _ hL396099))) fk396351 fs396350 (fun k e1 ht => kt20_396059 k e1 (fun R c1 c2 c3 c4 c5 c6 c7 c8 c9 c10 c11 c12 c13 c14 c15 c16 c17 c18 c19 c20 c21 c22 c23 c24 c25 c26 c27 c28 c29 c30 c31 c32 c33 c34 c35 c36 c37 c38 c39 c40 c41 c42 c43 c44 c45 c46 c47 c48 c49 c50 c51 c52 c53 c54 c55 => c17 F396053 g396052 q395159 p396070 q395160 p396104 p396109 o396123 p396106 p396110 o396266 p396107 F396340 o396361 z396365 k e1 bg396052 hT396054 hs396055 x396056 x396057 x396058 fq396066 fq396077 fq396078 r396088 fq396089 r396096 fq396097 fq396116 fq396117 bo396123 ht396125 r396256 fq396257 r396259 fq396260 bo396266 ht396268 r396303 fq396304 r396339 n396342 fq396352 fq396355 bo396361 ht396362 r396364 ez396365 (ht R c1 c2 c3 c4 c5 c6 c7 c8 c9 c10 c11 c12 c13 c14 c15 c16 c17 c18 c19 c20 c21 c22 c23 c24 c25 c26 c27 c28 c29 c30 c31 c32 c33 c34 c35 c36 c37 c38 c39 c40 c41 c42 c43 c44 c45 c46 c47 c48 c49 c50 c51 c52 c53 c54 c55))) (mz_up ez396365 (Int.le_trans bg396052'.2 (by decide)) hm20_396058)
                        · have r396366 : o396361.toInt ≠ 0 := gj_neq hc396363 (show Int32.toInt 0 = 0 by decide)
                          have bo396361' : gB o396361 1 1 := gB_t1 bo396361 r396366
                          refine G_aload 0 dr_cX17_rename_123 rfl ?_
                          have fq396367 : fI (F396340 q395160) 1 = p396105 := by rw [he396348]; rfl
                          refine Gp_get 1 hm396102 he396348 dr_cX17_rename_125 (gk_X15 D I) (Nat.le_of_ble_eq_true rfl) wr_9_182 rfl ?_
                          refine G_iload_n 5 dr_cX17_rename_128 rfl ?_
                          refine G_icmp_ne 138 dr_cX17_rename_129 (by decide +kernel) (fun hc396368 => ?_) (fun hc396368 => ?_)
                          · have r396369 : p396105.toInt ≠ p369941.toInt := gC_ne hc396368
                            obtain ⟨z396370, hz396370⟩ : ∃ z : Int32, z = g396052 + Int32.ofInt 1 := ⟨_, rfl⟩
                            have ez396370 : z396370.toInt = g396052.toInt + 1 := gI_inc hz396370 (by decide) bg396052' (by decide) (by decide)
                            have bz396370 : gB z396370 1 1000001 := ⟨by omega, by omega⟩
                            refine G_iinc (L' := [(5, .int z396370), (6, .ref q395160), (4, .ref q395149), (3, .int g395086), (0, .ref q369940), (1, .int p369941), (2, .int p369942)]) z396370 1 dr_cX17_rename_138 rfl hz396370.symm (Nat.le_of_ble_eq_true rfl) rfl ?_
                            refine G_goto 20 dr_cX17_rename_141 (by decide +kernel) ?_
                            refine G_lv (L' := [(5, .int z396370), (4, .ref q395149), (3, .int g395086), (0, .ref q369940), (1, .int p369941), (2, .int p369942)]) [0, 2, 3, 4, 5, 6] rfl ?_
                            exact ih20_396058 F396340 z396370 (gB_w bz396370 (by decide) (by decide)) hT396353 hs396349 (fun N hv hu hp => rPl_put hT396054 htq369940 rfl (x396056 N hv hu hp) n396342 hp396098 nb396101 hL396099 (fun _ _ _ _ z => z) (rNx_ren he396103 he396348 hu hv (Or.inl rfl) (Or.inr rfl) (Or.inl rfl) (by rw [← hp396098]; exact x396056 N hv hu hp _ nb396101 _ hL396099))) fk396351 fs396350 (fun k e1 ht => kt20_396059 k e1 (fun R c1 c2 c3 c4 c5 c6 c7 c8 c9 c10 c11 c12 c13 c14 c15 c16 c17 c18 c19 c20 c21 c22 c23 c24 c25 c26 c27 c28 c29 c30 c31 c32 c33 c34 c35 c36 c37 c38 c39 c40 c41 c42 c43 c44 c45 c46 c47 c48 c49 c50 c51 c52 c53 c54 c55 => c18 F396053 g396052 q395159 p396070 q395160 p396104 p396109 o396123 p396106 p396110 o396266 p396107 F396340 o396361 p396105 z396370 k e1 bg396052 hT396054 hs396055 x396056 x396057 x396058 fq396066 fq396077 fq396078 r396088 fq396089 r396096 fq396097 fq396116 fq396117 bo396123 ht396125 r396256 fq396257 r396259 fq396260 bo396266 ht396268 r396303 fq396304 r396339 n396342 fq396352 fq396355 bo396361 ht396362 r396366 fq396367 r396369 ez396370 (ht R c1 c2 c3 c4 c5 c6 c7 c8 c9 c10 c11 c12 c13 c14 c15 c16 c17 c18 c19 c20 c21 c22 c23 c24 c25 c26 c27 c28 c29 c30 c31 c32 c33 c34 c35 c36 c37 c38 c39 c40 c41 c42 c43 c44 c45 c46 c47 c48 c49 c50 c51 c52 c53 c54 c55))) (mz_up ez396370 (Int.le_trans bg396052'.2 (by decide)) hm20_396058)
                          · have r396371 : p396105.toInt = p369941.toInt := gC_eq hc396368
                            refine G_aload 0 dr_cX17_rename_132 rfl ?_
                            refine G_iload_n 6 dr_cX17_rename_134 rfl ?_
                            refine Gp_put 1 hm396102 he396348 dr_cX17_rename_135 (gk_X15 D I) (Nat.le_of_ble_eq_true rfl) wr_9_182 rfl rfl rfl (Nat.le_of_ble_eq_true rfl) (fun F396372 e396373 n396374 => ?_)
                            have he396375 : F396372 q369940 = .inr (18, [.ref q395098, .ref q395099, .int p395100, .int p395101]) := (n396374 q369940 (rn_oo he396343 he396348 (by decide))).trans he396343
                            have he396376 : F396372 q395098 = .inr (4, [.int p395130, .ref q395132, .int p395131]) := (n396374 q395098 (rn_oo he396344 he396348 (by decide))).trans he396344
                            have he396377 : F396372 q395132 = .inl (I (.object "java/lang/Object"), n395146, .inr (.inr (.inr (.inr f395147)))) := (n396374 q395132 (rn_ao he396345 he396348)).trans he396345
                            have he396378 : F396372 q395149 = .inr (17, [.ref q395159, .ref q395160, .int p395161, .int p395162]) := (n396374 q395149 (rn_oo he396346 he396348 (by decide))).trans he396346
                            have he396379 : F396372 q395159 = .inr (4, [.int p396069, .ref q396071, .int p396070]) := (n396374 q395159 (rn_oo he396347 he396348 (by decide))).trans he396347
                            have he396380 : F396372 q395160 = .inr (20, [.int p396104, .int p369942, .int p396106, .int p369942, .int p396108, .int p396109, .int p396110]) := e396373
                            have hs396381 : rStr γ [1] F369939 F396372 := rStr_pu2 hs396349 n396374 ht395165 (by decide)
                            have fs396382 : rFs γ (γ 1 q369940) F369939 F396372 := rFs_put fs396350 n396374 ((show γ 1 q395160 = γ 1 q395149 from ht395166).trans ((show γ 1 q395149 = γ 1 q395098 from ht395156).trans (show γ 1 q395098 = γ 1 q369940 from ht395103)))
                            have fk396383 : rFk [1] γ F369939 F396372 := rFk_put fk396351 n396374 ht395165 (by decide)
                            have fq396384 : F396372 q395160 = cF (F396340 q395160) 1 (.int p369942) := by rw [he396380, he396348]; rfl
                            obtain ⟨z396385, hz396385⟩ : ∃ z : Int32, z = g396052 + Int32.ofInt 1 := ⟨_, rfl⟩
                            have ez396385 : z396385.toInt = g396052.toInt + 1 := gI_inc hz396385 (by decide) bg396052' (by decide) (by decide)
                            have bz396385 : gB z396385 1 1000001 := ⟨by omega, by omega⟩
                            refine G_iinc (L' := [(5, .int z396385), (6, .ref q395160), (4, .ref q395149), (3, .int g395086), (0, .ref q369940), (1, .int p369941), (2, .int p369942)]) z396385 1 dr_cX17_rename_138 rfl hz396385.symm (Nat.le_of_ble_eq_true rfl) rfl ?_
                            refine G_goto 20 dr_cX17_rename_141 (by decide +kernel) ?_
                            have hT396386 : RS D I P369938 F396372 γ el := RS_set hT396353 n396374 ht395165 (by decide) ⟨p396104, p369942, p396106, p369942, p396108, p396109, p396110, he396380, bp396104, bp369942, bp396108, bp396109, bp396110, r396111, r396112, (Or.inr bp369942), r396114, r396115⟩
                            have of396387 : ∀ b, b ≠ q395160 → F396372 b = F396053 b := fun b hb => (n396374 b hb).trans (n396342 b hb)
                            refine G_lv (L' := [(5, .int z396385), (4, .ref q395149), (3, .int g395086), (0, .ref q369940), (1, .int p369941), (2, .int p369942)]) [0, 2, 3, 4, 5, 6] rfl ?_
                            exact ih20_396058 F396372 z396385 (gB_w bz396385 (by decide) (by decide)) hT396386 hs396381 (fun N hv hu hp => rPl_put hT396054 htq369940 rfl (x396056 N hv hu hp) of396387 hp396098 nb396101 hL396099 (fun _ _ _ _ z => z) (rNx_ren he396103 he396380 hu hv (Or.inl rfl) (Or.inr rfl) (Or.inr ⟨rfl, by first | assumption | omega⟩) (by rw [← hp396098]; exact x396056 N hv hu hp _ nb396101 _ hL396099))) fk396383 fs396382 (fun k e1 ht => kt20_396059 k e1 (fun R c1 c2 c3 c4 c5 c6 c7 c8 c9 c10 c11 c12 c13 c14 c15 c16 c17 c18 c19 c20 c21 c22 c23 c24 c25 c26 c27 c28 c29 c30 c31 c32 c33 c34 c35 c36 c37 c38 c39 c40 c41 c42 c43 c44 c45 c46 c47 c48 c49 c50 c51 c52 c53 c54 c55 => c19 F396053 g396052 q395159 p396070 q395160 p396104 p396109 o396123 p396106 p396110 o396266 p396107 F396340 o396361 p396105 F396372 z396385 k e1 bg396052 hT396054 hs396055 x396056 x396057 x396058 fq396066 fq396077 fq396078 r396088 fq396089 r396096 fq396097 fq396116 fq396117 bo396123 ht396125 r396256 fq396257 r396259 fq396260 bo396266 ht396268 r396303 fq396304 r396339 n396342 fq396352 fq396355 bo396361 ht396362 r396366 fq396367 r396371 n396374 fq396384 ez396385 (ht R c1 c2 c3 c4 c5 c6 c7 c8 c9 c10 c11 c12 c13 c14 c15 c16 c17 c18 c19 c20 c21 c22 c23 c24 c25 c26 c27 c28 c29 c30 c31 c32 c33 c34 c35 c36 c37 c38 c39 c40 c41 c42 c43 c44 c45 c46 c47 c48 c49 c50 c51 c52 c53 c54 c55))) (mz_up ez396385 (Int.le_trans bg396052'.2 (by decide)) hm20_396058)
                  · have r396388 : p396106.toInt = p369941.toInt := gC_eq hc396258
                    have bp396106' : gB p396106 0 1999 := ⟨by omega, by omega⟩
                    refine G_aload 0 dr_cX17_rename_86 rfl ?_
                    refine G_iload_n 6 dr_cX17_rename_88 rfl ?_
                    refine Gp_put 2 hm396102 he396103 dr_cX17_rename_89 (gk_X15 D I) (Nat.le_of_ble_eq_true rfl) wr_9_186 rfl rfl rfl (Nat.le_of_ble_eq_true rfl) (fun F396389 e396390 n396391 => ?_)
                    have he396392 : F396389 q369940 = .inr (18, [.ref q395098, .ref q395099, .int p395100, .int p395101]) := (n396391 q369940 (rn_oo he396061 he396103 (by decide))).trans he396061
                    have he396393 : F396389 q395098 = .inr (4, [.int p395130, .ref q395132, .int p395131]) := (n396391 q395098 (rn_oo he396062 he396103 (by decide))).trans he396062
                    have he396394 : F396389 q395132 = .inl (I (.object "java/lang/Object"), n395146, .inr (.inr (.inr (.inr f395147)))) := (n396391 q395132 (rn_ao he396063 he396103)).trans he396063
                    have he396395 : F396389 q395149 = .inr (17, [.ref q395159, .ref q395160, .int p395161, .int p395162]) := (n396391 q395149 (rn_oo he396064 he396103 (by decide))).trans he396064
                    have he396396 : F396389 q395159 = .inr (4, [.int p396069, .ref q396071, .int p396070]) := (n396391 q395159 (rn_oo he396068 he396103 (by decide))).trans he396068
                    have he396397 : F396389 q395160 = .inr (20, [.int p396104, .int p396105, .int p369942, .int p396107, .int p396108, .int p396109, .int p396110]) := e396390
                    have hs396398 : rStr γ [1] F369939 F396389 := rStr_pu2 hs396055 n396391 ht395165 (by decide)
                    have fs396399 : rFs γ (γ 1 q369940) F369939 F396389 := rFs_put x396058 n396391 ((show γ 1 q395160 = γ 1 q395149 from ht395166).trans ((show γ 1 q395149 = γ 1 q395098 from ht395156).trans (show γ 1 q395098 = γ 1 q369940 from ht395103)))
                    have fk396400 : rFk [1] γ F369939 F396389 := rFk_put x396057 n396391 ht395165 (by decide)
                    have fq396401 : F396389 q395160 = cF (F396053 q395160) 2 (.int p369942) := by rw [he396397, he396103]; rfl
                    refine G_aload 0 dr_cX17_rename_92 rfl ?_
                    have hT396402 : RS D I P369938 F396389 γ el := RS_set hT396054 n396391 ht395165 (by decide) ⟨p396104, p396105, p369942, p396107, p396108, p396109, p396110, he396397, bp396104, bp396105, bp396108, bp396109, bp396110, r396111, (Or.inr bp369942), r396113, r396114, r396115⟩
                    have fq396404 : fI (F396389 q395160) 0 = p396104 := by rw [he396397]; rfl
                    have fq396405 : fI (F396389 q395160) 6 = p396110 := by rw [he396397]; rfl
                    refine Gw_callV (As := []) (gV_ok D I) (cp_1699_Row_usesB l hl0 D I P369938 F396389 q395160 p396104 p396105 p369942 p396107 p396108 p396109 p396110 hm396102 he396397 bp396104 bp396105 bp396108 bp396109 bp396110) dr_cX17_rename_94 ⟨wr_10_196, wr_1_39, wr_10_199, by decide, rfl, (Nat.le_of_ble_eq_true rfl), (Nat.le_of_ble_eq_true rfl)⟩ wr_10_197 wr_10_198 hm396102 he396397 rfl (show 0 + 0 ≤ 0 by first | omega | decide) (show 0 + 0 ≤ 0 by first | omega | decide) (Nat.le_of_ble_eq_true rfl) (fun r396409 w396410 dc396406 ds396407 hp396408 => ?_) (fun _ _ _ _ _ z => z.elim)
                    obtain ⟨o396411, rfl, rfl, hdc, hds, bo396411, x396412, ht396413⟩ := hp396408
                    change G _ _ _ _ _ _ _ (.int o396411 :: _) _ _ _
                    refine G_widen (cs' := 0) (sl' := 0) (by omega) (by omega) ?_
                    refine G_if_eq 115 dr_cX17_rename_97 (by decide +kernel) (fun hc396414 => ?_) (fun hc396414 => ?_)
                    · have r396415 : o396411.toInt = 0 := gj_eq hc396414 (show Int32.toInt 0 = 0 by decide)
                      have bo396411' : gB o396411 0 0 := gB_t0 r396415
                      refine G_aload 0 dr_cX17_rename_115 rfl ?_
                      refine Gw_callV (As := []) (gV_ok D I) (cp_1660_Row_sets l hl0 D I P369938 F396389 q395160 p396104 p396105 p369942 p396107 p396108 p396109 p396110 hm396102 he396397 bp396104 bp396105 bp396108 bp396109 bp396110) dr_cX17_rename_117 ⟨wr_10_181, wr_1_39, wr_10_184, by decide, rfl, (Nat.le_of_ble_eq_true rfl), (Nat.le_of_ble_eq_true rfl)⟩ wr_10_182 wr_10_183 hm396102 he396397 rfl (show 0 + 0 ≤ 0 by first | omega | decide) (show 0 + 0 ≤ 0 by first | omega | decide) (Nat.le_of_ble_eq_true rfl) (fun r396419 w396420 dc396416 ds396417 hp396418 => ?_) (fun _ _ _ _ _ z => z.elim)
                      obtain ⟨o396421, rfl, rfl, hdc, hds, bo396421, ht396422⟩ := hp396418
                      change G _ _ _ _ _ _ _ (.int o396421 :: _) _ _ _
                      refine G_widen (cs' := 0) (sl' := 0) (by omega) (by omega) ?_
                      refine G_if_eq 138 dr_cX17_rename_120 (by decide +kernel) (fun hc396423 => ?_) (fun hc396423 => ?_)
                      · have r396424 : o396421.toInt = 0 := gj_eq hc396423 (show Int32.toInt 0 = 0 by decide)
                        have bo396421' : gB o396421 0 0 := gB_t0 r396424
                        obtain ⟨z396425, hz396425⟩ : ∃ z : Int32, z = g396052 + Int32.ofInt 1 := ⟨_, rfl⟩
                        have ez396425 : z396425.toInt = g396052.toInt + 1 := gI_inc hz396425 (by decide) bg396052' (by decide) (by decide)
                        have bz396425 : gB z396425 1 1000001 := ⟨by omega, by omega⟩
                        refine G_iinc (L' := [(5, .int z396425), (6, .ref q395160), (4, .ref q395149), (3, .int g395086), (0, .ref q369940), (1, .int p369941), (2, .int p369942)]) z396425 1 dr_cX17_rename_138 rfl hz396425.symm (Nat.le_of_ble_eq_true rfl) rfl ?_
                        refine G_goto 20 dr_cX17_rename_141 (by decide +kernel) ?_
                        refine G_lv (L' := [(5, .int z396425), (4, .ref q395149), (3, .int g395086), (0, .ref q369940), (1, .int p369941), (2, .int p369942)]) [0, 2, 3, 4, 5, 6] rfl ?_
                        exact ih20_396058 F396389 z396425 (gB_w bz396425 (by decide) (by decide)) hT396402 hs396398 (fun N hv hu hp => rPl_put hT396054 htq369940 rfl (x396056 N hv hu hp) n396391 hp396098 nb396101 hL396099 (fun _ _ _ _ z => z) (rNx_ren he396103 he396397 hu hv (Or.inr rfl) (Or.inl rfl) (Or.inl rfl) (by rw [← hp396098]; exact x396056 N hv hu hp _ nb396101 _ hL396099))) fk396400 fs396399 (fun k e1 ht => kt20_396059 k e1 (fun R c1 c2 c3 c4 c5 c6 c7 c8 c9 c10 c11 c12 c13 c14 c15 c16 c17 c18 c19 c20 c21 c22 c23 c24 c25 c26 c27 c28 c29 c30 c31 c32 c33 c34 c35 c36 c37 c38 c39 c40 c41 c42 c43 c44 c45 c46 c47 c48 c49 c50 c51 c52 c53 c54 c55 => c20 F396053 g396052 q395159 p396070 q395160 p396104 p396109 o396123 p396106 F396389 p396110 o396411 o396421 z396425 k e1 bg396052 hT396054 hs396055 x396056 x396057 x396058 fq396066 fq396077 fq396078 r396088 fq396089 r396096 fq396097 fq396116 fq396117 bo396123 ht396125 r396256 fq396257 r396388 n396391 fq396401 fq396404 fq396405 bo396411 ht396413 r396415 bo396421 ht396422 r396424 ez396425 (ht R c1 c2 c3 c4 c5 c6 c7 c8 c9 c10 c11 c12 c13 c14 c15 c16 c17 c18 c19 c20 c21 c22 c23 c24 c25 c26 c27 c28 c29 c30 c31 c32 c33 c34 c35 c36 c37 c38 c39 c40 c41 c42 c43 c44 c45 c46 c47 c48 c49 c50 c51 c52 c53 c54 c55))) (mz_up ez396425 (Int.le_trans bg396052'.2 (by decide)) hm20_396058)
                      · have r396426 : o396421.toInt ≠ 0 := gj_neq hc396423 (show Int32.toInt 0 = 0 by decide)
                        have bo396421' : gB o396421 1 1 := gB_t1 bo396421 r396426
                        refine G_aload 0 dr_cX17_rename_123 rfl ?_
                        have fq396427 : fI (F396389 q395160) 1 = p396105 := by rw [he396397]; rfl
                        refine Gp_get 1 hm396102 he396397 dr_cX17_rename_125 (gk_X15 D I) (Nat.le_of_ble_eq_true rfl) wr_9_182 rfl ?_
                        refine G_iload_n 5 dr_cX17_rename_128 rfl ?_
                        refine G_icmp_ne 138 dr_cX17_rename_129 (by decide +kernel) (fun hc396428 => ?_) (fun hc396428 => ?_)
                        · have r396429 : p396105.toInt ≠ p369941.toInt := gC_ne hc396428
                          obtain ⟨z396430, hz396430⟩ : ∃ z : Int32, z = g396052 + Int32.ofInt 1 := ⟨_, rfl⟩
                          have ez396430 : z396430.toInt = g396052.toInt + 1 := gI_inc hz396430 (by decide) bg396052' (by decide) (by decide)
                          have bz396430 : gB z396430 1 1000001 := ⟨by omega, by omega⟩
                          refine G_iinc (L' := [(5, .int z396430), (6, .ref q395160), (4, .ref q395149), (3, .int g395086), (0, .ref q369940), (1, .int p369941), (2, .int p369942)]) z396430 1 dr_cX17_rename_138 rfl hz396430.symm (Nat.le_of_ble_eq_true rfl) rfl ?_
                          refine G_goto 20 dr_cX17_rename_141 (by decide +kernel) ?_
                          refine G_lv (L' := [(5, .int z396430), (4, .ref q395149), (3, .int g395086), (0, .ref q369940), (1, .int p369941), (2, .int p369942)]) [0, 2, 3, 4, 5, 6] rfl ?_
                          exact ih20_396058 F396389 z396430 (gB_w bz396430 (by decide) (by decide)) hT396402 hs396398 (fun N hv hu hp => rPl_put hT396054 htq369940 rfl (x396056 N hv hu hp) n396391 hp396098 nb396101 hL396099 (fun _ _ _ _ z => z) (rNx_ren he396103 he396397 hu hv (Or.inr rfl) (Or.inl rfl) (Or.inl rfl) (by rw [← hp396098]; exact x396056 N hv hu hp _ nb396101 _ hL396099))) fk396400 fs396399 (fun k e1 ht => kt20_396059 k e1 (fun R c1 c2 c3 c4 c5 c6 c7 c8 c9 c10 c11 c12 c13 c14 c15 c16 c17 c18 c19 c20 c21 c22 c23 c24 c25 c26 c27 c28 c29 c30 c31 c32 c33 c34 c35 c36 c37 c38 c39 c40 c41 c42 c43 c44 c45 c46 c47 c48 c49 c50 c51 c52 c53 c54 c55 => c21 F396053 g396052 q395159 p396070 q395160 p396104 p396109 o396123 p396106 F396389 p396110 o396411 o396421 p396105 z396430 k e1 bg396052 hT396054 hs396055 x396056 x396057 x396058 fq396066 fq396077 fq396078 r396088 fq396089 r396096 fq396097 fq396116 fq396117 bo396123 ht396125 r396256 fq396257 r396388 n396391 fq396401 fq396404 fq396405 bo396411 ht396413 r396415 bo396421 ht396422 r396426 fq396427 r396429 ez396430 (ht R c1 c2 c3 c4 c5 c6 c7 c8 c9 c10 c11 c12 c13 c14 c15 c16 c17 c18 c19 c20 c21 c22 c23 c24 c25 c26 c27 c28 c29 c30 c31 c32 c33 c34 c35 c36 c37 c38 c39 c40 c41 c42 c43 c44 c45 c46 c47 c48 c49 c50 c51 c52 c53 c54 c55))) (mz_up ez396430 (Int.le_trans bg396052'.2 (by decide)) hm20_396058)
                        · have r396431 : p396105.toInt = p369941.toInt := gC_eq hc396428
                          refine G_aload 0 dr_cX17_rename_132 rfl ?_
                          refine G_iload_n 6 dr_cX17_rename_134 rfl ?_
                          refine Gp_put 1 hm396102 he396397 dr_cX17_rename_135 (gk_X15 D I) (Nat.le_of_ble_eq_true rfl) wr_9_182 rfl rfl rfl (Nat.le_of_ble_eq_true rfl) (fun F396432 e396433 n396434 => ?_)
                          have he396435 : F396432 q369940 = .inr (18, [.ref q395098, .ref q395099, .int p395100, .int p395101]) := (n396434 q369940 (rn_oo he396392 he396397 (by decide))).trans he396392
                          have he396436 : F396432 q395098 = .inr (4, [.int p395130, .ref q395132, .int p395131]) := (n396434 q395098 (rn_oo he396393 he396397 (by decide))).trans he396393
                          have he396437 : F396432 q395132 = .inl (I (.object "java/lang/Object"), n395146, .inr (.inr (.inr (.inr f395147)))) := (n396434 q395132 (rn_ao he396394 he396397)).trans he396394
                          have he396438 : F396432 q395149 = .inr (17, [.ref q395159, .ref q395160, .int p395161, .int p395162]) := (n396434 q395149 (rn_oo he396395 he396397 (by decide))).trans he396395
                          have he396439 : F396432 q395159 = .inr (4, [.int p396069, .ref q396071, .int p396070]) := (n396434 q395159 (rn_oo he396396 he396397 (by decide))).trans he396396
                          have he396440 : F396432 q395160 = .inr (20, [.int p396104, .int p369942, .int p369942, .int p396107, .int p396108, .int p396109, .int p396110]) := e396433
                          have hs396441 : rStr γ [1] F369939 F396432 := rStr_pu2 hs396398 n396434 ht395165 (by decide)
                          have fs396442 : rFs γ (γ 1 q369940) F369939 F396432 := rFs_put fs396399 n396434 ((show γ 1 q395160 = γ 1 q395149 from ht395166).trans ((show γ 1 q395149 = γ 1 q395098 from ht395156).trans (show γ 1 q395098 = γ 1 q369940 from ht395103)))
                          have fk396443 : rFk [1] γ F369939 F396432 := rFk_put fk396400 n396434 ht395165 (by decide)
                          have fq396444 : F396432 q395160 = cF (F396389 q395160) 1 (.int p369942) := by rw [he396440, he396397]; rfl
                          obtain ⟨z396445, hz396445⟩ : ∃ z : Int32, z = g396052 + Int32.ofInt 1 := ⟨_, rfl⟩
                          have ez396445 : z396445.toInt = g396052.toInt + 1 := gI_inc hz396445 (by decide) bg396052' (by decide) (by decide)
                          have bz396445 : gB z396445 1 1000001 := ⟨by omega, by omega⟩
                          refine G_iinc (L' := [(5, .int z396445), (6, .ref q395160), (4, .ref q395149), (3, .int g395086), (0, .ref q369940), (1, .int p369941), (2, .int p369942)]) z396445 1 dr_cX17_rename_138 rfl hz396445.symm (Nat.le_of_ble_eq_true rfl) rfl ?_
                          refine G_goto 20 dr_cX17_rename_141 (by decide +kernel) ?_
                          have hT396446 : RS D I P369938 F396432 γ el := RS_set hT396402 n396434 ht395165 (by decide) ⟨p396104, p369942, p369942, p396107, p396108, p396109, p396110, he396440, bp396104, bp369942, bp396108, bp396109, bp396110, r396111, (Or.inr bp369942), r396113, r396114, r396115⟩
                          have of396447 : ∀ b, b ≠ q395160 → F396432 b = F396053 b := fun b hb => (n396434 b hb).trans (n396391 b hb)
                          refine G_lv (L' := [(5, .int z396445), (4, .ref q395149), (3, .int g395086), (0, .ref q369940), (1, .int p369941), (2, .int p369942)]) [0, 2, 3, 4, 5, 6] rfl ?_
                          exact ih20_396058 F396432 z396445 (gB_w bz396445 (by decide) (by decide)) hT396446 hs396441 (fun N hv hu hp => rPl_put hT396054 htq369940 rfl (x396056 N hv hu hp) of396447 hp396098 nb396101 hL396099 (fun _ _ _ _ z => z) (rNx_ren he396103 he396440 hu hv (Or.inr rfl) (Or.inl rfl) (Or.inr ⟨rfl, by first | assumption | omega⟩) (by rw [← hp396098]; exact x396056 N hv hu hp _ nb396101 _ hL396099))) fk396443 fs396442 (fun k e1 ht => kt20_396059 k e1 (fun R c1 c2 c3 c4 c5 c6 c7 c8 c9 c10 c11 c12 c13 c14 c15 c16 c17 c18 c19 c20 c21 c22 c23 c24 c25 c26 c27 c28 c29 c30 c31 c32 c33 c34 c35 c36 c37 c38 c39 c40 c41 c42 c43 c44 c45 c46 c47 c48 c49 c50 c51 c52 c53 c54 c55 => c22 F396053 g396052 q395159 p396070 q395160 p396104 p396109 o396123 p396106 F396389 p396110 o396411 o396421 p396105 F396432 z396445 k e1 bg396052 hT396054 hs396055 x396056 x396057 x396058 fq396066 fq396077 fq396078 r396088 fq396089 r396096 fq396097 fq396116 fq396117 bo396123 ht396125 r396256 fq396257 r396388 n396391 fq396401 fq396404 fq396405 bo396411 ht396413 r396415 bo396421 ht396422 r396426 fq396427 r396431 n396434 fq396444 ez396445 (ht R c1 c2 c3 c4 c5 c6 c7 c8 c9 c10 c11 c12 c13 c14 c15 c16 c17 c18 c19 c20 c21 c22 c23 c24 c25 c26 c27 c28 c29 c30 c31 c32 c33 c34 c35 c36 c37 c38 c39 c40 c41 c42 c43 c44 c45 c46 c47 c48 c49 c50 c51 c52 c53 c54 c55))) (mz_up ez396445 (Int.le_trans bg396052'.2 (by decide)) hm20_396058)
                    · have r396448 : o396411.toInt ≠ 0 := gj_neq hc396414 (show Int32.toInt 0 = 0 by decide)
                      have bo396411' : gB o396411 1 1 := gB_t1 bo396411 r396448
                      refine G_aload 0 dr_cX17_rename_100 rfl ?_
                      have fq396449 : fI (F396389 q395160) 3 = p396107 := by rw [he396397]; rfl
                      refine Gp_get 3 hm396102 he396397 dr_cX17_rename_102 (gk_X15 D I) (Nat.le_of_ble_eq_true rfl) wr_9_190 rfl ?_
                      refine G_iload_n 5 dr_cX17_rename_105 rfl ?_
                      refine G_icmp_ne 115 dr_cX17_rename_106 (by decide +kernel) (fun hc396450 => ?_) (fun hc396450 => ?_)
                      · have r396451 : p396107.toInt ≠ p369941.toInt := gC_ne hc396450
                        refine G_aload 0 dr_cX17_rename_115 rfl ?_
                        refine Gw_callV (As := []) (gV_ok D I) (cp_1660_Row_sets l hl0 D I P369938 F396389 q395160 p396104 p396105 p369942 p396107 p396108 p396109 p396110 hm396102 he396397 bp396104 bp396105 bp396108 bp396109 bp396110) dr_cX17_rename_117 ⟨wr_10_181, wr_1_39, wr_10_184, by decide, rfl, (Nat.le_of_ble_eq_true rfl), (Nat.le_of_ble_eq_true rfl)⟩ wr_10_182 wr_10_183 hm396102 he396397 rfl (show 0 + 0 ≤ 0 by first | omega | decide) (show 0 + 0 ≤ 0 by first | omega | decide) (Nat.le_of_ble_eq_true rfl) (fun r396455 w396456 dc396452 ds396453 hp396454 => ?_) (fun _ _ _ _ _ z => z.elim)
                        obtain ⟨o396457, rfl, rfl, hdc, hds, bo396457, ht396458⟩ := hp396454
                        change G _ _ _ _ _ _ _ (.int o396457 :: _) _ _ _
                        refine G_widen (cs' := 0) (sl' := 0) (by omega) (by omega) ?_
                        refine G_if_eq 138 dr_cX17_rename_120 (by decide +kernel) (fun hc396459 => ?_) (fun hc396459 => ?_)
                        · have r396460 : o396457.toInt = 0 := gj_eq hc396459 (show Int32.toInt 0 = 0 by decide)
                          have bo396457' : gB o396457 0 0 := gB_t0 r396460
                          obtain ⟨z396461, hz396461⟩ : ∃ z : Int32, z = g396052 + Int32.ofInt 1 := ⟨_, rfl⟩
                          have ez396461 : z396461.toInt = g396052.toInt + 1 := gI_inc hz396461 (by decide) bg396052' (by decide) (by decide)
                          have bz396461 : gB z396461 1 1000001 := ⟨by omega, by omega⟩
                          refine G_iinc (L' := [(5, .int z396461), (6, .ref q395160), (4, .ref q395149), (3, .int g395086), (0, .ref q369940), (1, .int p369941), (2, .int p369942)]) z396461 1 dr_cX17_rename_138 rfl hz396461.symm (Nat.le_of_ble_eq_true rfl) rfl ?_
                          refine G_goto 20 dr_cX17_rename_141 (by decide +kernel) ?_
                          refine G_lv (L' := [(5, .int z396461), (4, .ref q395149), (3, .int g395086), (0, .ref q369940), (1, .int p369941), (2, .int p369942)]) [0, 2, 3, 4, 5, 6] rfl ?_
                          exact ih20_396058 F396389 z396461 (gB_w bz396461 (by decide) (by decide)) hT396402 hs396398 (fun N hv hu hp => rPl_put hT396054 htq369940 rfl (x396056 N hv hu hp) n396391 hp396098 nb396101 hL396099 (fun _ _ _ _ z => z) (rNx_ren he396103 he396397 hu hv (Or.inr rfl) (Or.inl rfl) (Or.inl rfl) (by rw [← hp396098]; exact x396056 N hv hu hp _ nb396101 _ hL396099))) fk396400 fs396399 (fun k e1 ht => kt20_396059 k e1 (fun R c1 c2 c3 c4 c5 c6 c7 c8 c9 c10 c11 c12 c13 c14 c15 c16 c17 c18 c19 c20 c21 c22 c23 c24 c25 c26 c27 c28 c29 c30 c31 c32 c33 c34 c35 c36 c37 c38 c39 c40 c41 c42 c43 c44 c45 c46 c47 c48 c49 c50 c51 c52 c53 c54 c55 => c23 F396053 g396052 q395159 p396070 q395160 p396104 p396109 o396123 p396106 F396389 p396110 o396411 p396107 o396457 z396461 k e1 bg396052 hT396054 hs396055 x396056 x396057 x396058 fq396066 fq396077 fq396078 r396088 fq396089 r396096 fq396097 fq396116 fq396117 bo396123 ht396125 r396256 fq396257 r396388 n396391 fq396401 fq396404 fq396405 bo396411 ht396413 r396448 fq396449 r396451 bo396457 ht396458 r396460 ez396461 (ht R c1 c2 c3 c4 c5 c6 c7 c8 c9 c10 c11 c12 c13 c14 c15 c16 c17 c18 c19 c20 c21 c22 c23 c24 c25 c26 c27 c28 c29 c30 c31 c32 c33 c34 c35 c36 c37 c38 c39 c40 c41 c42 c43 c44 c45 c46 c47 c48 c49 c50 c51 c52 c53 c54 c55))) (mz_up ez396461 (Int.le_trans bg396052'.2 (by decide)) hm20_396058)
                        · have r396462 : o396457.toInt ≠ 0 := gj_neq hc396459 (show Int32.toInt 0 = 0 by decide)
                          have bo396457' : gB o396457 1 1 := gB_t1 bo396457 r396462
                          refine G_aload 0 dr_cX17_rename_123 rfl ?_
                          have fq396463 : fI (F396389 q395160) 1 = p396105 := by rw [he396397]; rfl
                          refine Gp_get 1 hm396102 he396397 dr_cX17_rename_125 (gk_X15 D I) (Nat.le_of_ble_eq_true rfl) wr_9_182 rfl ?_
                          refine G_iload_n 5 dr_cX17_rename_128 rfl ?_
                          refine G_icmp_ne 138 dr_cX17_rename_129 (by decide +kernel) (fun hc396464 => ?_) (fun hc396464 => ?_)
                          · have r396465 : p396105.toInt ≠ p369941.toInt := gC_ne hc396464
                            obtain ⟨z396466, hz396466⟩ : ∃ z : Int32, z = g396052 + Int32.ofInt 1 := ⟨_, rfl⟩
                            have ez396466 : z396466.toInt = g396052.toInt + 1 := gI_inc hz396466 (by decide) bg396052' (by decide) (by decide)
                            have bz396466 : gB z396466 1 1000001 := ⟨by omega, by omega⟩
                            refine G_iinc (L' := [(5, .int z396466), (6, .ref q395160), (4, .ref q395149), (3, .int g395086), (0, .ref q369940), (1, .int p369941), (2, .int p369942)]) z396466 1 dr_cX17_rename_138 rfl hz396466.symm (Nat.le_of_ble_eq_true rfl) rfl ?_
                            refine G_goto 20 dr_cX17_rename_141 (by decide +kernel) ?_
                            refine G_lv (L' := [(5, .int z396466), (4, .ref q395149), (3, .int g395086), (0, .ref q369940), (1, .int p369941), (2, .int p369942)]) [0, 2, 3, 4, 5, 6] rfl ?_
                            exact ih20_396058 F396389 z396466 (gB_w bz396466 (by decide) (by decide)) hT396402 hs396398 (fun N hv hu hp => rPl_put hT396054 htq369940 rfl (x396056 N hv hu hp) n396391 hp396098 nb396101 hL396099 (fun _ _ _ _ z => z) (rNx_ren he396103 he396397 hu hv (Or.inr rfl) (Or.inl rfl) (Or.inl rfl) (by rw [← hp396098]; exact x396056 N hv hu hp _ nb396101 _ hL396099))) fk396400 fs396399 (fun k e1 ht => kt20_396059 k e1 (fun R c1 c2 c3 c4 c5 c6 c7 c8 c9 c10 c11 c12 c13 c14 c15 c16 c17 c18 c19 c20 c21 c22 c23 c24 c25 c26 c27 c28 c29 c30 c31 c32 c33 c34 c35 c36 c37 c38 c39 c40 c41 c42 c43 c44 c45 c46 c47 c48 c49 c50 c51 c52 c53 c54 c55 => c24 F396053 g396052 q395159 p396070 q395160 p396104 p396109 o396123 p396106 F396389 p396110 o396411 p396107 o396457 p396105 z396466 k e1 bg396052 hT396054 hs396055 x396056 x396057 x396058 fq396066 fq396077 fq396078 r396088 fq396089 r396096 fq396097 fq396116 fq396117 bo396123 ht396125 r396256 fq396257 r396388 n396391 fq396401 fq396404 fq396405 bo396411 ht396413 r396448 fq396449 r396451 bo396457 ht396458 r396462 fq396463 r396465 ez396466 (ht R c1 c2 c3 c4 c5 c6 c7 c8 c9 c10 c11 c12 c13 c14 c15 c16 c17 c18 c19 c20 c21 c22 c23 c24 c25 c26 c27 c28 c29 c30 c31 c32 c33 c34 c35 c36 c37 c38 c39 c40 c41 c42 c43 c44 c45 c46 c47 c48 c49 c50 c51 c52 c53 c54 c55))) (mz_up ez396466 (Int.le_trans bg396052'.2 (by decide)) hm20_396058)
                          · have r396467 : p396105.toInt = p369941.toInt := gC_eq hc396464
                            refine G_aload 0 dr_cX17_rename_132 rfl ?_
                            refine G_iload_n 6 dr_cX17_rename_134 rfl ?_
                            refine Gp_put 1 hm396102 he396397 dr_cX17_rename_135 (gk_X15 D I) (Nat.le_of_ble_eq_true rfl) wr_9_182 rfl rfl rfl (Nat.le_of_ble_eq_true rfl) (fun F396468 e396469 n396470 => ?_)
                            have he396471 : F396468 q369940 = .inr (18, [.ref q395098, .ref q395099, .int p395100, .int p395101]) := (n396470 q369940 (rn_oo he396392 he396397 (by decide))).trans he396392
                            have he396472 : F396468 q395098 = .inr (4, [.int p395130, .ref q395132, .int p395131]) := (n396470 q395098 (rn_oo he396393 he396397 (by decide))).trans he396393
                            have he396473 : F396468 q395132 = .inl (I (.object "java/lang/Object"), n395146, .inr (.inr (.inr (.inr f395147)))) := (n396470 q395132 (rn_ao he396394 he396397)).trans he396394
                            have he396474 : F396468 q395149 = .inr (17, [.ref q395159, .ref q395160, .int p395161, .int p395162]) := (n396470 q395149 (rn_oo he396395 he396397 (by decide))).trans he396395
                            have he396475 : F396468 q395159 = .inr (4, [.int p396069, .ref q396071, .int p396070]) := (n396470 q395159 (rn_oo he396396 he396397 (by decide))).trans he396396
                            have he396476 : F396468 q395160 = .inr (20, [.int p396104, .int p369942, .int p369942, .int p396107, .int p396108, .int p396109, .int p396110]) := e396469
                            have hs396477 : rStr γ [1] F369939 F396468 := rStr_pu2 hs396398 n396470 ht395165 (by decide)
                            have fs396478 : rFs γ (γ 1 q369940) F369939 F396468 := rFs_put fs396399 n396470 ((show γ 1 q395160 = γ 1 q395149 from ht395166).trans ((show γ 1 q395149 = γ 1 q395098 from ht395156).trans (show γ 1 q395098 = γ 1 q369940 from ht395103)))
                            have fk396479 : rFk [1] γ F369939 F396468 := rFk_put fk396400 n396470 ht395165 (by decide)
                            have fq396480 : F396468 q395160 = cF (F396389 q395160) 1 (.int p369942) := by rw [he396476, he396397]; rfl
                            obtain ⟨z396481, hz396481⟩ : ∃ z : Int32, z = g396052 + Int32.ofInt 1 := ⟨_, rfl⟩
                            have ez396481 : z396481.toInt = g396052.toInt + 1 := gI_inc hz396481 (by decide) bg396052' (by decide) (by decide)
                            have bz396481 : gB z396481 1 1000001 := ⟨by omega, by omega⟩
                            refine G_iinc (L' := [(5, .int z396481), (6, .ref q395160), (4, .ref q395149), (3, .int g395086), (0, .ref q369940), (1, .int p369941), (2, .int p369942)]) z396481 1 dr_cX17_rename_138 rfl hz396481.symm (Nat.le_of_ble_eq_true rfl) rfl ?_
                            refine G_goto 20 dr_cX17_rename_141 (by decide +kernel) ?_
                            have hT396482 : RS D I P369938 F396468 γ el := RS_set hT396402 n396470 ht395165 (by decide) ⟨p396104, p369942, p369942, p396107, p396108, p396109, p396110, he396476, bp396104, bp369942, bp396108, bp396109, bp396110, r396111, (Or.inr bp369942), r396113, r396114, r396115⟩
                            have of396483 : ∀ b, b ≠ q395160 → F396468 b = F396053 b := fun b hb => (n396470 b hb).trans (n396391 b hb)
                            refine G_lv (L' := [(5, .int z396481), (4, .ref q395149), (3, .int g395086), (0, .ref q369940), (1, .int p369941), (2, .int p369942)]) [0, 2, 3, 4, 5, 6] rfl ?_
                            exact ih20_396058 F396468 z396481 (gB_w bz396481 (by decide) (by decide)) hT396482 hs396477 (fun N hv hu hp => rPl_put hT396054 htq369940 rfl (x396056 N hv hu hp) of396483 hp396098 nb396101 hL396099 (fun _ _ _ _ z => z) (rNx_ren he396103 he396476 hu hv (Or.inr rfl) (Or.inl rfl) (Or.inr ⟨rfl, by first | assumption | omega⟩) (by rw [← hp396098]; exact x396056 N hv hu hp _ nb396101 _ hL396099))) fk396479 fs396478 (fun k e1 ht => kt20_396059 k e1 (fun R c1 c2 c3 c4 c5 c6 c7 c8 c9 c10 c11 c12 c13 c14 c15 c16 c17 c18 c19 c20 c21 c22 c23 c24 c25 c26 c27 c28 c29 c30 c31 c32 c33 c34 c35 c36 c37 c38 c39 c40 c41 c42 c43 c44 c45 c46 c47 c48 c49 c50 c51 c52 c53 c54 c55 => c25 F396053 g396052 q395159 p396070 q395160 p396104 p396109 o396123 p396106 F396389 p396110 o396411 p396107 o396457 p396105 F396468 z396481 k e1 bg396052 hT396054 hs396055 x396056 x396057 x396058 fq396066 fq396077 fq396078 r396088 fq396089 r396096 fq396097 fq396116 fq396117 bo396123 ht396125 r396256 fq396257 r396388 n396391 fq396401 fq396404 fq396405 bo396411 ht396413 r396448 fq396449 r396451 bo396457 ht396458 r396462 fq396463 r396467 n396470 fq396480 ez396481 (ht R c1 c2 c3 c4 c5 c6 c7 c8 c9 c10 c11 c12 c13 c14 c15 c16 c17 c18 c19 c20 c21 c22 c23 c24 c25 c26 c27 c28 c29 c30 c31 c32 c33 c34 c35 c36 c37 c38 c39 c40 c41 c42 c43 c44 c45 c46 c47 c48 c49 c50 c51 c52 c53 c54 c55))) (mz_up ez396481 (Int.le_trans bg396052'.2 (by decide)) hm20_396058)
                      · have r396484 : p396107.toInt = p369941.toInt := gC_eq hc396450
                        have bp396107' : gB p396107 0 1999 := ⟨by omega, by omega⟩
                        refine G_aload 0 dr_cX17_rename_109 rfl ?_
                        refine G_iload_n 6 dr_cX17_rename_111 rfl ?_
                        refine Gp_put 3 hm396102 he396397 dr_cX17_rename_112 (gk_X15 D I) (Nat.le_of_ble_eq_true rfl) wr_9_190 rfl rfl rfl (Nat.le_of_ble_eq_true rfl) (fun F396485 e396486 n396487 => ?_)
                        have he396488 : F396485 q369940 = .inr (18, [.ref q395098, .ref q395099, .int p395100, .int p395101]) := (n396487 q369940 (rn_oo he396392 he396397 (by decide))).trans he396392
                        have he396489 : F396485 q395098 = .inr (4, [.int p395130, .ref q395132, .int p395131]) := (n396487 q395098 (rn_oo he396393 he396397 (by decide))).trans he396393
                        have he396490 : F396485 q395132 = .inl (I (.object "java/lang/Object"), n395146, .inr (.inr (.inr (.inr f395147)))) := (n396487 q395132 (rn_ao he396394 he396397)).trans he396394
                        have he396491 : F396485 q395149 = .inr (17, [.ref q395159, .ref q395160, .int p395161, .int p395162]) := (n396487 q395149 (rn_oo he396395 he396397 (by decide))).trans he396395
                        have he396492 : F396485 q395159 = .inr (4, [.int p396069, .ref q396071, .int p396070]) := (n396487 q395159 (rn_oo he396396 he396397 (by decide))).trans he396396
                        have he396493 : F396485 q395160 = .inr (20, [.int p396104, .int p396105, .int p369942, .int p369942, .int p396108, .int p396109, .int p396110]) := e396486
                        have hs396494 : rStr γ [1] F369939 F396485 := rStr_pu2 hs396398 n396487 ht395165 (by decide)
                        have fs396495 : rFs γ (γ 1 q369940) F369939 F396485 := rFs_put fs396399 n396487 ((show γ 1 q395160 = γ 1 q395149 from ht395166).trans ((show γ 1 q395149 = γ 1 q395098 from ht395156).trans (show γ 1 q395098 = γ 1 q369940 from ht395103)))
                        have fk396496 : rFk [1] γ F369939 F396485 := rFk_put fk396400 n396487 ht395165 (by decide)
                        have fq396497 : F396485 q395160 = cF (F396389 q395160) 3 (.int p369942) := by rw [he396493, he396397]; rfl
                        refine G_aload 0 dr_cX17_rename_115 rfl ?_
                        have hT396498 : RS D I P369938 F396485 γ el := RS_set hT396402 n396487 ht395165 (by decide) ⟨p396104, p396105, p369942, p369942, p396108, p396109, p396110, he396493, bp396104, bp396105, bp396108, bp396109, bp396110, r396111, (Or.inr bp369942), (Or.inr bp369942), r396114, r396115⟩
                        have of396499 : ∀ b, b ≠ q395160 → F396485 b = F396053 b := fun b hb => (n396487 b hb).trans (n396391 b hb)
                        have fq396500 : fI (F396485 q395160) 0 = p396104 := by rw [he396493]; rfl
                        refine Gw_callV (As := []) (gV_ok D I) (cp_1660_Row_sets l hl0 D I P369938 F396485 q395160 p396104 p396105 p369942 p369942 p396108 p396109 p396110 hm396102 he396493 bp396104 bp396105 bp396108 bp396109 bp396110) dr_cX17_rename_117 ⟨wr_10_181, wr_1_39, wr_10_184, by decide, rfl, (Nat.le_of_ble_eq_true rfl), (Nat.le_of_ble_eq_true rfl)⟩ wr_10_182 wr_10_183 hm396102 he396493 rfl (show 0 + 0 ≤ 0 by first | omega | decide) (show 0 + 0 ≤ 0 by first | omega | decide) (Nat.le_of_ble_eq_true rfl) (fun r396504 w396505 dc396501 ds396502 hp396503 => ?_) (fun _ _ _ _ _ z => z.elim)
                        obtain ⟨o396506, rfl, rfl, hdc, hds, bo396506, ht396507⟩ := hp396503
                        change G _ _ _ _ _ _ _ (.int o396506 :: _) _ _ _
                        refine G_widen (cs' := 0) (sl' := 0) (by omega) (by omega) ?_
                        refine G_if_eq 138 dr_cX17_rename_120 (by decide +kernel) (fun hc396508 => ?_) (fun hc396508 => ?_)
                        · have r396509 : o396506.toInt = 0 := gj_eq hc396508 (show Int32.toInt 0 = 0 by decide)
                          have bo396506' : gB o396506 0 0 := gB_t0 r396509
                          obtain ⟨z396510, hz396510⟩ : ∃ z : Int32, z = g396052 + Int32.ofInt 1 := ⟨_, rfl⟩
                          have ez396510 : z396510.toInt = g396052.toInt + 1 := gI_inc hz396510 (by decide) bg396052' (by decide) (by decide)
                          have bz396510 : gB z396510 1 1000001 := ⟨by omega, by omega⟩
                          refine G_iinc (L' := [(5, .int z396510), (6, .ref q395160), (4, .ref q395149), (3, .int g395086), (0, .ref q369940), (1, .int p369941), (2, .int p369942)]) z396510 1 dr_cX17_rename_138 rfl hz396510.symm (Nat.le_of_ble_eq_true rfl) rfl ?_
                          refine G_goto 20 dr_cX17_rename_141 (by decide +kernel) ?_
                          refine G_lv (L' := [(5, .int z396510), (4, .ref q395149), (3, .int g395086), (0, .ref q369940), (1, .int p369941), (2, .int p369942)]) [0, 2, 3, 4, 5, 6] rfl ?_
                          exact ih20_396058 F396485 z396510 (gB_w bz396510 (by decide) (by decide)) hT396498 hs396494 (fun N hv hu hp => rPl_put hT396054 htq369940 rfl (x396056 N hv hu hp) of396499 hp396098 nb396101 hL396099 (fun _ _ _ _ z => z) (rNx_ren he396103 he396493 hu hv (Or.inr rfl) (Or.inr rfl) (Or.inl rfl) (by rw [← hp396098]; exact x396056 N hv hu hp _ nb396101 _ hL396099))) fk396496 fs396495 (fun k e1 ht => kt20_396059 k e1 (fun R c1 c2 c3 c4 c5 c6 c7 c8 c9 c10 c11 c12 c13 c14 c15 c16 c17 c18 c19 c20 c21 c22 c23 c24 c25 c26 c27 c28 c29 c30 c31 c32 c33 c34 c35 c36 c37 c38 c39 c40 c41 c42 c43 c44 c45 c46 c47 c48 c49 c50 c51 c52 c53 c54 c55 => c26 F396053 g396052 q395159 p396070 q395160 p396104 p396109 o396123 p396106 F396389 p396110 o396411 p396107 F396485 o396506 z396510 k e1 bg396052 hT396054 hs396055 x396056 x396057 x396058 fq396066 fq396077 fq396078 r396088 fq396089 r396096 fq396097 fq396116 fq396117 bo396123 ht396125 r396256 fq396257 r396388 n396391 fq396401 fq396404 fq396405 bo396411 ht396413 r396448 fq396449 r396484 n396487 fq396497 fq396500 bo396506 ht396507 r396509 ez396510 (ht R c1 c2 c3 c4 c5 c6 c7 c8 c9 c10 c11 c12 c13 c14 c15 c16 c17 c18 c19 c20 c21 c22 c23 c24 c25 c26 c27 c28 c29 c30 c31 c32 c33 c34 c35 c36 c37 c38 c39 c40 c41 c42 c43 c44 c45 c46 c47 c48 c49 c50 c51 c52 c53 c54 c55))) (mz_up ez396510 (Int.le_trans bg396052'.2 (by decide)) hm20_396058)
                        · have r396511 : o396506.toInt ≠ 0 := gj_neq hc396508 (show Int32.toInt 0 = 0 by decide)
                          have bo396506' : gB o396506 1 1 := gB_t1 bo396506 r396511
                          refine G_aload 0 dr_cX17_rename_123 rfl ?_
                          have fq396512 : fI (F396485 q395160) 1 = p396105 := by rw [he396493]; rfl
                          refine Gp_get 1 hm396102 he396493 dr_cX17_rename_125 (gk_X15 D I) (Nat.le_of_ble_eq_true rfl) wr_9_182 rfl ?_
                          refine G_iload_n 5 dr_cX17_rename_128 rfl ?_
                          refine G_icmp_ne 138 dr_cX17_rename_129 (by decide +kernel) (fun hc396513 => ?_) (fun hc396513 => ?_)
                          · have r396514 : p396105.toInt ≠ p369941.toInt := gC_ne hc396513
                            obtain ⟨z396515, hz396515⟩ : ∃ z : Int32, z = g396052 + Int32.ofInt 1 := ⟨_, rfl⟩
                            have ez396515 : z396515.toInt = g396052.toInt + 1 := gI_inc hz396515 (by decide) bg396052' (by decide) (by decide)
                            have bz396515 : gB z396515 1 1000001 := ⟨by omega, by omega⟩
                            refine G_iinc (L' := [(5, .int z396515), (6, .ref q395160), (4, .ref q395149), (3, .int g395086), (0, .ref q369940), (1, .int p369941), (2, .int p369942)]) z396515 1 dr_cX17_rename_138 rfl hz396515.symm (Nat.le_of_ble_eq_true rfl) rfl ?_
                            refine G_goto 20 dr_cX17_rename_141 (by decide +kernel) ?_
                            refine G_lv (L' := [(5, .int z396515), (4, .ref q395149), (3, .int g395086), (0, .ref q369940), (1, .int p369941), (2, .int p369942)]) [0, 2, 3, 4, 5, 6] rfl ?_
                            exact ih20_396058 F396485 z396515 (gB_w bz396515 (by decide) (by decide)) hT396498 hs396494 (fun N hv hu hp => rPl_put hT396054 htq369940 rfl (x396056 N hv hu hp) of396499 hp396098 nb396101 hL396099 (fun _ _ _ _ z => z) (rNx_ren he396103 he396493 hu hv (Or.inr rfl) (Or.inr rfl) (Or.inl rfl) (by rw [← hp396098]; exact x396056 N hv hu hp _ nb396101 _ hL396099))) fk396496 fs396495 (fun k e1 ht => kt20_396059 k e1 (fun R c1 c2 c3 c4 c5 c6 c7 c8 c9 c10 c11 c12 c13 c14 c15 c16 c17 c18 c19 c20 c21 c22 c23 c24 c25 c26 c27 c28 c29 c30 c31 c32 c33 c34 c35 c36 c37 c38 c39 c40 c41 c42 c43 c44 c45 c46 c47 c48 c49 c50 c51 c52 c53 c54 c55 => c27 F396053 g396052 q395159 p396070 q395160 p396104 p396109 o396123 p396106 F396389 p396110 o396411 p396107 F396485 o396506 p396105 z396515 k e1 bg396052 hT396054 hs396055 x396056 x396057 x396058 fq396066 fq396077 fq396078 r396088 fq396089 r396096 fq396097 fq396116 fq396117 bo396123 ht396125 r396256 fq396257 r396388 n396391 fq396401 fq396404 fq396405 bo396411 ht396413 r396448 fq396449 r396484 n396487 fq396497 fq396500 bo396506 ht396507 r396511 fq396512 r396514 ez396515 (ht R c1 c2 c3 c4 c5 c6 c7 c8 c9 c10 c11 c12 c13 c14 c15 c16 c17 c18 c19 c20 c21 c22 c23 c24 c25 c26 c27 c28 c29 c30 c31 c32 c33 c34 c35 c36 c37 c38 c39 c40 c41 c42 c43 c44 c45 c46 c47 c48 c49 c50 c51 c52 c53 c54 c55))) (mz_up ez396515 (Int.le_trans bg396052'.2 (by decide)) hm20_396058)
                          · have r396516 : p396105.toInt = p369941.toInt := gC_eq hc396513
                            refine G_aload 0 dr_cX17_rename_132 rfl ?_
                            refine G_iload_n 6 dr_cX17_rename_134 rfl ?_
                            refine Gp_put 1 hm396102 he396493 dr_cX17_rename_135 (gk_X15 D I) (Nat.le_of_ble_eq_true rfl) wr_9_182 rfl rfl rfl (Nat.le_of_ble_eq_true rfl) (fun F396517 e396518 n396519 => ?_)
                            have he396520 : F396517 q369940 = .inr (18, [.ref q395098, .ref q395099, .int p395100, .int p395101]) := (n396519 q369940 (rn_oo he396488 he396493 (by decide))).trans he396488
                            have he396521 : F396517 q395098 = .inr (4, [.int p395130, .ref q395132, .int p395131]) := (n396519 q395098 (rn_oo he396489 he396493 (by decide))).trans he396489
                            have he396522 : F396517 q395132 = .inl (I (.object "java/lang/Object"), n395146, .inr (.inr (.inr (.inr f395147)))) := (n396519 q395132 (rn_ao he396490 he396493)).trans he396490
                            have he396523 : F396517 q395149 = .inr (17, [.ref q395159, .ref q395160, .int p395161, .int p395162]) := (n396519 q395149 (rn_oo he396491 he396493 (by decide))).trans he396491
                            have he396524 : F396517 q395159 = .inr (4, [.int p396069, .ref q396071, .int p396070]) := (n396519 q395159 (rn_oo he396492 he396493 (by decide))).trans he396492
                            have he396525 : F396517 q395160 = .inr (20, [.int p396104, .int p369942, .int p369942, .int p369942, .int p396108, .int p396109, .int p396110]) := e396518
                            have hs396526 : rStr γ [1] F369939 F396517 := rStr_pu2 hs396494 n396519 ht395165 (by decide)
                            have fs396527 : rFs γ (γ 1 q369940) F369939 F396517 := rFs_put fs396495 n396519 ((show γ 1 q395160 = γ 1 q395149 from ht395166).trans ((show γ 1 q395149 = γ 1 q395098 from ht395156).trans (show γ 1 q395098 = γ 1 q369940 from ht395103)))
                            have fk396528 : rFk [1] γ F369939 F396517 := rFk_put fk396496 n396519 ht395165 (by decide)
                            have fq396529 : F396517 q395160 = cF (F396485 q395160) 1 (.int p369942) := by rw [he396525, he396493]; rfl
                            obtain ⟨z396530, hz396530⟩ : ∃ z : Int32, z = g396052 + Int32.ofInt 1 := ⟨_, rfl⟩
                            have ez396530 : z396530.toInt = g396052.toInt + 1 := gI_inc hz396530 (by decide) bg396052' (by decide) (by decide)
                            have bz396530 : gB z396530 1 1000001 := ⟨by omega, by omega⟩
                            refine G_iinc (L' := [(5, .int z396530), (6, .ref q395160), (4, .ref q395149), (3, .int g395086), (0, .ref q369940), (1, .int p369941), (2, .int p369942)]) z396530 1 dr_cX17_rename_138 rfl hz396530.symm (Nat.le_of_ble_eq_true rfl) rfl ?_
                            refine G_goto 20 dr_cX17_rename_141 (by decide +kernel) ?_
                            have hT396531 : RS D I P369938 F396517 γ el := RS_set hT396498 n396519 ht395165 (by decide) ⟨p396104, p369942, p369942, p369942, p396108, p396109, p396110, he396525, bp396104, bp369942, bp396108, bp396109, bp396110, r396111, (Or.inr bp369942), (Or.inr bp369942), r396114, r396115⟩
                            have of396532 : ∀ b, b ≠ q395160 → F396517 b = F396053 b := fun b hb => (n396519 b hb).trans (of396499 b hb)
                            refine G_lv (L' := [(5, .int z396530), (4, .ref q395149), (3, .int g395086), (0, .ref q369940), (1, .int p369941), (2, .int p369942)]) [0, 2, 3, 4, 5, 6] rfl ?_
                            exact ih20_396058 F396517 z396530 (gB_w bz396530 (by decide) (by decide)) hT396531 hs396526 (fun N hv hu hp => rPl_put hT396054 htq369940 rfl (x396056 N hv hu hp) of396532 hp396098 nb396101 hL396099 (fun _ _ _ _ z => z) (rNx_ren he396103 he396525 hu hv (Or.inr rfl) (Or.inr rfl) (Or.inr ⟨rfl, by first | assumption | omega⟩) (by rw [← hp396098]; exact x396056 N hv hu hp _ nb396101 _ hL396099))) fk396528 fs396527 (fun k e1 ht => kt20_396059 k e1 (fun R c1 c2 c3 c4 c5 c6 c7 c8 c9 c10 c11 c12 c13 c14 c15 c16 c17 c18 c19 c20 c21 c22 c23 c24 c25 c26 c27 c28 c29 c30 c31 c32 c33 c34 c35 c36 c37 c38 c39 c40 c41 c42 c43 c44 c45 c46 c47 c48 c49 c50 c51 c52 c53 c54 c55 => c28 F396053 g396052 q395159 p396070 q395160 p396104 p396109 o396123 p396106 F396389 p396110 o396411 p396107 F396485 o396506 p396105 F396517 z396530 k e1 bg396052 hT396054 hs396055 x396056 x396057 x396058 fq396066 fq396077 fq396078 r396088 fq396089 r396096 fq396097 fq396116 fq396117 bo396123 ht396125 r396256 fq396257 r396388 n396391 fq396401 fq396404 fq396405 bo396411 ht396413 r396448 fq396449 r396484 n396487 fq396497 fq396500 bo396506 ht396507 r396511 fq396512 r396516 n396519 fq396529 ez396530 (ht R c1 c2 c3 c4 c5 c6 c7 c8 c9 c10 c11 c12 c13 c14 c15 c16 c17 c18 c19 c20 c21 c22 c23 c24 c25 c26 c27 c28 c29 c30 c31 c32 c33 c34 c35 c36 c37 c38 c39 c40 c41 c42 c43 c44 c45 c46 c47 c48 c49 c50 c51 c52 c53 c54 c55))) (mz_up ez396530 (Int.le_trans bg396052'.2 (by decide)) hm20_396058)
              · have r396533 : g396052.toInt < p396070.toInt := gC_nle hc396095
                have bg396052'' : gB g396052 0 999999 := ⟨by omega, by omega⟩
                have bp396070' : gB p396070 1 1000000 := ⟨by omega, by omega⟩
                refine G_aload 1 dr_cX17_rename_46 rfl ?_
                refine Gp_get 0 hm395157 he396064 dr_cX17_rename_48 (gk_X12 D I) (Nat.le_of_ble_eq_true rfl) wr_9_220 rfl ?_
                refine G_iload 0 dr_cX17_rename_51 rfl ?_
                obtain ⟨r396534, r396535, n396542, f396543, r396536, r396537, r396538, r396539, r396540, r396541⟩ := rLC_n r396074 (by omega)
                have hm396544 : q396071 ∈ P369938 := RS_m hT396054 r396534 (by decide)
                obtain ⟨q396545, hx396546⟩ : ∃ x, x = el q395159 g396052.toInt.toNat := ⟨_, rfl⟩
                have hx396547 : f396543 g396052.toNatClampNeg = some q396545 := (r396540 _ (show g396052.toInt.toNat < γ 2 q395159 by omega)).trans (by rw [hx396546])
                have ht396548 : rKd γ q396545 1 := by rw [hx396546]; exact (r396075 _ (show g396052.toInt.toNat < γ 2 q395159 by omega)).1
                have ht396549 : rFm γ q396545 q395159 := by rw [hx396546]; exact (r396075 _ (show g396052.toInt.toNat < γ 2 q395159 by omega)).2.1
                refine Gw_callV (As := [.int g396052]) (gV_ok D I) (cp_22_ArrayList_get l hl0 D I P369938 F396053 q395159 q396071 g396052 p396069 p396070 f396543 n396542 q396545 hm396067 hm396544 he396068 r396536 (gB_w bg396052'' (by decide) (by decide)) (gB_w bp396070' (by decide) (by decide)) (by omega) (by omega) (by assumption) (by omega)) dr_cX17_rename_53 ⟨wr_10_201, wr_1_18, wr_10_65, by decide, rfl, (Nat.le_of_ble_eq_true rfl), (Nat.le_of_ble_eq_true rfl)⟩ wr_10_63 wr_10_64 hm396067 he396068 rfl (show 0 + 0 ≤ 0 by first | omega | decide) (show 0 + 0 ≤ 0 by first | omega | decide) (Nat.le_of_ble_eq_true rfl) (fun r396553 w396554 dc396550 ds396551 hp396552 => ?_) (fun _ _ _ _ _ z => z.elim)
                obtain ⟨rfl, rfl, hdc, hds, ht396555⟩ := hp396552
                change G _ _ _ _ _ _ _ (.ref q396545 :: _) _ _ _
                refine G_widen (cs' := 0) (sl' := 0) (by omega) (by omega) ?_
                have hm396556 : q396545 ∈ P369938 := RS_m hT396054 ht396548 (by decide)
                obtain ⟨p396558, p396559, p396560, p396561, p396562, p396563, p396564, he396557, bp396558, bp396559, bp396562, bp396563, bp396564, r396565, r396566, r396567, r396568, r396569⟩ := show rk_1 γ q396545 (F396053 q396545) from RS_o hT396054 ht396548
                have bp396560 := gB_any p396560
                have bp396561 := gB_any p396561
                refine Gp_cast hm396556 he396557 rfl dr_cX17_rename_56 wr_10_202 (gr_cast 1 rfl) ?_
                refine G_goto 67 dr_cX17_rename_59 (by decide +kernel) ?_
                have fl396572 : p396070.toInt = γ 2 q395159 := r396072
                have hp396570 : rAt γ el q369940 (g395086.toInt : Int).toNat (g396052.toInt : Int).toNat = q396545 := (rAt_r hb395179 ht395169.1 (by omega)).trans (by rw [hx396546])
                have hL396571 : (g396052.toInt : Int).toNat ≤ γ 2 (rwL γ el q369940 (g395086.toInt : Int).toNat) := by unfold rwL; rw [hb395179, ht395169.1]; omega
                have nb396573 : (g395086.toInt : Int).toNat < γ 6 (γ 1 q369940) := by omega
                refine G_astore (L' := [(6, .ref q396545), (5, .int g396052), (4, .ref q395149), (3, .int g395086), (0, .ref q369940), (1, .int p369941), (2, .int p369942)]) dr_cX17_rename_67 (Nat.le_of_ble_eq_true rfl) rfl ?_
                refine G_aload 0 dr_cX17_rename_69 rfl ?_
                have fq396574 : fI (F396053 q396545) 0 = p396558 := by rw [he396557]; rfl
                have fq396575 : fI (F396053 q396545) 5 = p396563 := by rw [he396557]; rfl
                refine Gw_callV (As := []) (gV_ok D I) (cp_1675_Row_usesA l hl0 D I P369938 F396053 q396545 p396558 p396559 p396560 p396561 p396562 p396563 p396564 hm396556 he396557 bp396558 bp396559 bp396562 bp396563 bp396564) dr_cX17_rename_71 ⟨wr_10_192, wr_1_39, wr_10_195, by decide, rfl, (Nat.le_of_ble_eq_true rfl), (Nat.le_of_ble_eq_true rfl)⟩ wr_10_193 wr_10_194 hm396556 he396557 rfl (show 0 + 0 ≤ 0 by first | omega | decide) (show 0 + 0 ≤ 0 by first | omega | decide) (Nat.le_of_ble_eq_true rfl) (fun r396579 w396580 dc396576 ds396577 hp396578 => ?_) (fun _ _ _ _ _ z => z.elim)
                obtain ⟨o396581, rfl, rfl, hdc, hds, bo396581, x396582, ht396583⟩ := hp396578
                change G _ _ _ _ _ _ _ (.int o396581 :: _) _ _ _
                refine G_widen (cs' := 0) (sl' := 0) (by omega) (by omega) ?_
                refine G_if_eq 92 dr_cX17_rename_74 (by decide +kernel) (fun hc396584 => ?_) (fun hc396584 => ?_)
                · have r396585 : o396581.toInt = 0 := gj_eq hc396584 (show Int32.toInt 0 = 0 by decide)
                  have bo396581' : gB o396581 0 0 := gB_t0 r396585
                  refine G_aload 0 dr_cX17_rename_92 rfl ?_
                  have fq396586 : fI (F396053 q396545) 6 = p396564 := by rw [he396557]; rfl
                  refine Gw_callV (As := []) (gV_ok D I) (cp_1699_Row_usesB l hl0 D I P369938 F396053 q396545 p396558 p396559 p396560 p396561 p396562 p396563 p396564 hm396556 he396557 bp396558 bp396559 bp396562 bp396563 bp396564) dr_cX17_rename_94 ⟨wr_10_196, wr_1_39, wr_10_199, by decide, rfl, (Nat.le_of_ble_eq_true rfl), (Nat.le_of_ble_eq_true rfl)⟩ wr_10_197 wr_10_198 hm396556 he396557 rfl (show 0 + 0 ≤ 0 by first | omega | decide) (show 0 + 0 ≤ 0 by first | omega | decide) (Nat.le_of_ble_eq_true rfl) (fun r396590 w396591 dc396587 ds396588 hp396589 => ?_) (fun _ _ _ _ _ z => z.elim)
                  obtain ⟨o396592, rfl, rfl, hdc, hds, bo396592, x396593, ht396594⟩ := hp396589
                  change G _ _ _ _ _ _ _ (.int o396592 :: _) _ _ _
                  refine G_widen (cs' := 0) (sl' := 0) (by omega) (by omega) ?_
                  refine G_if_eq 115 dr_cX17_rename_97 (by decide +kernel) (fun hc396595 => ?_) (fun hc396595 => ?_)
                  · have r396596 : o396592.toInt = 0 := gj_eq hc396595 (show Int32.toInt 0 = 0 by decide)
                    have bo396592' : gB o396592 0 0 := gB_t0 r396596
                    refine G_aload 0 dr_cX17_rename_115 rfl ?_
                    refine Gw_callV (As := []) (gV_ok D I) (cp_1660_Row_sets l hl0 D I P369938 F396053 q396545 p396558 p396559 p396560 p396561 p396562 p396563 p396564 hm396556 he396557 bp396558 bp396559 bp396562 bp396563 bp396564) dr_cX17_rename_117 ⟨wr_10_181, wr_1_39, wr_10_184, by decide, rfl, (Nat.le_of_ble_eq_true rfl), (Nat.le_of_ble_eq_true rfl)⟩ wr_10_182 wr_10_183 hm396556 he396557 rfl (show 0 + 0 ≤ 0 by first | omega | decide) (show 0 + 0 ≤ 0 by first | omega | decide) (Nat.le_of_ble_eq_true rfl) (fun r396600 w396601 dc396597 ds396598 hp396599 => ?_) (fun _ _ _ _ _ z => z.elim)
                    obtain ⟨o396602, rfl, rfl, hdc, hds, bo396602, ht396603⟩ := hp396599
                    change G _ _ _ _ _ _ _ (.int o396602 :: _) _ _ _
                    refine G_widen (cs' := 0) (sl' := 0) (by omega) (by omega) ?_
                    refine G_if_eq 138 dr_cX17_rename_120 (by decide +kernel) (fun hc396604 => ?_) (fun hc396604 => ?_)
                    · have r396605 : o396602.toInt = 0 := gj_eq hc396604 (show Int32.toInt 0 = 0 by decide)
                      have bo396602' : gB o396602 0 0 := gB_t0 r396605
                      obtain ⟨z396606, hz396606⟩ : ∃ z : Int32, z = g396052 + Int32.ofInt 1 := ⟨_, rfl⟩
                      have ez396606 : z396606.toInt = g396052.toInt + 1 := gI_inc hz396606 (by decide) bg396052'' (by decide) (by decide)
                      have bz396606 : gB z396606 1 1000000 := ⟨by omega, by omega⟩
                      refine G_iinc (L' := [(5, .int z396606), (6, .ref q396545), (4, .ref q395149), (3, .int g395086), (0, .ref q369940), (1, .int p369941), (2, .int p369942)]) z396606 1 dr_cX17_rename_138 rfl hz396606.symm (Nat.le_of_ble_eq_true rfl) rfl ?_
                      refine G_goto 20 dr_cX17_rename_141 (by decide +kernel) ?_
                      refine G_lv (L' := [(5, .int z396606), (4, .ref q395149), (3, .int g395086), (0, .ref q369940), (1, .int p369941), (2, .int p369942)]) [0, 2, 3, 4, 5, 6] rfl ?_
                      exact ih20_396058 F396053 z396606 (gB_w bz396606 (by decide) (by decide)) hT396054 hs396055 x396056 x396057 x396058 (fun k e1 ht => kt20_396059 k e1 (fun R c1 c2 c3 c4 c5 c6 c7 c8 c9 c10 c11 c12 c13 c14 c15 c16 c17 c18 c19 c20 c21 c22 c23 c24 c25 c26 c27 c28 c29 c30 c31 c32 c33 c34 c35 c36 c37 c38 c39 c40 c41 c42 c43 c44 c45 c46 c47 c48 c49 c50 c51 c52 c53 c54 c55 => c29 F396053 g396052 q395159 p396070 q396545 p396558 p396563 o396581 p396564 o396592 o396602 z396606 k e1 bg396052 hT396054 hs396055 x396056 x396057 x396058 fq396066 fq396077 fq396078 r396088 fq396089 r396533 hx396546 ht396555 fq396574 fq396575 bo396581 ht396583 r396585 fq396586 bo396592 ht396594 r396596 bo396602 ht396603 r396605 ez396606 (ht R c1 c2 c3 c4 c5 c6 c7 c8 c9 c10 c11 c12 c13 c14 c15 c16 c17 c18 c19 c20 c21 c22 c23 c24 c25 c26 c27 c28 c29 c30 c31 c32 c33 c34 c35 c36 c37 c38 c39 c40 c41 c42 c43 c44 c45 c46 c47 c48 c49 c50 c51 c52 c53 c54 c55))) (mz_up ez396606 (Int.le_trans bg396052''.2 (by decide)) hm20_396058)
                    · have r396607 : o396602.toInt ≠ 0 := gj_neq hc396604 (show Int32.toInt 0 = 0 by decide)
                      have bo396602' : gB o396602 1 1 := gB_t1 bo396602 r396607
                      refine G_aload 0 dr_cX17_rename_123 rfl ?_
                      have fq396608 : fI (F396053 q396545) 1 = p396559 := by rw [he396557]; rfl
                      refine Gp_get 1 hm396556 he396557 dr_cX17_rename_125 (gk_X15 D I) (Nat.le_of_ble_eq_true rfl) wr_9_182 rfl ?_
                      refine G_iload_n 5 dr_cX17_rename_128 rfl ?_
                      refine G_icmp_ne 138 dr_cX17_rename_129 (by decide +kernel) (fun hc396609 => ?_) (fun hc396609 => ?_)
                      · have r396610 : p396559.toInt ≠ p369941.toInt := gC_ne hc396609
                        obtain ⟨z396611, hz396611⟩ : ∃ z : Int32, z = g396052 + Int32.ofInt 1 := ⟨_, rfl⟩
                        have ez396611 : z396611.toInt = g396052.toInt + 1 := gI_inc hz396611 (by decide) bg396052'' (by decide) (by decide)
                        have bz396611 : gB z396611 1 1000000 := ⟨by omega, by omega⟩
                        refine G_iinc (L' := [(5, .int z396611), (6, .ref q396545), (4, .ref q395149), (3, .int g395086), (0, .ref q369940), (1, .int p369941), (2, .int p369942)]) z396611 1 dr_cX17_rename_138 rfl hz396611.symm (Nat.le_of_ble_eq_true rfl) rfl ?_
                        refine G_goto 20 dr_cX17_rename_141 (by decide +kernel) ?_
                        refine G_lv (L' := [(5, .int z396611), (4, .ref q395149), (3, .int g395086), (0, .ref q369940), (1, .int p369941), (2, .int p369942)]) [0, 2, 3, 4, 5, 6] rfl ?_
                        exact ih20_396058 F396053 z396611 (gB_w bz396611 (by decide) (by decide)) hT396054 hs396055 x396056 x396057 x396058 (fun k e1 ht => kt20_396059 k e1 (fun R c1 c2 c3 c4 c5 c6 c7 c8 c9 c10 c11 c12 c13 c14 c15 c16 c17 c18 c19 c20 c21 c22 c23 c24 c25 c26 c27 c28 c29 c30 c31 c32 c33 c34 c35 c36 c37 c38 c39 c40 c41 c42 c43 c44 c45 c46 c47 c48 c49 c50 c51 c52 c53 c54 c55 => c30 F396053 g396052 q395159 p396070 q396545 p396558 p396563 o396581 p396564 o396592 o396602 p396559 z396611 k e1 bg396052 hT396054 hs396055 x396056 x396057 x396058 fq396066 fq396077 fq396078 r396088 fq396089 r396533 hx396546 ht396555 fq396574 fq396575 bo396581 ht396583 r396585 fq396586 bo396592 ht396594 r396596 bo396602 ht396603 r396607 fq396608 r396610 ez396611 (ht R c1 c2 c3 c4 c5 c6 c7 c8 c9 c10 c11 c12 c13 c14 c15 c16 c17 c18 c19 c20 c21 c22 c23 c24 c25 c26 c27 c28 c29 c30 c31 c32 c33 c34 c35 c36 c37 c38 c39 c40 c41 c42 c43 c44 c45 c46 c47 c48 c49 c50 c51 c52 c53 c54 c55))) (mz_up ez396611 (Int.le_trans bg396052''.2 (by decide)) hm20_396058)
                      · have r396612 : p396559.toInt = p369941.toInt := gC_eq hc396609
                        refine G_aload 0 dr_cX17_rename_132 rfl ?_
                        refine G_iload_n 6 dr_cX17_rename_134 rfl ?_
                        refine Gp_put 1 hm396556 he396557 dr_cX17_rename_135 (gk_X15 D I) (Nat.le_of_ble_eq_true rfl) wr_9_182 rfl rfl rfl (Nat.le_of_ble_eq_true rfl) (fun F396613 e396614 n396615 => ?_)
                        have he396616 : F396613 q369940 = .inr (18, [.ref q395098, .ref q395099, .int p395100, .int p395101]) := (n396615 q369940 (rn_oo he396061 he396557 (by decide))).trans he396061
                        have he396617 : F396613 q395098 = .inr (4, [.int p395130, .ref q395132, .int p395131]) := (n396615 q395098 (rn_oo he396062 he396557 (by decide))).trans he396062
                        have he396618 : F396613 q395132 = .inl (I (.object "java/lang/Object"), n395146, .inr (.inr (.inr (.inr f395147)))) := (n396615 q395132 (rn_ao he396063 he396557)).trans he396063
                        have he396619 : F396613 q395149 = .inr (17, [.ref q395159, .ref q395160, .int p395161, .int p395162]) := (n396615 q395149 (rn_oo he396064 he396557 (by decide))).trans he396064
                        have he396620 : F396613 q395159 = .inr (4, [.int p396069, .ref q396071, .int p396070]) := (n396615 q395159 (rn_oo he396068 he396557 (by decide))).trans he396068
                        have he396621 : F396613 q396071 = .inl (I (.object "java/lang/Object"), n396542, .inr (.inr (.inr (.inr f396543)))) := (n396615 q396071 (rn_ao r396536 he396557)).trans r396536
                        have he396622 : F396613 q396545 = .inr (20, [.int p396558, .int p369942, .int p396560, .int p396561, .int p396562, .int p396563, .int p396564]) := e396614
                        have hs396623 : rStr γ [1] F369939 F396613 := rStr_pu2 hs396055 n396615 ht396548 (by decide)
                        have fs396624 : rFs γ (γ 1 q369940) F369939 F396613 := rFs_put x396058 n396615 ((show γ 1 q396545 = γ 1 q395159 from ht396549).trans ((show γ 1 q395159 = γ 1 q395149 from ht395164).trans ((show γ 1 q395149 = γ 1 q395098 from ht395156).trans (show γ 1 q395098 = γ 1 q369940 from ht395103))))
                        have fk396625 : rFk [1] γ F369939 F396613 := rFk_put x396057 n396615 ht396548 (by decide)
                        have fq396626 : F396613 q396545 = cF (F396053 q396545) 1 (.int p369942) := by rw [he396622, he396557]; rfl
                        obtain ⟨z396627, hz396627⟩ : ∃ z : Int32, z = g396052 + Int32.ofInt 1 := ⟨_, rfl⟩
                        have ez396627 : z396627.toInt = g396052.toInt + 1 := gI_inc hz396627 (by decide) bg396052'' (by decide) (by decide)
                        have bz396627 : gB z396627 1 1000000 := ⟨by omega, by omega⟩
                        refine G_iinc (L' := [(5, .int z396627), (6, .ref q396545), (4, .ref q395149), (3, .int g395086), (0, .ref q369940), (1, .int p369941), (2, .int p369942)]) z396627 1 dr_cX17_rename_138 rfl hz396627.symm (Nat.le_of_ble_eq_true rfl) rfl ?_
                        refine G_goto 20 dr_cX17_rename_141 (by decide +kernel) ?_
                        have hT396628 : RS D I P369938 F396613 γ el := RS_set hT396054 n396615 ht396548 (by decide) ⟨p396558, p369942, p396560, p396561, p396562, p396563, p396564, he396622, bp396558, bp369942, bp396562, bp396563, bp396564, r396565, r396566, r396567, r396568, r396569⟩
                        refine G_lv (L' := [(5, .int z396627), (4, .ref q395149), (3, .int g395086), (0, .ref q369940), (1, .int p369941), (2, .int p369942)]) [0, 2, 3, 4, 5, 6] rfl ?_
                        exact ih20_396058 F396613 z396627 (gB_w bz396627 (by decide) (by decide)) hT396628 hs396623 (fun N hv hu hp => rPl_put hT396054 htq369940 rfl (x396056 N hv hu hp) n396615 hp396570 nb396573 hL396571 (fun _ _ _ _ z => z) (rNx_ren he396557 he396622 hu hv (Or.inl rfl) (Or.inl rfl) (Or.inr ⟨rfl, by first | assumption | omega⟩) (by rw [← hp396570]; exact x396056 N hv hu hp _ nb396573 _ hL396571))) fk396625 fs396624 (fun k e1 ht => kt20_396059 k e1 (fun R c1 c2 c3 c4 c5 c6 c7 c8 c9 c10 c11 c12 c13 c14 c15 c16 c17 c18 c19 c20 c21 c22 c23 c24 c25 c26 c27 c28 c29 c30 c31 c32 c33 c34 c35 c36 c37 c38 c39 c40 c41 c42 c43 c44 c45 c46 c47 c48 c49 c50 c51 c52 c53 c54 c55 => c31 F396053 g396052 q395159 p396070 q396545 p396558 p396563 o396581 p396564 o396592 o396602 p396559 F396613 z396627 k e1 bg396052 hT396054 hs396055 x396056 x396057 x396058 fq396066 fq396077 fq396078 r396088 fq396089 r396533 hx396546 ht396555 fq396574 fq396575 bo396581 ht396583 r396585 fq396586 bo396592 ht396594 r396596 bo396602 ht396603 r396607 fq396608 r396612 n396615 fq396626 ez396627 (ht R c1 c2 c3 c4 c5 c6 c7 c8 c9 c10 c11 c12 c13 c14 c15 c16 c17 c18 c19 c20 c21 c22 c23 c24 c25 c26 c27 c28 c29 c30 c31 c32 c33 c34 c35 c36 c37 c38 c39 c40 c41 c42 c43 c44 c45 c46 c47 c48 c49 c50 c51 c52 c53 c54 c55))) (mz_up ez396627 (Int.le_trans bg396052''.2 (by decide)) hm20_396058)
                  · have r396630 : o396592.toInt ≠ 0 := gj_neq hc396595 (show Int32.toInt 0 = 0 by decide)
                    have bo396592' : gB o396592 1 1 := gB_t1 bo396592 r396630
                    refine G_aload 0 dr_cX17_rename_100 rfl ?_
                    have fq396631 : fI (F396053 q396545) 3 = p396561 := by rw [he396557]; rfl
                    refine Gp_get 3 hm396556 he396557 dr_cX17_rename_102 (gk_X15 D I) (Nat.le_of_ble_eq_true rfl) wr_9_190 rfl ?_
                    refine G_iload_n 5 dr_cX17_rename_105 rfl ?_
                    refine G_icmp_ne 115 dr_cX17_rename_106 (by decide +kernel) (fun hc396632 => ?_) (fun hc396632 => ?_)
                    · have r396633 : p396561.toInt ≠ p369941.toInt := gC_ne hc396632
                      refine G_aload 0 dr_cX17_rename_115 rfl ?_
                      refine Gw_callV (As := []) (gV_ok D I) (cp_1660_Row_sets l hl0 D I P369938 F396053 q396545 p396558 p396559 p396560 p396561 p396562 p396563 p396564 hm396556 he396557 bp396558 bp396559 bp396562 bp396563 bp396564) dr_cX17_rename_117 ⟨wr_10_181, wr_1_39, wr_10_184, by decide, rfl, (Nat.le_of_ble_eq_true rfl), (Nat.le_of_ble_eq_true rfl)⟩ wr_10_182 wr_10_183 hm396556 he396557 rfl (show 0 + 0 ≤ 0 by first | omega | decide) (show 0 + 0 ≤ 0 by first | omega | decide) (Nat.le_of_ble_eq_true rfl) (fun r396637 w396638 dc396634 ds396635 hp396636 => ?_) (fun _ _ _ _ _ z => z.elim)
                      obtain ⟨o396639, rfl, rfl, hdc, hds, bo396639, ht396640⟩ := hp396636
                      change G _ _ _ _ _ _ _ (.int o396639 :: _) _ _ _
                      refine G_widen (cs' := 0) (sl' := 0) (by omega) (by omega) ?_
                      refine G_if_eq 138 dr_cX17_rename_120 (by decide +kernel) (fun hc396641 => ?_) (fun hc396641 => ?_)
                      · have r396642 : o396639.toInt = 0 := gj_eq hc396641 (show Int32.toInt 0 = 0 by decide)
                        have bo396639' : gB o396639 0 0 := gB_t0 r396642
                        obtain ⟨z396643, hz396643⟩ : ∃ z : Int32, z = g396052 + Int32.ofInt 1 := ⟨_, rfl⟩
                        have ez396643 : z396643.toInt = g396052.toInt + 1 := gI_inc hz396643 (by decide) bg396052'' (by decide) (by decide)
                        have bz396643 : gB z396643 1 1000000 := ⟨by omega, by omega⟩
                        refine G_iinc (L' := [(5, .int z396643), (6, .ref q396545), (4, .ref q395149), (3, .int g395086), (0, .ref q369940), (1, .int p369941), (2, .int p369942)]) z396643 1 dr_cX17_rename_138 rfl hz396643.symm (Nat.le_of_ble_eq_true rfl) rfl ?_
                        refine G_goto 20 dr_cX17_rename_141 (by decide +kernel) ?_
                        refine G_lv (L' := [(5, .int z396643), (4, .ref q395149), (3, .int g395086), (0, .ref q369940), (1, .int p369941), (2, .int p369942)]) [0, 2, 3, 4, 5, 6] rfl ?_
                        exact ih20_396058 F396053 z396643 (gB_w bz396643 (by decide) (by decide)) hT396054 hs396055 x396056 x396057 x396058 (fun k e1 ht => kt20_396059 k e1 (fun R c1 c2 c3 c4 c5 c6 c7 c8 c9 c10 c11 c12 c13 c14 c15 c16 c17 c18 c19 c20 c21 c22 c23 c24 c25 c26 c27 c28 c29 c30 c31 c32 c33 c34 c35 c36 c37 c38 c39 c40 c41 c42 c43 c44 c45 c46 c47 c48 c49 c50 c51 c52 c53 c54 c55 => c32 F396053 g396052 q395159 p396070 q396545 p396558 p396563 o396581 p396564 o396592 p396561 o396639 z396643 k e1 bg396052 hT396054 hs396055 x396056 x396057 x396058 fq396066 fq396077 fq396078 r396088 fq396089 r396533 hx396546 ht396555 fq396574 fq396575 bo396581 ht396583 r396585 fq396586 bo396592 ht396594 r396630 fq396631 r396633 bo396639 ht396640 r396642 ez396643 (ht R c1 c2 c3 c4 c5 c6 c7 c8 c9 c10 c11 c12 c13 c14 c15 c16 c17 c18 c19 c20 c21 c22 c23 c24 c25 c26 c27 c28 c29 c30 c31 c32 c33 c34 c35 c36 c37 c38 c39 c40 c41 c42 c43 c44 c45 c46 c47 c48 c49 c50 c51 c52 c53 c54 c55))) (mz_up ez396643 (Int.le_trans bg396052''.2 (by decide)) hm20_396058)
                      · have r396644 : o396639.toInt ≠ 0 := gj_neq hc396641 (show Int32.toInt 0 = 0 by decide)
                        have bo396639' : gB o396639 1 1 := gB_t1 bo396639 r396644
                        refine G_aload 0 dr_cX17_rename_123 rfl ?_
                        have fq396645 : fI (F396053 q396545) 1 = p396559 := by rw [he396557]; rfl
                        refine Gp_get 1 hm396556 he396557 dr_cX17_rename_125 (gk_X15 D I) (Nat.le_of_ble_eq_true rfl) wr_9_182 rfl ?_
                        refine G_iload_n 5 dr_cX17_rename_128 rfl ?_
                        refine G_icmp_ne 138 dr_cX17_rename_129 (by decide +kernel) (fun hc396646 => ?_) (fun hc396646 => ?_)
                        · have r396647 : p396559.toInt ≠ p369941.toInt := gC_ne hc396646
                          obtain ⟨z396648, hz396648⟩ : ∃ z : Int32, z = g396052 + Int32.ofInt 1 := ⟨_, rfl⟩
                          have ez396648 : z396648.toInt = g396052.toInt + 1 := gI_inc hz396648 (by decide) bg396052'' (by decide) (by decide)
                          have bz396648 : gB z396648 1 1000000 := ⟨by omega, by omega⟩
                          refine G_iinc (L' := [(5, .int z396648), (6, .ref q396545), (4, .ref q395149), (3, .int g395086), (0, .ref q369940), (1, .int p369941), (2, .int p369942)]) z396648 1 dr_cX17_rename_138 rfl hz396648.symm (Nat.le_of_ble_eq_true rfl) rfl ?_
                          refine G_goto 20 dr_cX17_rename_141 (by decide +kernel) ?_
                          refine G_lv (L' := [(5, .int z396648), (4, .ref q395149), (3, .int g395086), (0, .ref q369940), (1, .int p369941), (2, .int p369942)]) [0, 2, 3, 4, 5, 6] rfl ?_
                          exact ih20_396058 F396053 z396648 (gB_w bz396648 (by decide) (by decide)) hT396054 hs396055 x396056 x396057 x396058 (fun k e1 ht => kt20_396059 k e1 (fun R c1 c2 c3 c4 c5 c6 c7 c8 c9 c10 c11 c12 c13 c14 c15 c16 c17 c18 c19 c20 c21 c22 c23 c24 c25 c26 c27 c28 c29 c30 c31 c32 c33 c34 c35 c36 c37 c38 c39 c40 c41 c42 c43 c44 c45 c46 c47 c48 c49 c50 c51 c52 c53 c54 c55 => c33 F396053 g396052 q395159 p396070 q396545 p396558 p396563 o396581 p396564 o396592 p396561 o396639 p396559 z396648 k e1 bg396052 hT396054 hs396055 x396056 x396057 x396058 fq396066 fq396077 fq396078 r396088 fq396089 r396533 hx396546 ht396555 fq396574 fq396575 bo396581 ht396583 r396585 fq396586 bo396592 ht396594 r396630 fq396631 r396633 bo396639 ht396640 r396644 fq396645 r396647 ez396648 (ht R c1 c2 c3 c4 c5 c6 c7 c8 c9 c10 c11 c12 c13 c14 c15 c16 c17 c18 c19 c20 c21 c22 c23 c24 c25 c26 c27 c28 c29 c30 c31 c32 c33 c34 c35 c36 c37 c38 c39 c40 c41 c42 c43 c44 c45 c46 c47 c48 c49 c50 c51 c52 c53 c54 c55))) (mz_up ez396648 (Int.le_trans bg396052''.2 (by decide)) hm20_396058)
                        · have r396649 : p396559.toInt = p369941.toInt := gC_eq hc396646
                          refine G_aload 0 dr_cX17_rename_132 rfl ?_
                          refine G_iload_n 6 dr_cX17_rename_134 rfl ?_
                          refine Gp_put 1 hm396556 he396557 dr_cX17_rename_135 (gk_X15 D I) (Nat.le_of_ble_eq_true rfl) wr_9_182 rfl rfl rfl (Nat.le_of_ble_eq_true rfl) (fun F396650 e396651 n396652 => ?_)
                          have he396653 : F396650 q369940 = .inr (18, [.ref q395098, .ref q395099, .int p395100, .int p395101]) := (n396652 q369940 (rn_oo he396061 he396557 (by decide))).trans he396061
                          have he396654 : F396650 q395098 = .inr (4, [.int p395130, .ref q395132, .int p395131]) := (n396652 q395098 (rn_oo he396062 he396557 (by decide))).trans he396062
                          have he396655 : F396650 q395132 = .inl (I (.object "java/lang/Object"), n395146, .inr (.inr (.inr (.inr f395147)))) := (n396652 q395132 (rn_ao he396063 he396557)).trans he396063
                          have he396656 : F396650 q395149 = .inr (17, [.ref q395159, .ref q395160, .int p395161, .int p395162]) := (n396652 q395149 (rn_oo he396064 he396557 (by decide))).trans he396064
                          have he396657 : F396650 q395159 = .inr (4, [.int p396069, .ref q396071, .int p396070]) := (n396652 q395159 (rn_oo he396068 he396557 (by decide))).trans he396068
                          have he396658 : F396650 q396071 = .inl (I (.object "java/lang/Object"), n396542, .inr (.inr (.inr (.inr f396543)))) := (n396652 q396071 (rn_ao r396536 he396557)).trans r396536
                          have he396659 : F396650 q396545 = .inr (20, [.int p396558, .int p369942, .int p396560, .int p396561, .int p396562, .int p396563, .int p396564]) := e396651
                          have hs396660 : rStr γ [1] F369939 F396650 := rStr_pu2 hs396055 n396652 ht396548 (by decide)
                          have fs396661 : rFs γ (γ 1 q369940) F369939 F396650 := rFs_put x396058 n396652 ((show γ 1 q396545 = γ 1 q395159 from ht396549).trans ((show γ 1 q395159 = γ 1 q395149 from ht395164).trans ((show γ 1 q395149 = γ 1 q395098 from ht395156).trans (show γ 1 q395098 = γ 1 q369940 from ht395103))))
                          have fk396662 : rFk [1] γ F369939 F396650 := rFk_put x396057 n396652 ht396548 (by decide)
                          have fq396663 : F396650 q396545 = cF (F396053 q396545) 1 (.int p369942) := by rw [he396659, he396557]; rfl
                          obtain ⟨z396664, hz396664⟩ : ∃ z : Int32, z = g396052 + Int32.ofInt 1 := ⟨_, rfl⟩
                          have ez396664 : z396664.toInt = g396052.toInt + 1 := gI_inc hz396664 (by decide) bg396052'' (by decide) (by decide)
                          have bz396664 : gB z396664 1 1000000 := ⟨by omega, by omega⟩
                          refine G_iinc (L' := [(5, .int z396664), (6, .ref q396545), (4, .ref q395149), (3, .int g395086), (0, .ref q369940), (1, .int p369941), (2, .int p369942)]) z396664 1 dr_cX17_rename_138 rfl hz396664.symm (Nat.le_of_ble_eq_true rfl) rfl ?_
                          refine G_goto 20 dr_cX17_rename_141 (by decide +kernel) ?_
                          have hT396665 : RS D I P369938 F396650 γ el := RS_set hT396054 n396652 ht396548 (by decide) ⟨p396558, p369942, p396560, p396561, p396562, p396563, p396564, he396659, bp396558, bp369942, bp396562, bp396563, bp396564, r396565, r396566, r396567, r396568, r396569⟩
                          refine G_lv (L' := [(5, .int z396664), (4, .ref q395149), (3, .int g395086), (0, .ref q369940), (1, .int p369941), (2, .int p369942)]) [0, 2, 3, 4, 5, 6] rfl ?_
                          exact ih20_396058 F396650 z396664 (gB_w bz396664 (by decide) (by decide)) hT396665 hs396660 (fun N hv hu hp => rPl_put hT396054 htq369940 rfl (x396056 N hv hu hp) n396652 hp396570 nb396573 hL396571 (fun _ _ _ _ z => z) (rNx_ren he396557 he396659 hu hv (Or.inl rfl) (Or.inl rfl) (Or.inr ⟨rfl, by first | assumption | omega⟩) (by rw [← hp396570]; exact x396056 N hv hu hp _ nb396573 _ hL396571))) fk396662 fs396661 (fun k e1 ht => kt20_396059 k e1 (fun R c1 c2 c3 c4 c5 c6 c7 c8 c9 c10 c11 c12 c13 c14 c15 c16 c17 c18 c19 c20 c21 c22 c23 c24 c25 c26 c27 c28 c29 c30 c31 c32 c33 c34 c35 c36 c37 c38 c39 c40 c41 c42 c43 c44 c45 c46 c47 c48 c49 c50 c51 c52 c53 c54 c55 => c34 F396053 g396052 q395159 p396070 q396545 p396558 p396563 o396581 p396564 o396592 p396561 o396639 p396559 F396650 z396664 k e1 bg396052 hT396054 hs396055 x396056 x396057 x396058 fq396066 fq396077 fq396078 r396088 fq396089 r396533 hx396546 ht396555 fq396574 fq396575 bo396581 ht396583 r396585 fq396586 bo396592 ht396594 r396630 fq396631 r396633 bo396639 ht396640 r396644 fq396645 r396649 n396652 fq396663 ez396664 (ht R c1 c2 c3 c4 c5 c6 c7 c8 c9 c10 c11 c12 c13 c14 c15 c16 c17 c18 c19 c20 c21 c22 c23 c24 c25 c26 c27 c28 c29 c30 c31 c32 c33 c34 c35 c36 c37 c38 c39 c40 c41 c42 c43 c44 c45 c46 c47 c48 c49 c50 c51 c52 c53 c54 c55))) (mz_up ez396664 (Int.le_trans bg396052''.2 (by decide)) hm20_396058)
                    · have r396667 : p396561.toInt = p369941.toInt := gC_eq hc396632
                      have bp396561' : gB p396561 0 1999 := ⟨by omega, by omega⟩
                      refine G_aload 0 dr_cX17_rename_109 rfl ?_
                      refine G_iload_n 6 dr_cX17_rename_111 rfl ?_
                      refine Gp_put 3 hm396556 he396557 dr_cX17_rename_112 (gk_X15 D I) (Nat.le_of_ble_eq_true rfl) wr_9_190 rfl rfl rfl (Nat.le_of_ble_eq_true rfl) (fun F396668 e396669 n396670 => ?_)
                      have he396671 : F396668 q369940 = .inr (18, [.ref q395098, .ref q395099, .int p395100, .int p395101]) := (n396670 q369940 (rn_oo he396061 he396557 (by decide))).trans he396061
                      have he396672 : F396668 q395098 = .inr (4, [.int p395130, .ref q395132, .int p395131]) := (n396670 q395098 (rn_oo he396062 he396557 (by decide))).trans he396062
                      have he396673 : F396668 q395132 = .inl (I (.object "java/lang/Object"), n395146, .inr (.inr (.inr (.inr f395147)))) := (n396670 q395132 (rn_ao he396063 he396557)).trans he396063
                      have he396674 : F396668 q395149 = .inr (17, [.ref q395159, .ref q395160, .int p395161, .int p395162]) := (n396670 q395149 (rn_oo he396064 he396557 (by decide))).trans he396064
                      have he396675 : F396668 q395159 = .inr (4, [.int p396069, .ref q396071, .int p396070]) := (n396670 q395159 (rn_oo he396068 he396557 (by decide))).trans he396068
                      have he396676 : F396668 q396071 = .inl (I (.object "java/lang/Object"), n396542, .inr (.inr (.inr (.inr f396543)))) := (n396670 q396071 (rn_ao r396536 he396557)).trans r396536
                      have he396677 : F396668 q396545 = .inr (20, [.int p396558, .int p396559, .int p396560, .int p369942, .int p396562, .int p396563, .int p396564]) := e396669
                      have hs396678 : rStr γ [1] F369939 F396668 := rStr_pu2 hs396055 n396670 ht396548 (by decide)
                      have fs396679 : rFs γ (γ 1 q369940) F369939 F396668 := rFs_put x396058 n396670 ((show γ 1 q396545 = γ 1 q395159 from ht396549).trans ((show γ 1 q395159 = γ 1 q395149 from ht395164).trans ((show γ 1 q395149 = γ 1 q395098 from ht395156).trans (show γ 1 q395098 = γ 1 q369940 from ht395103))))
                      have fk396680 : rFk [1] γ F369939 F396668 := rFk_put x396057 n396670 ht396548 (by decide)
                      have fq396681 : F396668 q396545 = cF (F396053 q396545) 3 (.int p369942) := by rw [he396677, he396557]; rfl
                      refine G_aload 0 dr_cX17_rename_115 rfl ?_
                      have hT396682 : RS D I P369938 F396668 γ el := RS_set hT396054 n396670 ht396548 (by decide) ⟨p396558, p396559, p396560, p369942, p396562, p396563, p396564, he396677, bp396558, bp396559, bp396562, bp396563, bp396564, r396565, r396566, (Or.inr bp369942), r396568, r396569⟩
                      have fq396684 : fI (F396668 q396545) 0 = p396558 := by rw [he396677]; rfl
                      refine Gw_callV (As := []) (gV_ok D I) (cp_1660_Row_sets l hl0 D I P369938 F396668 q396545 p396558 p396559 p396560 p369942 p396562 p396563 p396564 hm396556 he396677 bp396558 bp396559 bp396562 bp396563 bp396564) dr_cX17_rename_117 ⟨wr_10_181, wr_1_39, wr_10_184, by decide, rfl, (Nat.le_of_ble_eq_true rfl), (Nat.le_of_ble_eq_true rfl)⟩ wr_10_182 wr_10_183 hm396556 he396677 rfl (show 0 + 0 ≤ 0 by first | omega | decide) (show 0 + 0 ≤ 0 by first | omega | decide) (Nat.le_of_ble_eq_true rfl) (fun r396688 w396689 dc396685 ds396686 hp396687 => ?_) (fun _ _ _ _ _ z => z.elim)
                      obtain ⟨o396690, rfl, rfl, hdc, hds, bo396690, ht396691⟩ := hp396687
                      change G _ _ _ _ _ _ _ (.int o396690 :: _) _ _ _
                      refine G_widen (cs' := 0) (sl' := 0) (by omega) (by omega) ?_
                      refine G_if_eq 138 dr_cX17_rename_120 (by decide +kernel) (fun hc396692 => ?_) (fun hc396692 => ?_)
                      · have r396693 : o396690.toInt = 0 := gj_eq hc396692 (show Int32.toInt 0 = 0 by decide)
                        have bo396690' : gB o396690 0 0 := gB_t0 r396693
                        obtain ⟨z396694, hz396694⟩ : ∃ z : Int32, z = g396052 + Int32.ofInt 1 := ⟨_, rfl⟩
                        have ez396694 : z396694.toInt = g396052.toInt + 1 := gI_inc hz396694 (by decide) bg396052'' (by decide) (by decide)
                        have bz396694 : gB z396694 1 1000000 := ⟨by omega, by omega⟩
                        refine G_iinc (L' := [(5, .int z396694), (6, .ref q396545), (4, .ref q395149), (3, .int g395086), (0, .ref q369940), (1, .int p369941), (2, .int p369942)]) z396694 1 dr_cX17_rename_138 rfl hz396694.symm (Nat.le_of_ble_eq_true rfl) rfl ?_
                        refine G_goto 20 dr_cX17_rename_141 (by decide +kernel) ?_
                        refine G_lv (L' := [(5, .int z396694), (4, .ref q395149), (3, .int g395086), (0, .ref q369940), (1, .int p369941), (2, .int p369942)]) [0, 2, 3, 4, 5, 6] rfl ?_
                        exact ih20_396058 F396668 z396694 (gB_w bz396694 (by decide) (by decide)) hT396682 hs396678 (fun N hv hu hp => rPl_put hT396054 htq369940 rfl (x396056 N hv hu hp) n396670 hp396570 nb396573 hL396571 (fun _ _ _ _ z => z) (rNx_ren he396557 he396677 hu hv (Or.inl rfl) (Or.inr rfl) (Or.inl rfl) (by rw [← hp396570]; exact x396056 N hv hu hp _ nb396573 _ hL396571))) fk396680 fs396679 (fun k e1 ht => kt20_396059 k e1 (fun R c1 c2 c3 c4 c5 c6 c7 c8 c9 c10 c11 c12 c13 c14 c15 c16 c17 c18 c19 c20 c21 c22 c23 c24 c25 c26 c27 c28 c29 c30 c31 c32 c33 c34 c35 c36 c37 c38 c39 c40 c41 c42 c43 c44 c45 c46 c47 c48 c49 c50 c51 c52 c53 c54 c55 => c35 F396053 g396052 q395159 p396070 q396545 p396558 p396563 o396581 p396564 o396592 p396561 F396668 o396690 z396694 k e1 bg396052 hT396054 hs396055 x396056 x396057 x396058 fq396066 fq396077 fq396078 r396088 fq396089 r396533 hx396546 ht396555 fq396574 fq396575 bo396581 ht396583 r396585 fq396586 bo396592 ht396594 r396630 fq396631 r396667 n396670 fq396681 fq396684 bo396690 ht396691 r396693 ez396694 (ht R c1 c2 c3 c4 c5 c6 c7 c8 c9 c10 c11 c12 c13 c14 c15 c16 c17 c18 c19 c20 c21 c22 c23 c24 c25 c26 c27 c28 c29 c30 c31 c32 c33 c34 c35 c36 c37 c38 c39 c40 c41 c42 c43 c44 c45 c46 c47 c48 c49 c50 c51 c52 c53 c54 c55))) (mz_up ez396694 (Int.le_trans bg396052''.2 (by decide)) hm20_396058)
                      · have r396695 : o396690.toInt ≠ 0 := gj_neq hc396692 (show Int32.toInt 0 = 0 by decide)
                        have bo396690' : gB o396690 1 1 := gB_t1 bo396690 r396695
                        refine G_aload 0 dr_cX17_rename_123 rfl ?_
                        have fq396696 : fI (F396668 q396545) 1 = p396559 := by rw [he396677]; rfl
                        refine Gp_get 1 hm396556 he396677 dr_cX17_rename_125 (gk_X15 D I) (Nat.le_of_ble_eq_true rfl) wr_9_182 rfl ?_
                        refine G_iload_n 5 dr_cX17_rename_128 rfl ?_
                        refine G_icmp_ne 138 dr_cX17_rename_129 (by decide +kernel) (fun hc396697 => ?_) (fun hc396697 => ?_)
                        · have r396698 : p396559.toInt ≠ p369941.toInt := gC_ne hc396697
                          obtain ⟨z396699, hz396699⟩ : ∃ z : Int32, z = g396052 + Int32.ofInt 1 := ⟨_, rfl⟩
                          have ez396699 : z396699.toInt = g396052.toInt + 1 := gI_inc hz396699 (by decide) bg396052'' (by decide) (by decide)
                          have bz396699 : gB z396699 1 1000000 := ⟨by omega, by omega⟩
                          refine G_iinc (L' := [(5, .int z396699), (6, .ref q396545), (4, .ref q395149), (3, .int g395086), (0, .ref q369940), (1, .int p369941), (2, .int p369942)]) z396699 1 dr_cX17_rename_138 rfl hz396699.symm (Nat.le_of_ble_eq_true rfl) rfl ?_
                          refine G_goto 20 dr_cX17_rename_141 (by decide +kernel) ?_
                          refine G_lv (L' := [(5, .int z396699), (4, .ref q395149), (3, .int g395086), (0, .ref q369940), (1, .int p369941), (2, .int p369942)]) [0, 2, 3, 4, 5, 6] rfl ?_
                          exact ih20_396058 F396668 z396699 (gB_w bz396699 (by decide) (by decide)) hT396682 hs396678 (fun N hv hu hp => rPl_put hT396054 htq369940 rfl (x396056 N hv hu hp) n396670 hp396570 nb396573 hL396571 (fun _ _ _ _ z => z) (rNx_ren he396557 he396677 hu hv (Or.inl rfl) (Or.inr rfl) (Or.inl rfl) (by rw [← hp396570]; exact x396056 N hv hu hp _ nb396573 _ hL396571))) fk396680 fs396679 (fun k e1 ht => kt20_396059 k e1 (fun R c1 c2 c3 c4 c5 c6 c7 c8 c9 c10 c11 c12 c13 c14 c15 c16 c17 c18 c19 c20 c21 c22 c23 c24 c25 c26 c27 c28 c29 c30 c31 c32 c33 c34 c35 c36 c37 c38 c39 c40 c41 c42 c43 c44 c45 c46 c47 c48 c49 c50 c51 c52 c53 c54 c55 => c36 F396053 g396052 q395159 p396070 q396545 p396558 p396563 o396581 p396564 o396592 p396561 F396668 o396690 p396559 z396699 k e1 bg396052 hT396054 hs396055 x396056 x396057 x396058 fq396066 fq396077 fq396078 r396088 fq396089 r396533 hx396546 ht396555 fq396574 fq396575 bo396581 ht396583 r396585 fq396586 bo396592 ht396594 r396630 fq396631 r396667 n396670 fq396681 fq396684 bo396690 ht396691 r396695 fq396696 r396698 ez396699 (ht R c1 c2 c3 c4 c5 c6 c7 c8 c9 c10 c11 c12 c13 c14 c15 c16 c17 c18 c19 c20 c21 c22 c23 c24 c25 c26 c27 c28 c29 c30 c31 c32 c33 c34 c35 c36 c37 c38 c39 c40 c41 c42 c43 c44 c45 c46 c47 c48 c49 c50 c51 c52 c53 c54 c55))) (mz_up ez396699 (Int.le_trans bg396052''.2 (by decide)) hm20_396058)
                        · have r396700 : p396559.toInt = p369941.toInt := gC_eq hc396697
                          refine G_aload 0 dr_cX17_rename_132 rfl ?_
                          refine G_iload_n 6 dr_cX17_rename_134 rfl ?_
                          refine Gp_put 1 hm396556 he396677 dr_cX17_rename_135 (gk_X15 D I) (Nat.le_of_ble_eq_true rfl) wr_9_182 rfl rfl rfl (Nat.le_of_ble_eq_true rfl) (fun F396701 e396702 n396703 => ?_)
                          have he396704 : F396701 q369940 = .inr (18, [.ref q395098, .ref q395099, .int p395100, .int p395101]) := (n396703 q369940 (rn_oo he396671 he396677 (by decide))).trans he396671
                          have he396705 : F396701 q395098 = .inr (4, [.int p395130, .ref q395132, .int p395131]) := (n396703 q395098 (rn_oo he396672 he396677 (by decide))).trans he396672
                          have he396706 : F396701 q395132 = .inl (I (.object "java/lang/Object"), n395146, .inr (.inr (.inr (.inr f395147)))) := (n396703 q395132 (rn_ao he396673 he396677)).trans he396673
                          have he396707 : F396701 q395149 = .inr (17, [.ref q395159, .ref q395160, .int p395161, .int p395162]) := (n396703 q395149 (rn_oo he396674 he396677 (by decide))).trans he396674
                          have he396708 : F396701 q395159 = .inr (4, [.int p396069, .ref q396071, .int p396070]) := (n396703 q395159 (rn_oo he396675 he396677 (by decide))).trans he396675
                          have he396709 : F396701 q396071 = .inl (I (.object "java/lang/Object"), n396542, .inr (.inr (.inr (.inr f396543)))) := (n396703 q396071 (rn_ao he396676 he396677)).trans he396676
                          have he396710 : F396701 q396545 = .inr (20, [.int p396558, .int p369942, .int p396560, .int p369942, .int p396562, .int p396563, .int p396564]) := e396702
                          have hs396711 : rStr γ [1] F369939 F396701 := rStr_pu2 hs396678 n396703 ht396548 (by decide)
                          have fs396712 : rFs γ (γ 1 q369940) F369939 F396701 := rFs_put fs396679 n396703 ((show γ 1 q396545 = γ 1 q395159 from ht396549).trans ((show γ 1 q395159 = γ 1 q395149 from ht395164).trans ((show γ 1 q395149 = γ 1 q395098 from ht395156).trans (show γ 1 q395098 = γ 1 q369940 from ht395103))))
                          have fk396713 : rFk [1] γ F369939 F396701 := rFk_put fk396680 n396703 ht396548 (by decide)
                          have fq396714 : F396701 q396545 = cF (F396668 q396545) 1 (.int p369942) := by rw [he396710, he396677]; rfl
                          obtain ⟨z396715, hz396715⟩ : ∃ z : Int32, z = g396052 + Int32.ofInt 1 := ⟨_, rfl⟩
                          have ez396715 : z396715.toInt = g396052.toInt + 1 := gI_inc hz396715 (by decide) bg396052'' (by decide) (by decide)
                          have bz396715 : gB z396715 1 1000000 := ⟨by omega, by omega⟩
                          refine G_iinc (L' := [(5, .int z396715), (6, .ref q396545), (4, .ref q395149), (3, .int g395086), (0, .ref q369940), (1, .int p369941), (2, .int p369942)]) z396715 1 dr_cX17_rename_138 rfl hz396715.symm (Nat.le_of_ble_eq_true rfl) rfl ?_
                          refine G_goto 20 dr_cX17_rename_141 (by decide +kernel) ?_
                          have hT396716 : RS D I P369938 F396701 γ el := RS_set hT396682 n396703 ht396548 (by decide) ⟨p396558, p369942, p396560, p369942, p396562, p396563, p396564, he396710, bp396558, bp369942, bp396562, bp396563, bp396564, r396565, r396566, (Or.inr bp369942), r396568, r396569⟩
                          have of396717 : ∀ b, b ≠ q396545 → F396701 b = F396053 b := fun b hb => (n396703 b hb).trans (n396670 b hb)
                          refine G_lv (L' := [(5, .int z396715), (4, .ref q395149), (3, .int g395086), (0, .ref q369940), (1, .int p369941), (2, .int p369942)]) [0, 2, 3, 4, 5, 6] rfl ?_
                          exact ih20_396058 F396701 z396715 (gB_w bz396715 (by decide) (by decide)) hT396716 hs396711 (fun N hv hu hp => rPl_put hT396054 htq369940 rfl (x396056 N hv hu hp) of396717 hp396570 nb396573 hL396571 (fun _ _ _ _ z => z) (rNx_ren he396557 he396710 hu hv (Or.inl rfl) (Or.inr rfl) (Or.inr ⟨rfl, by first | assumption | omega⟩) (by rw [← hp396570]; exact x396056 N hv hu hp _ nb396573 _ hL396571))) fk396713 fs396712 (fun k e1 ht => kt20_396059 k e1 (fun R c1 c2 c3 c4 c5 c6 c7 c8 c9 c10 c11 c12 c13 c14 c15 c16 c17 c18 c19 c20 c21 c22 c23 c24 c25 c26 c27 c28 c29 c30 c31 c32 c33 c34 c35 c36 c37 c38 c39 c40 c41 c42 c43 c44 c45 c46 c47 c48 c49 c50 c51 c52 c53 c54 c55 => c37 F396053 g396052 q395159 p396070 q396545 p396558 p396563 o396581 p396564 o396592 p396561 F396668 o396690 p396559 F396701 z396715 k e1 bg396052 hT396054 hs396055 x396056 x396057 x396058 fq396066 fq396077 fq396078 r396088 fq396089 r396533 hx396546 ht396555 fq396574 fq396575 bo396581 ht396583 r396585 fq396586 bo396592 ht396594 r396630 fq396631 r396667 n396670 fq396681 fq396684 bo396690 ht396691 r396695 fq396696 r396700 n396703 fq396714 ez396715 (ht R c1 c2 c3 c4 c5 c6 c7 c8 c9 c10 c11 c12 c13 c14 c15 c16 c17 c18 c19 c20 c21 c22 c23 c24 c25 c26 c27 c28 c29 c30 c31 c32 c33 c34 c35 c36 c37 c38 c39 c40 c41 c42 c43 c44 c45 c46 c47 c48 c49 c50 c51 c52 c53 c54 c55))) (mz_up ez396715 (Int.le_trans bg396052''.2 (by decide)) hm20_396058)
                · have r396718 : o396581.toInt ≠ 0 := gj_neq hc396584 (show Int32.toInt 0 = 0 by decide)
                  have bo396581' : gB o396581 1 1 := gB_t1 bo396581 r396718
                  refine G_aload 0 dr_cX17_rename_77 rfl ?_
                  have fq396719 : fI (F396053 q396545) 2 = p396560 := by rw [he396557]; rfl
                  refine Gp_get 2 hm396556 he396557 dr_cX17_rename_79 (gk_X15 D I) (Nat.le_of_ble_eq_true rfl) wr_9_186 rfl ?_
                  refine G_iload_n 5 dr_cX17_rename_82 rfl ?_
                  refine G_icmp_ne 92 dr_cX17_rename_83 (by decide +kernel) (fun hc396720 => ?_) (fun hc396720 => ?_)
                  · have r396721 : p396560.toInt ≠ p369941.toInt := gC_ne hc396720
                    refine G_aload 0 dr_cX17_rename_92 rfl ?_
                    have fq396722 : fI (F396053 q396545) 6 = p396564 := by rw [he396557]; rfl
                    refine Gw_callV (As := []) (gV_ok D I) (cp_1699_Row_usesB l hl0 D I P369938 F396053 q396545 p396558 p396559 p396560 p396561 p396562 p396563 p396564 hm396556 he396557 bp396558 bp396559 bp396562 bp396563 bp396564) dr_cX17_rename_94 ⟨wr_10_196, wr_1_39, wr_10_199, by decide, rfl, (Nat.le_of_ble_eq_true rfl), (Nat.le_of_ble_eq_true rfl)⟩ wr_10_197 wr_10_198 hm396556 he396557 rfl (show 0 + 0 ≤ 0 by first | omega | decide) (show 0 + 0 ≤ 0 by first | omega | decide) (Nat.le_of_ble_eq_true rfl) (fun r396726 w396727 dc396723 ds396724 hp396725 => ?_) (fun _ _ _ _ _ z => z.elim)
                    obtain ⟨o396728, rfl, rfl, hdc, hds, bo396728, x396729, ht396730⟩ := hp396725
                    change G _ _ _ _ _ _ _ (.int o396728 :: _) _ _ _
                    refine G_widen (cs' := 0) (sl' := 0) (by omega) (by omega) ?_
                    refine G_if_eq 115 dr_cX17_rename_97 (by decide +kernel) (fun hc396731 => ?_) (fun hc396731 => ?_)
                    · have r396732 : o396728.toInt = 0 := gj_eq hc396731 (show Int32.toInt 0 = 0 by decide)
                      have bo396728' : gB o396728 0 0 := gB_t0 r396732
                      refine G_aload 0 dr_cX17_rename_115 rfl ?_
                      refine Gw_callV (As := []) (gV_ok D I) (cp_1660_Row_sets l hl0 D I P369938 F396053 q396545 p396558 p396559 p396560 p396561 p396562 p396563 p396564 hm396556 he396557 bp396558 bp396559 bp396562 bp396563 bp396564) dr_cX17_rename_117 ⟨wr_10_181, wr_1_39, wr_10_184, by decide, rfl, (Nat.le_of_ble_eq_true rfl), (Nat.le_of_ble_eq_true rfl)⟩ wr_10_182 wr_10_183 hm396556 he396557 rfl (show 0 + 0 ≤ 0 by first | omega | decide) (show 0 + 0 ≤ 0 by first | omega | decide) (Nat.le_of_ble_eq_true rfl) (fun r396736 w396737 dc396733 ds396734 hp396735 => ?_) (fun _ _ _ _ _ z => z.elim)
                      obtain ⟨o396738, rfl, rfl, hdc, hds, bo396738, ht396739⟩ := hp396735
                      change G _ _ _ _ _ _ _ (.int o396738 :: _) _ _ _
                      refine G_widen (cs' := 0) (sl' := 0) (by omega) (by omega) ?_
                      refine G_if_eq 138 dr_cX17_rename_120 (by decide +kernel) (fun hc396740 => ?_) (fun hc396740 => ?_)
                      · have r396741 : o396738.toInt = 0 := gj_eq hc396740 (show Int32.toInt 0 = 0 by decide)
                        have bo396738' : gB o396738 0 0 := gB_t0 r396741
                        obtain ⟨z396742, hz396742⟩ : ∃ z : Int32, z = g396052 + Int32.ofInt 1 := ⟨_, rfl⟩
                        have ez396742 : z396742.toInt = g396052.toInt + 1 := gI_inc hz396742 (by decide) bg396052'' (by decide) (by decide)
                        have bz396742 : gB z396742 1 1000000 := ⟨by omega, by omega⟩
                        refine G_iinc (L' := [(5, .int z396742), (6, .ref q396545), (4, .ref q395149), (3, .int g395086), (0, .ref q369940), (1, .int p369941), (2, .int p369942)]) z396742 1 dr_cX17_rename_138 rfl hz396742.symm (Nat.le_of_ble_eq_true rfl) rfl ?_
                        refine G_goto 20 dr_cX17_rename_141 (by decide +kernel) ?_
                        refine G_lv (L' := [(5, .int z396742), (4, .ref q395149), (3, .int g395086), (0, .ref q369940), (1, .int p369941), (2, .int p369942)]) [0, 2, 3, 4, 5, 6] rfl ?_
                        exact ih20_396058 F396053 z396742 (gB_w bz396742 (by decide) (by decide)) hT396054 hs396055 x396056 x396057 x396058 (fun k e1 ht => kt20_396059 k e1 (fun R c1 c2 c3 c4 c5 c6 c7 c8 c9 c10 c11 c12 c13 c14 c15 c16 c17 c18 c19 c20 c21 c22 c23 c24 c25 c26 c27 c28 c29 c30 c31 c32 c33 c34 c35 c36 c37 c38 c39 c40 c41 c42 c43 c44 c45 c46 c47 c48 c49 c50 c51 c52 c53 c54 c55 => c38 F396053 g396052 q395159 p396070 q396545 p396558 p396563 o396581 p396560 p396564 o396728 o396738 z396742 k e1 bg396052 hT396054 hs396055 x396056 x396057 x396058 fq396066 fq396077 fq396078 r396088 fq396089 r396533 hx396546 ht396555 fq396574 fq396575 bo396581 ht396583 r396718 fq396719 r396721 fq396722 bo396728 ht396730 r396732 bo396738 ht396739 r396741 ez396742 (ht R c1 c2 c3 c4 c5 c6 c7 c8 c9 c10 c11 c12 c13 c14 c15 c16 c17 c18 c19 c20 c21 c22 c23 c24 c25 c26 c27 c28 c29 c30 c31 c32 c33 c34 c35 c36 c37 c38 c39 c40 c41 c42 c43 c44 c45 c46 c47 c48 c49 c50 c51 c52 c53 c54 c55))) (mz_up ez396742 (Int.le_trans bg396052''.2 (by decide)) hm20_396058)
                      · have r396743 : o396738.toInt ≠ 0 := gj_neq hc396740 (show Int32.toInt 0 = 0 by decide)
                        have bo396738' : gB o396738 1 1 := gB_t1 bo396738 r396743
                        refine G_aload 0 dr_cX17_rename_123 rfl ?_
                        have fq396744 : fI (F396053 q396545) 1 = p396559 := by rw [he396557]; rfl
                        refine Gp_get 1 hm396556 he396557 dr_cX17_rename_125 (gk_X15 D I) (Nat.le_of_ble_eq_true rfl) wr_9_182 rfl ?_
                        refine G_iload_n 5 dr_cX17_rename_128 rfl ?_
                        refine G_icmp_ne 138 dr_cX17_rename_129 (by decide +kernel) (fun hc396745 => ?_) (fun hc396745 => ?_)
                        · have r396746 : p396559.toInt ≠ p369941.toInt := gC_ne hc396745
                          obtain ⟨z396747, hz396747⟩ : ∃ z : Int32, z = g396052 + Int32.ofInt 1 := ⟨_, rfl⟩
                          have ez396747 : z396747.toInt = g396052.toInt + 1 := gI_inc hz396747 (by decide) bg396052'' (by decide) (by decide)
                          have bz396747 : gB z396747 1 1000000 := ⟨by omega, by omega⟩
                          refine G_iinc (L' := [(5, .int z396747), (6, .ref q396545), (4, .ref q395149), (3, .int g395086), (0, .ref q369940), (1, .int p369941), (2, .int p369942)]) z396747 1 dr_cX17_rename_138 rfl hz396747.symm (Nat.le_of_ble_eq_true rfl) rfl ?_
                          refine G_goto 20 dr_cX17_rename_141 (by decide +kernel) ?_
                          refine G_lv (L' := [(5, .int z396747), (4, .ref q395149), (3, .int g395086), (0, .ref q369940), (1, .int p369941), (2, .int p369942)]) [0, 2, 3, 4, 5, 6] rfl ?_
                          exact ih20_396058 F396053 z396747 (gB_w bz396747 (by decide) (by decide)) hT396054 hs396055 x396056 x396057 x396058 (fun k e1 ht => kt20_396059 k e1 (fun R c1 c2 c3 c4 c5 c6 c7 c8 c9 c10 c11 c12 c13 c14 c15 c16 c17 c18 c19 c20 c21 c22 c23 c24 c25 c26 c27 c28 c29 c30 c31 c32 c33 c34 c35 c36 c37 c38 c39 c40 c41 c42 c43 c44 c45 c46 c47 c48 c49 c50 c51 c52 c53 c54 c55 => c39 F396053 g396052 q395159 p396070 q396545 p396558 p396563 o396581 p396560 p396564 o396728 o396738 p396559 z396747 k e1 bg396052 hT396054 hs396055 x396056 x396057 x396058 fq396066 fq396077 fq396078 r396088 fq396089 r396533 hx396546 ht396555 fq396574 fq396575 bo396581 ht396583 r396718 fq396719 r396721 fq396722 bo396728 ht396730 r396732 bo396738 ht396739 r396743 fq396744 r396746 ez396747 (ht R c1 c2 c3 c4 c5 c6 c7 c8 c9 c10 c11 c12 c13 c14 c15 c16 c17 c18 c19 c20 c21 c22 c23 c24 c25 c26 c27 c28 c29 c30 c31 c32 c33 c34 c35 c36 c37 c38 c39 c40 c41 c42 c43 c44 c45 c46 c47 c48 c49 c50 c51 c52 c53 c54 c55))) (mz_up ez396747 (Int.le_trans bg396052''.2 (by decide)) hm20_396058)
                        · have r396748 : p396559.toInt = p369941.toInt := gC_eq hc396745
                          refine G_aload 0 dr_cX17_rename_132 rfl ?_
                          refine G_iload_n 6 dr_cX17_rename_134 rfl ?_
                          refine Gp_put 1 hm396556 he396557 dr_cX17_rename_135 (gk_X15 D I) (Nat.le_of_ble_eq_true rfl) wr_9_182 rfl rfl rfl (Nat.le_of_ble_eq_true rfl) (fun F396749 e396750 n396751 => ?_)
                          have he396752 : F396749 q369940 = .inr (18, [.ref q395098, .ref q395099, .int p395100, .int p395101]) := (n396751 q369940 (rn_oo he396061 he396557 (by decide))).trans he396061
                          have he396753 : F396749 q395098 = .inr (4, [.int p395130, .ref q395132, .int p395131]) := (n396751 q395098 (rn_oo he396062 he396557 (by decide))).trans he396062
                          have he396754 : F396749 q395132 = .inl (I (.object "java/lang/Object"), n395146, .inr (.inr (.inr (.inr f395147)))) := (n396751 q395132 (rn_ao he396063 he396557)).trans he396063
                          have he396755 : F396749 q395149 = .inr (17, [.ref q395159, .ref q395160, .int p395161, .int p395162]) := (n396751 q395149 (rn_oo he396064 he396557 (by decide))).trans he396064
                          have he396756 : F396749 q395159 = .inr (4, [.int p396069, .ref q396071, .int p396070]) := (n396751 q395159 (rn_oo he396068 he396557 (by decide))).trans he396068
                          have he396757 : F396749 q396071 = .inl (I (.object "java/lang/Object"), n396542, .inr (.inr (.inr (.inr f396543)))) := (n396751 q396071 (rn_ao r396536 he396557)).trans r396536
                          have he396758 : F396749 q396545 = .inr (20, [.int p396558, .int p369942, .int p396560, .int p396561, .int p396562, .int p396563, .int p396564]) := e396750
                          have hs396759 : rStr γ [1] F369939 F396749 := rStr_pu2 hs396055 n396751 ht396548 (by decide)
                          have fs396760 : rFs γ (γ 1 q369940) F369939 F396749 := rFs_put x396058 n396751 ((show γ 1 q396545 = γ 1 q395159 from ht396549).trans ((show γ 1 q395159 = γ 1 q395149 from ht395164).trans ((show γ 1 q395149 = γ 1 q395098 from ht395156).trans (show γ 1 q395098 = γ 1 q369940 from ht395103))))
                          have fk396761 : rFk [1] γ F369939 F396749 := rFk_put x396057 n396751 ht396548 (by decide)
                          have fq396762 : F396749 q396545 = cF (F396053 q396545) 1 (.int p369942) := by rw [he396758, he396557]; rfl
                          obtain ⟨z396763, hz396763⟩ : ∃ z : Int32, z = g396052 + Int32.ofInt 1 := ⟨_, rfl⟩
                          have ez396763 : z396763.toInt = g396052.toInt + 1 := gI_inc hz396763 (by decide) bg396052'' (by decide) (by decide)
                          have bz396763 : gB z396763 1 1000000 := ⟨by omega, by omega⟩
                          refine G_iinc (L' := [(5, .int z396763), (6, .ref q396545), (4, .ref q395149), (3, .int g395086), (0, .ref q369940), (1, .int p369941), (2, .int p369942)]) z396763 1 dr_cX17_rename_138 rfl hz396763.symm (Nat.le_of_ble_eq_true rfl) rfl ?_
                          refine G_goto 20 dr_cX17_rename_141 (by decide +kernel) ?_
                          have hT396764 : RS D I P369938 F396749 γ el := RS_set hT396054 n396751 ht396548 (by decide) ⟨p396558, p369942, p396560, p396561, p396562, p396563, p396564, he396758, bp396558, bp369942, bp396562, bp396563, bp396564, r396565, r396566, r396567, r396568, r396569⟩
                          refine G_lv (L' := [(5, .int z396763), (4, .ref q395149), (3, .int g395086), (0, .ref q369940), (1, .int p369941), (2, .int p369942)]) [0, 2, 3, 4, 5, 6] rfl ?_
                          exact ih20_396058 F396749 z396763 (gB_w bz396763 (by decide) (by decide)) hT396764 hs396759 (fun N hv hu hp => rPl_put hT396054 htq369940 rfl (x396056 N hv hu hp) n396751 hp396570 nb396573 hL396571 (fun _ _ _ _ z => z) (rNx_ren he396557 he396758 hu hv (Or.inl rfl) (Or.inl rfl) (Or.inr ⟨rfl, by first | assumption | omega⟩) (by rw [← hp396570]; exact x396056 N hv hu hp _ nb396573 _ hL396571))) fk396761 fs396760 (fun k e1 ht => kt20_396059 k e1 (fun R c1 c2 c3 c4 c5 c6 c7 c8 c9 c10 c11 c12 c13 c14 c15 c16 c17 c18 c19 c20 c21 c22 c23 c24 c25 c26 c27 c28 c29 c30 c31 c32 c33 c34 c35 c36 c37 c38 c39 c40 c41 c42 c43 c44 c45 c46 c47 c48 c49 c50 c51 c52 c53 c54 c55 => c40 F396053 g396052 q395159 p396070 q396545 p396558 p396563 o396581 p396560 p396564 o396728 o396738 p396559 F396749 z396763 k e1 bg396052 hT396054 hs396055 x396056 x396057 x396058 fq396066 fq396077 fq396078 r396088 fq396089 r396533 hx396546 ht396555 fq396574 fq396575 bo396581 ht396583 r396718 fq396719 r396721 fq396722 bo396728 ht396730 r396732 bo396738 ht396739 r396743 fq396744 r396748 n396751 fq396762 ez396763 (ht R c1 c2 c3 c4 c5 c6 c7 c8 c9 c10 c11 c12 c13 c14 c15 c16 c17 c18 c19 c20 c21 c22 c23 c24 c25 c26 c27 c28 c29 c30 c31 c32 c33 c34 c35 c36 c37 c38 c39 c40 c41 c42 c43 c44 c45 c46 c47 c48 c49 c50 c51 c52 c53 c54 c55))) (mz_up ez396763 (Int.le_trans bg396052''.2 (by decide)) hm20_396058)
                    · have r396766 : o396728.toInt ≠ 0 := gj_neq hc396731 (show Int32.toInt 0 = 0 by decide)
                      have bo396728' : gB o396728 1 1 := gB_t1 bo396728 r396766
                      refine G_aload 0 dr_cX17_rename_100 rfl ?_
                      have fq396767 : fI (F396053 q396545) 3 = p396561 := by rw [he396557]; rfl
                      refine Gp_get 3 hm396556 he396557 dr_cX17_rename_102 (gk_X15 D I) (Nat.le_of_ble_eq_true rfl) wr_9_190 rfl ?_
                      refine G_iload_n 5 dr_cX17_rename_105 rfl ?_
                      refine G_icmp_ne 115 dr_cX17_rename_106 (by decide +kernel) (fun hc396768 => ?_) (fun hc396768 => ?_)
                      · have r396769 : p396561.toInt ≠ p369941.toInt := gC_ne hc396768
                        refine G_aload 0 dr_cX17_rename_115 rfl ?_
                        refine Gw_callV (As := []) (gV_ok D I) (cp_1660_Row_sets l hl0 D I P369938 F396053 q396545 p396558 p396559 p396560 p396561 p396562 p396563 p396564 hm396556 he396557 bp396558 bp396559 bp396562 bp396563 bp396564) dr_cX17_rename_117 ⟨wr_10_181, wr_1_39, wr_10_184, by decide, rfl, (Nat.le_of_ble_eq_true rfl), (Nat.le_of_ble_eq_true rfl)⟩ wr_10_182 wr_10_183 hm396556 he396557 rfl (show 0 + 0 ≤ 0 by first | omega | decide) (show 0 + 0 ≤ 0 by first | omega | decide) (Nat.le_of_ble_eq_true rfl) (fun r396773 w396774 dc396770 ds396771 hp396772 => ?_) (fun _ _ _ _ _ z => z.elim)
                        obtain ⟨o396775, rfl, rfl, hdc, hds, bo396775, ht396776⟩ := hp396772
                        change G _ _ _ _ _ _ _ (.int o396775 :: _) _ _ _
                        refine G_widen (cs' := 0) (sl' := 0) (by omega) (by omega) ?_
                        refine G_if_eq 138 dr_cX17_rename_120 (by decide +kernel) (fun hc396777 => ?_) (fun hc396777 => ?_)
                        · have r396778 : o396775.toInt = 0 := gj_eq hc396777 (show Int32.toInt 0 = 0 by decide)
                          have bo396775' : gB o396775 0 0 := gB_t0 r396778
                          obtain ⟨z396779, hz396779⟩ : ∃ z : Int32, z = g396052 + Int32.ofInt 1 := ⟨_, rfl⟩
                          have ez396779 : z396779.toInt = g396052.toInt + 1 := gI_inc hz396779 (by decide) bg396052'' (by decide) (by decide)
                          have bz396779 : gB z396779 1 1000000 := ⟨by omega, by omega⟩
                          refine G_iinc (L' := [(5, .int z396779), (6, .ref q396545), (4, .ref q395149), (3, .int g395086), (0, .ref q369940), (1, .int p369941), (2, .int p369942)]) z396779 1 dr_cX17_rename_138 rfl hz396779.symm (Nat.le_of_ble_eq_true rfl) rfl ?_
                          refine G_goto 20 dr_cX17_rename_141 (by decide +kernel) ?_
                          refine G_lv (L' := [(5, .int z396779), (4, .ref q395149), (3, .int g395086), (0, .ref q369940), (1, .int p369941), (2, .int p369942)]) [0, 2, 3, 4, 5, 6] rfl ?_
                          exact ih20_396058 F396053 z396779 (gB_w bz396779 (by decide) (by decide)) hT396054 hs396055 x396056 x396057 x396058 (fun k e1 ht => kt20_396059 k e1 (fun R c1 c2 c3 c4 c5 c6 c7 c8 c9 c10 c11 c12 c13 c14 c15 c16 c17 c18 c19 c20 c21 c22 c23 c24 c25 c26 c27 c28 c29 c30 c31 c32 c33 c34 c35 c36 c37 c38 c39 c40 c41 c42 c43 c44 c45 c46 c47 c48 c49 c50 c51 c52 c53 c54 c55 => c41 F396053 g396052 q395159 p396070 q396545 p396558 p396563 o396581 p396560 p396564 o396728 p396561 o396775 z396779 k e1 bg396052 hT396054 hs396055 x396056 x396057 x396058 fq396066 fq396077 fq396078 r396088 fq396089 r396533 hx396546 ht396555 fq396574 fq396575 bo396581 ht396583 r396718 fq396719 r396721 fq396722 bo396728 ht396730 r396766 fq396767 r396769 bo396775 ht396776 r396778 ez396779 (ht R c1 c2 c3 c4 c5 c6 c7 c8 c9 c10 c11 c12 c13 c14 c15 c16 c17 c18 c19 c20 c21 c22 c23 c24 c25 c26 c27 c28 c29 c30 c31 c32 c33 c34 c35 c36 c37 c38 c39 c40 c41 c42 c43 c44 c45 c46 c47 c48 c49 c50 c51 c52 c53 c54 c55))) (mz_up ez396779 (Int.le_trans bg396052''.2 (by decide)) hm20_396058)
                        · have r396780 : o396775.toInt ≠ 0 := gj_neq hc396777 (show Int32.toInt 0 = 0 by decide)
                          have bo396775' : gB o396775 1 1 := gB_t1 bo396775 r396780
                          refine G_aload 0 dr_cX17_rename_123 rfl ?_
                          have fq396781 : fI (F396053 q396545) 1 = p396559 := by rw [he396557]; rfl
                          refine Gp_get 1 hm396556 he396557 dr_cX17_rename_125 (gk_X15 D I) (Nat.le_of_ble_eq_true rfl) wr_9_182 rfl ?_
                          refine G_iload_n 5 dr_cX17_rename_128 rfl ?_
                          refine G_icmp_ne 138 dr_cX17_rename_129 (by decide +kernel) (fun hc396782 => ?_) (fun hc396782 => ?_)
                          · have r396783 : p396559.toInt ≠ p369941.toInt := gC_ne hc396782
                            obtain ⟨z396784, hz396784⟩ : ∃ z : Int32, z = g396052 + Int32.ofInt 1 := ⟨_, rfl⟩
                            have ez396784 : z396784.toInt = g396052.toInt + 1 := gI_inc hz396784 (by decide) bg396052'' (by decide) (by decide)
                            have bz396784 : gB z396784 1 1000000 := ⟨by omega, by omega⟩
                            refine G_iinc (L' := [(5, .int z396784), (6, .ref q396545), (4, .ref q395149), (3, .int g395086), (0, .ref q369940), (1, .int p369941), (2, .int p369942)]) z396784 1 dr_cX17_rename_138 rfl hz396784.symm (Nat.le_of_ble_eq_true rfl) rfl ?_
                            refine G_goto 20 dr_cX17_rename_141 (by decide +kernel) ?_
                            refine G_lv (L' := [(5, .int z396784), (4, .ref q395149), (3, .int g395086), (0, .ref q369940), (1, .int p369941), (2, .int p369942)]) [0, 2, 3, 4, 5, 6] rfl ?_
                            exact ih20_396058 F396053 z396784 (gB_w bz396784 (by decide) (by decide)) hT396054 hs396055 x396056 x396057 x396058 (fun k e1 ht => kt20_396059 k e1 (fun R c1 c2 c3 c4 c5 c6 c7 c8 c9 c10 c11 c12 c13 c14 c15 c16 c17 c18 c19 c20 c21 c22 c23 c24 c25 c26 c27 c28 c29 c30 c31 c32 c33 c34 c35 c36 c37 c38 c39 c40 c41 c42 c43 c44 c45 c46 c47 c48 c49 c50 c51 c52 c53 c54 c55 => c42 F396053 g396052 q395159 p396070 q396545 p396558 p396563 o396581 p396560 p396564 o396728 p396561 o396775 p396559 z396784 k e1 bg396052 hT396054 hs396055 x396056 x396057 x396058 fq396066 fq396077 fq396078 r396088 fq396089 r396533 hx396546 ht396555 fq396574 fq396575 bo396581 ht396583 r396718 fq396719 r396721 fq396722 bo396728 ht396730 r396766 fq396767 r396769 bo396775 ht396776 r396780 fq396781 r396783 ez396784 (ht R c1 c2 c3 c4 c5 c6 c7 c8 c9 c10 c11 c12 c13 c14 c15 c16 c17 c18 c19 c20 c21 c22 c23 c24 c25 c26 c27 c28 c29 c30 c31 c32 c33 c34 c35 c36 c37 c38 c39 c40 c41 c42 c43 c44 c45 c46 c47 c48 c49 c50 c51 c52 c53 c54 c55))) (mz_up ez396784 (Int.le_trans bg396052''.2 (by decide)) hm20_396058)
                          · have r396785 : p396559.toInt = p369941.toInt := gC_eq hc396782
                            refine G_aload 0 dr_cX17_rename_132 rfl ?_
                            refine G_iload_n 6 dr_cX17_rename_134 rfl ?_
                            refine Gp_put 1 hm396556 he396557 dr_cX17_rename_135 (gk_X15 D I) (Nat.le_of_ble_eq_true rfl) wr_9_182 rfl rfl rfl (Nat.le_of_ble_eq_true rfl) (fun F396786 e396787 n396788 => ?_)
                            have he396789 : F396786 q369940 = .inr (18, [.ref q395098, .ref q395099, .int p395100, .int p395101]) := (n396788 q369940 (rn_oo he396061 he396557 (by decide))).trans he396061
                            have he396790 : F396786 q395098 = .inr (4, [.int p395130, .ref q395132, .int p395131]) := (n396788 q395098 (rn_oo he396062 he396557 (by decide))).trans he396062
                            have he396791 : F396786 q395132 = .inl (I (.object "java/lang/Object"), n395146, .inr (.inr (.inr (.inr f395147)))) := (n396788 q395132 (rn_ao he396063 he396557)).trans he396063
                            have he396792 : F396786 q395149 = .inr (17, [.ref q395159, .ref q395160, .int p395161, .int p395162]) := (n396788 q395149 (rn_oo he396064 he396557 (by decide))).trans he396064
                            have he396793 : F396786 q395159 = .inr (4, [.int p396069, .ref q396071, .int p396070]) := (n396788 q395159 (rn_oo he396068 he396557 (by decide))).trans he396068
                            have he396794 : F396786 q396071 = .inl (I (.object "java/lang/Object"), n396542, .inr (.inr (.inr (.inr f396543)))) := (n396788 q396071 (rn_ao r396536 he396557)).trans r396536
                            have he396795 : F396786 q396545 = .inr (20, [.int p396558, .int p369942, .int p396560, .int p396561, .int p396562, .int p396563, .int p396564]) := e396787
                            have hs396796 : rStr γ [1] F369939 F396786 := rStr_pu2 hs396055 n396788 ht396548 (by decide)
                            have fs396797 : rFs γ (γ 1 q369940) F369939 F396786 := rFs_put x396058 n396788 ((show γ 1 q396545 = γ 1 q395159 from ht396549).trans ((show γ 1 q395159 = γ 1 q395149 from ht395164).trans ((show γ 1 q395149 = γ 1 q395098 from ht395156).trans (show γ 1 q395098 = γ 1 q369940 from ht395103))))
                            have fk396798 : rFk [1] γ F369939 F396786 := rFk_put x396057 n396788 ht396548 (by decide)
                            have fq396799 : F396786 q396545 = cF (F396053 q396545) 1 (.int p369942) := by rw [he396795, he396557]; rfl
                            obtain ⟨z396800, hz396800⟩ : ∃ z : Int32, z = g396052 + Int32.ofInt 1 := ⟨_, rfl⟩
                            have ez396800 : z396800.toInt = g396052.toInt + 1 := gI_inc hz396800 (by decide) bg396052'' (by decide) (by decide)
                            have bz396800 : gB z396800 1 1000000 := ⟨by omega, by omega⟩
                            refine G_iinc (L' := [(5, .int z396800), (6, .ref q396545), (4, .ref q395149), (3, .int g395086), (0, .ref q369940), (1, .int p369941), (2, .int p369942)]) z396800 1 dr_cX17_rename_138 rfl hz396800.symm (Nat.le_of_ble_eq_true rfl) rfl ?_
                            refine G_goto 20 dr_cX17_rename_141 (by decide +kernel) ?_
                            have hT396801 : RS D I P369938 F396786 γ el := RS_set hT396054 n396788 ht396548 (by decide) ⟨p396558, p369942, p396560, p396561, p396562, p396563, p396564, he396795, bp396558, bp369942, bp396562, bp396563, bp396564, r396565, r396566, r396567, r396568, r396569⟩
                            refine G_lv (L' := [(5, .int z396800), (4, .ref q395149), (3, .int g395086), (0, .ref q369940), (1, .int p369941), (2, .int p369942)]) [0, 2, 3, 4, 5, 6] rfl ?_
                            exact ih20_396058 F396786 z396800 (gB_w bz396800 (by decide) (by decide)) hT396801 hs396796 (fun N hv hu hp => rPl_put hT396054 htq369940 rfl (x396056 N hv hu hp) n396788 hp396570 nb396573 hL396571 (fun _ _ _ _ z => z) (rNx_ren he396557 he396795 hu hv (Or.inl rfl) (Or.inl rfl) (Or.inr ⟨rfl, by first | assumption | omega⟩) (by rw [← hp396570]; exact x396056 N hv hu hp _ nb396573 _ hL396571))) fk396798 fs396797 (fun k e1 ht => kt20_396059 k e1 (fun R c1 c2 c3 c4 c5 c6 c7 c8 c9 c10 c11 c12 c13 c14 c15 c16 c17 c18 c19 c20 c21 c22 c23 c24 c25 c26 c27 c28 c29 c30 c31 c32 c33 c34 c35 c36 c37 c38 c39 c40 c41 c42 c43 c44 c45 c46 c47 c48 c49 c50 c51 c52 c53 c54 c55 => c43 F396053 g396052 q395159 p396070 q396545 p396558 p396563 o396581 p396560 p396564 o396728 p396561 o396775 p396559 F396786 z396800 k e1 bg396052 hT396054 hs396055 x396056 x396057 x396058 fq396066 fq396077 fq396078 r396088 fq396089 r396533 hx396546 ht396555 fq396574 fq396575 bo396581 ht396583 r396718 fq396719 r396721 fq396722 bo396728 ht396730 r396766 fq396767 r396769 bo396775 ht396776 r396780 fq396781 r396785 n396788 fq396799 ez396800 (ht R c1 c2 c3 c4 c5 c6 c7 c8 c9 c10 c11 c12 c13 c14 c15 c16 c17 c18 c19 c20 c21 c22 c23 c24 c25 c26 c27 c28 c29 c30 c31 c32 c33 c34 c35 c36 c37 c38 c39 c40 c41 c42 c43 c44 c45 c46 c47 c48 c49 c50 c51 c52 c53 c54 c55))) (mz_up ez396800 (Int.le_trans bg396052''.2 (by decide)) hm20_396058)
                      · have r396803 : p396561.toInt = p369941.toInt := gC_eq hc396768
                        have bp396561' : gB p396561 0 1999 := ⟨by omega, by omega⟩
                        refine G_aload 0 dr_cX17_rename_109 rfl ?_
                        refine G_iload_n 6 dr_cX17_rename_111 rfl ?_
                        refine Gp_put 3 hm396556 he396557 dr_cX17_rename_112 (gk_X15 D I) (Nat.le_of_ble_eq_true rfl) wr_9_190 rfl rfl rfl (Nat.le_of_ble_eq_true rfl) (fun F396804 e396805 n396806 => ?_)
                        have he396807 : F396804 q369940 = .inr (18, [.ref q395098, .ref q395099, .int p395100, .int p395101]) := (n396806 q369940 (rn_oo he396061 he396557 (by decide))).trans he396061
                        have he396808 : F396804 q395098 = .inr (4, [.int p395130, .ref q395132, .int p395131]) := (n396806 q395098 (rn_oo he396062 he396557 (by decide))).trans he396062
                        have he396809 : F396804 q395132 = .inl (I (.object "java/lang/Object"), n395146, .inr (.inr (.inr (.inr f395147)))) := (n396806 q395132 (rn_ao he396063 he396557)).trans he396063
                        have he396810 : F396804 q395149 = .inr (17, [.ref q395159, .ref q395160, .int p395161, .int p395162]) := (n396806 q395149 (rn_oo he396064 he396557 (by decide))).trans he396064
                        have he396811 : F396804 q395159 = .inr (4, [.int p396069, .ref q396071, .int p396070]) := (n396806 q395159 (rn_oo he396068 he396557 (by decide))).trans he396068
                        have he396812 : F396804 q396071 = .inl (I (.object "java/lang/Object"), n396542, .inr (.inr (.inr (.inr f396543)))) := (n396806 q396071 (rn_ao r396536 he396557)).trans r396536
                        have he396813 : F396804 q396545 = .inr (20, [.int p396558, .int p396559, .int p396560, .int p369942, .int p396562, .int p396563, .int p396564]) := e396805
                        have hs396814 : rStr γ [1] F369939 F396804 := rStr_pu2 hs396055 n396806 ht396548 (by decide)
                        have fs396815 : rFs γ (γ 1 q369940) F369939 F396804 := rFs_put x396058 n396806 ((show γ 1 q396545 = γ 1 q395159 from ht396549).trans ((show γ 1 q395159 = γ 1 q395149 from ht395164).trans ((show γ 1 q395149 = γ 1 q395098 from ht395156).trans (show γ 1 q395098 = γ 1 q369940 from ht395103))))
                        have fk396816 : rFk [1] γ F369939 F396804 := rFk_put x396057 n396806 ht396548 (by decide)
                        have fq396817 : F396804 q396545 = cF (F396053 q396545) 3 (.int p369942) := by rw [he396813, he396557]; rfl
                        refine G_aload 0 dr_cX17_rename_115 rfl ?_
                        have hT396818 : RS D I P369938 F396804 γ el := RS_set hT396054 n396806 ht396548 (by decide) ⟨p396558, p396559, p396560, p369942, p396562, p396563, p396564, he396813, bp396558, bp396559, bp396562, bp396563, bp396564, r396565, r396566, (Or.inr bp369942), r396568, r396569⟩
                        have fq396820 : fI (F396804 q396545) 0 = p396558 := by rw [he396813]; rfl
                        refine Gw_callV (As := []) (gV_ok D I) (cp_1660_Row_sets l hl0 D I P369938 F396804 q396545 p396558 p396559 p396560 p369942 p396562 p396563 p396564 hm396556 he396813 bp396558 bp396559 bp396562 bp396563 bp396564) dr_cX17_rename_117 ⟨wr_10_181, wr_1_39, wr_10_184, by decide, rfl, (Nat.le_of_ble_eq_true rfl), (Nat.le_of_ble_eq_true rfl)⟩ wr_10_182 wr_10_183 hm396556 he396813 rfl (show 0 + 0 ≤ 0 by first | omega | decide) (show 0 + 0 ≤ 0 by first | omega | decide) (Nat.le_of_ble_eq_true rfl) (fun r396824 w396825 dc396821 ds396822 hp396823 => ?_) (fun _ _ _ _ _ z => z.elim)
                        obtain ⟨o396826, rfl, rfl, hdc, hds, bo396826, ht396827⟩ := hp396823
                        change G _ _ _ _ _ _ _ (.int o396826 :: _) _ _ _
                        refine G_widen (cs' := 0) (sl' := 0) (by omega) (by omega) ?_
                        refine G_if_eq 138 dr_cX17_rename_120 (by decide +kernel) (fun hc396828 => ?_) (fun hc396828 => ?_)
                        · have r396829 : o396826.toInt = 0 := gj_eq hc396828 (show Int32.toInt 0 = 0 by decide)
                          have bo396826' : gB o396826 0 0 := gB_t0 r396829
                          obtain ⟨z396830, hz396830⟩ : ∃ z : Int32, z = g396052 + Int32.ofInt 1 := ⟨_, rfl⟩
                          have ez396830 : z396830.toInt = g396052.toInt + 1 := gI_inc hz396830 (by decide) bg396052'' (by decide) (by decide)
                          have bz396830 : gB z396830 1 1000000 := ⟨by omega, by omega⟩
                          refine G_iinc (L' := [(5, .int z396830), (6, .ref q396545), (4, .ref q395149), (3, .int g395086), (0, .ref q369940), (1, .int p369941), (2, .int p369942)]) z396830 1 dr_cX17_rename_138 rfl hz396830.symm (Nat.le_of_ble_eq_true rfl) rfl ?_
                          refine G_goto 20 dr_cX17_rename_141 (by decide +kernel) ?_
                          refine G_lv (L' := [(5, .int z396830), (4, .ref q395149), (3, .int g395086), (0, .ref q369940), (1, .int p369941), (2, .int p369942)]) [0, 2, 3, 4, 5, 6] rfl ?_
                          exact ih20_396058 F396804 z396830 (gB_w bz396830 (by decide) (by decide)) hT396818 hs396814 (fun N hv hu hp => rPl_put hT396054 htq369940 rfl (x396056 N hv hu hp) n396806 hp396570 nb396573 hL396571 (fun _ _ _ _ z => z) (rNx_ren he396557 he396813 hu hv (Or.inl rfl) (Or.inr rfl) (Or.inl rfl) (by rw [← hp396570]; exact x396056 N hv hu hp _ nb396573 _ hL396571))) fk396816 fs396815 (fun k e1 ht => kt20_396059 k e1 (fun R c1 c2 c3 c4 c5 c6 c7 c8 c9 c10 c11 c12 c13 c14 c15 c16 c17 c18 c19 c20 c21 c22 c23 c24 c25 c26 c27 c28 c29 c30 c31 c32 c33 c34 c35 c36 c37 c38 c39 c40 c41 c42 c43 c44 c45 c46 c47 c48 c49 c50 c51 c52 c53 c54 c55 => c44 F396053 g396052 q395159 p396070 q396545 p396558 p396563 o396581 p396560 p396564 o396728 p396561 F396804 o396826 z396830 k e1 bg396052 hT396054 hs396055 x396056 x396057 x396058 fq396066 fq396077 fq396078 r396088 fq396089 r396533 hx396546 ht396555 fq396574 fq396575 bo396581 ht396583 r396718 fq396719 r396721 fq396722 bo396728 ht396730 r396766 fq396767 r396803 n396806 fq396817 fq396820 bo396826 ht396827 r396829 ez396830 (ht R c1 c2 c3 c4 c5 c6 c7 c8 c9 c10 c11 c12 c13 c14 c15 c16 c17 c18 c19 c20 c21 c22 c23 c24 c25 c26 c27 c28 c29 c30 c31 c32 c33 c34 c35 c36 c37 c38 c39 c40 c41 c42 c43 c44 c45 c46 c47 c48 c49 c50 c51 c52 c53 c54 c55))) (mz_up ez396830 (Int.le_trans bg396052''.2 (by decide)) hm20_396058)
                        · have r396831 : o396826.toInt ≠ 0 := gj_neq hc396828 (show Int32.toInt 0 = 0 by decide)
                          have bo396826' : gB o396826 1 1 := gB_t1 bo396826 r396831
                          refine G_aload 0 dr_cX17_rename_123 rfl ?_
                          have fq396832 : fI (F396804 q396545) 1 = p396559 := by rw [he396813]; rfl
                          refine Gp_get 1 hm396556 he396813 dr_cX17_rename_125 (gk_X15 D I) (Nat.le_of_ble_eq_true rfl) wr_9_182 rfl ?_
                          refine G_iload_n 5 dr_cX17_rename_128 rfl ?_
                          refine G_icmp_ne 138 dr_cX17_rename_129 (by decide +kernel) (fun hc396833 => ?_) (fun hc396833 => ?_)
                          · have r396834 : p396559.toInt ≠ p369941.toInt := gC_ne hc396833
                            obtain ⟨z396835, hz396835⟩ : ∃ z : Int32, z = g396052 + Int32.ofInt 1 := ⟨_, rfl⟩
                            have ez396835 : z396835.toInt = g396052.toInt + 1 := gI_inc hz396835 (by decide) bg396052'' (by decide) (by decide)
                            have bz396835 : gB z396835 1 1000000 := ⟨by omega, by omega⟩
                            refine G_iinc (L' := [(5, .int z396835), (6, .ref q396545), (4, .ref q395149), (3, .int g395086), (0, .ref q369940), (1, .int p369941), (2, .int p369942)]) z396835 1 dr_cX17_rename_138 rfl hz396835.symm (Nat.le_of_ble_eq_true rfl) rfl ?_
                            refine G_goto 20 dr_cX17_rename_141 (by decide +kernel) ?_
                            refine G_lv (L' := [(5, .int z396835), (4, .ref q395149), (3, .int g395086), (0, .ref q369940), (1, .int p369941), (2, .int p369942)]) [0, 2, 3, 4, 5, 6] rfl ?_
                            exact ih20_396058 F396804 z396835 (gB_w bz396835 (by decide) (by decide)) hT396818 hs396814 (fun N hv hu hp => rPl_put hT396054 htq369940 rfl (x396056 N hv hu hp) n396806 hp396570 nb396573 hL396571 (fun _ _ _ _ z => z) (rNx_ren he396557 he396813 hu hv (Or.inl rfl) (Or.inr rfl) (Or.inl rfl) (by rw [← hp396570]; exact x396056 N hv hu hp _ nb396573 _ hL396571))) fk396816 fs396815 (fun k e1 ht => kt20_396059 k e1 (fun R c1 c2 c3 c4 c5 c6 c7 c8 c9 c10 c11 c12 c13 c14 c15 c16 c17 c18 c19 c20 c21 c22 c23 c24 c25 c26 c27 c28 c29 c30 c31 c32 c33 c34 c35 c36 c37 c38 c39 c40 c41 c42 c43 c44 c45 c46 c47 c48 c49 c50 c51 c52 c53 c54 c55 => c45 F396053 g396052 q395159 p396070 q396545 p396558 p396563 o396581 p396560 p396564 o396728 p396561 F396804 o396826 p396559 z396835 k e1 bg396052 hT396054 hs396055 x396056 x396057 x396058 fq396066 fq396077 fq396078 r396088 fq396089 r396533 hx396546 ht396555 fq396574 fq396575 bo396581 ht396583 r396718 fq396719 r396721 fq396722 bo396728 ht396730 r396766 fq396767 r396803 n396806 fq396817 fq396820 bo396826 ht396827 r396831 fq396832 r396834 ez396835 (ht R c1 c2 c3 c4 c5 c6 c7 c8 c9 c10 c11 c12 c13 c14 c15 c16 c17 c18 c19 c20 c21 c22 c23 c24 c25 c26 c27 c28 c29 c30 c31 c32 c33 c34 c35 c36 c37 c38 c39 c40 c41 c42 c43 c44 c45 c46 c47 c48 c49 c50 c51 c52 c53 c54 c55))) (mz_up ez396835 (Int.le_trans bg396052''.2 (by decide)) hm20_396058)
                          · have r396836 : p396559.toInt = p369941.toInt := gC_eq hc396833
                            refine G_aload 0 dr_cX17_rename_132 rfl ?_
                            refine G_iload_n 6 dr_cX17_rename_134 rfl ?_
                            refine Gp_put 1 hm396556 he396813 dr_cX17_rename_135 (gk_X15 D I) (Nat.le_of_ble_eq_true rfl) wr_9_182 rfl rfl rfl (Nat.le_of_ble_eq_true rfl) (fun F396837 e396838 n396839 => ?_)
                            have he396840 : F396837 q369940 = .inr (18, [.ref q395098, .ref q395099, .int p395100, .int p395101]) := (n396839 q369940 (rn_oo he396807 he396813 (by decide))).trans he396807
                            have he396841 : F396837 q395098 = .inr (4, [.int p395130, .ref q395132, .int p395131]) := (n396839 q395098 (rn_oo he396808 he396813 (by decide))).trans he396808
                            have he396842 : F396837 q395132 = .inl (I (.object "java/lang/Object"), n395146, .inr (.inr (.inr (.inr f395147)))) := (n396839 q395132 (rn_ao he396809 he396813)).trans he396809
                            have he396843 : F396837 q395149 = .inr (17, [.ref q395159, .ref q395160, .int p395161, .int p395162]) := (n396839 q395149 (rn_oo he396810 he396813 (by decide))).trans he396810
                            have he396844 : F396837 q395159 = .inr (4, [.int p396069, .ref q396071, .int p396070]) := (n396839 q395159 (rn_oo he396811 he396813 (by decide))).trans he396811
                            have he396845 : F396837 q396071 = .inl (I (.object "java/lang/Object"), n396542, .inr (.inr (.inr (.inr f396543)))) := (n396839 q396071 (rn_ao he396812 he396813)).trans he396812
                            have he396846 : F396837 q396545 = .inr (20, [.int p396558, .int p369942, .int p396560, .int p369942, .int p396562, .int p396563, .int p396564]) := e396838
                            have hs396847 : rStr γ [1] F369939 F396837 := rStr_pu2 hs396814 n396839 ht396548 (by decide)
                            have fs396848 : rFs γ (γ 1 q369940) F369939 F396837 := rFs_put fs396815 n396839 ((show γ 1 q396545 = γ 1 q395159 from ht396549).trans ((show γ 1 q395159 = γ 1 q395149 from ht395164).trans ((show γ 1 q395149 = γ 1 q395098 from ht395156).trans (show γ 1 q395098 = γ 1 q369940 from ht395103))))
                            have fk396849 : rFk [1] γ F369939 F396837 := rFk_put fk396816 n396839 ht396548 (by decide)
                            have fq396850 : F396837 q396545 = cF (F396804 q396545) 1 (.int p369942) := by rw [he396846, he396813]; rfl
                            obtain ⟨z396851, hz396851⟩ : ∃ z : Int32, z = g396052 + Int32.ofInt 1 := ⟨_, rfl⟩
                            have ez396851 : z396851.toInt = g396052.toInt + 1 := gI_inc hz396851 (by decide) bg396052'' (by decide) (by decide)
                            have bz396851 : gB z396851 1 1000000 := ⟨by omega, by omega⟩
                            refine G_iinc (L' := [(5, .int z396851), (6, .ref q396545), (4, .ref q395149), (3, .int g395086), (0, .ref q369940), (1, .int p369941), (2, .int p369942)]) z396851 1 dr_cX17_rename_138 rfl hz396851.symm (Nat.le_of_ble_eq_true rfl) rfl ?_
                            refine G_goto 20 dr_cX17_rename_141 (by decide +kernel) ?_
                            have hT396852 : RS D I P369938 F396837 γ el := RS_set hT396818 n396839 ht396548 (by decide) ⟨p396558, p369942, p396560, p369942, p396562, p396563, p396564, he396846, bp396558, bp369942, bp396562, bp396563, bp396564, r396565, r396566, (Or.inr bp369942), r396568, r396569⟩
                            have of396853 : ∀ b, b ≠ q396545 → F396837 b = F396053 b := fun b hb => (n396839 b hb).trans (n396806 b hb)
                            refine G_lv (L' := [(5, .int z396851), (4, .ref q395149), (3, .int g395086), (0, .ref q369940), (1, .int p369941), (2, .int p369942)]) [0, 2, 3, 4, 5, 6] rfl ?_
                            exact ih20_396058 F396837 z396851 (gB_w bz396851 (by decide) (by decide)) hT396852 hs396847 (fun N hv hu hp => rPl_put hT396054 htq369940 rfl (x396056 N hv hu hp) of396853 hp396570 nb396573 hL396571 (fun _ _ _ _ z => z) (rNx_ren he396557 he396846 hu hv (Or.inl rfl) (Or.inr rfl) (Or.inr ⟨rfl, by first | assumption | omega⟩) (by rw [← hp396570]; exact x396056 N hv hu hp _ nb396573 _ hL396571))) fk396849 fs396848 (fun k e1 ht => kt20_396059 k e1 (fun R c1 c2 c3 c4 c5 c6 c7 c8 c9 c10 c11 c12 c13 c14 c15 c16 c17 c18 c19 c20 c21 c22 c23 c24 c25 c26 c27 c28 c29 c30 c31 c32 c33 c34 c35 c36 c37 c38 c39 c40 c41 c42 c43 c44 c45 c46 c47 c48 c49 c50 c51 c52 c53 c54 c55 => c46 F396053 g396052 q395159 p396070 q396545 p396558 p396563 o396581 p396560 p396564 o396728 p396561 F396804 o396826 p396559 F396837 z396851 k e1 bg396052 hT396054 hs396055 x396056 x396057 x396058 fq396066 fq396077 fq396078 r396088 fq396089 r396533 hx396546 ht396555 fq396574 fq396575 bo396581 ht396583 r396718 fq396719 r396721 fq396722 bo396728 ht396730 r396766 fq396767 r396803 n396806 fq396817 fq396820 bo396826 ht396827 r396831 fq396832 r396836 n396839 fq396850 ez396851 (ht R c1 c2 c3 c4 c5 c6 c7 c8 c9 c10 c11 c12 c13 c14 c15 c16 c17 c18 c19 c20 c21 c22 c23 c24 c25 c26 c27 c28 c29 c30 c31 c32 c33 c34 c35 c36 c37 c38 c39 c40 c41 c42 c43 c44 c45 c46 c47 c48 c49 c50 c51 c52 c53 c54 c55))) (mz_up ez396851 (Int.le_trans bg396052''.2 (by decide)) hm20_396058)
                  · have r396854 : p396560.toInt = p369941.toInt := gC_eq hc396720
                    have bp396560' : gB p396560 0 1999 := ⟨by omega, by omega⟩
                    refine G_aload 0 dr_cX17_rename_86 rfl ?_
                    refine G_iload_n 6 dr_cX17_rename_88 rfl ?_
                    refine Gp_put 2 hm396556 he396557 dr_cX17_rename_89 (gk_X15 D I) (Nat.le_of_ble_eq_true rfl) wr_9_186 rfl rfl rfl (Nat.le_of_ble_eq_true rfl) (fun F396855 e396856 n396857 => ?_)
                    have he396858 : F396855 q369940 = .inr (18, [.ref q395098, .ref q395099, .int p395100, .int p395101]) := (n396857 q369940 (rn_oo he396061 he396557 (by decide))).trans he396061
                    have he396859 : F396855 q395098 = .inr (4, [.int p395130, .ref q395132, .int p395131]) := (n396857 q395098 (rn_oo he396062 he396557 (by decide))).trans he396062
                    have he396860 : F396855 q395132 = .inl (I (.object "java/lang/Object"), n395146, .inr (.inr (.inr (.inr f395147)))) := (n396857 q395132 (rn_ao he396063 he396557)).trans he396063
                    have he396861 : F396855 q395149 = .inr (17, [.ref q395159, .ref q395160, .int p395161, .int p395162]) := (n396857 q395149 (rn_oo he396064 he396557 (by decide))).trans he396064
                    have he396862 : F396855 q395159 = .inr (4, [.int p396069, .ref q396071, .int p396070]) := (n396857 q395159 (rn_oo he396068 he396557 (by decide))).trans he396068
                    have he396863 : F396855 q396071 = .inl (I (.object "java/lang/Object"), n396542, .inr (.inr (.inr (.inr f396543)))) := (n396857 q396071 (rn_ao r396536 he396557)).trans r396536
                    have he396864 : F396855 q396545 = .inr (20, [.int p396558, .int p396559, .int p369942, .int p396561, .int p396562, .int p396563, .int p396564]) := e396856
                    have hs396865 : rStr γ [1] F369939 F396855 := rStr_pu2 hs396055 n396857 ht396548 (by decide)
                    have fs396866 : rFs γ (γ 1 q369940) F369939 F396855 := rFs_put x396058 n396857 ((show γ 1 q396545 = γ 1 q395159 from ht396549).trans ((show γ 1 q395159 = γ 1 q395149 from ht395164).trans ((show γ 1 q395149 = γ 1 q395098 from ht395156).trans (show γ 1 q395098 = γ 1 q369940 from ht395103))))
                    have fk396867 : rFk [1] γ F369939 F396855 := rFk_put x396057 n396857 ht396548 (by decide)
                    have fq396868 : F396855 q396545 = cF (F396053 q396545) 2 (.int p369942) := by rw [he396864, he396557]; rfl
                    refine G_aload 0 dr_cX17_rename_92 rfl ?_
                    have hT396869 : RS D I P369938 F396855 γ el := RS_set hT396054 n396857 ht396548 (by decide) ⟨p396558, p396559, p369942, p396561, p396562, p396563, p396564, he396864, bp396558, bp396559, bp396562, bp396563, bp396564, r396565, (Or.inr bp369942), r396567, r396568, r396569⟩
                    have fq396871 : fI (F396855 q396545) 0 = p396558 := by rw [he396864]; rfl
                    have fq396872 : fI (F396855 q396545) 6 = p396564 := by rw [he396864]; rfl
                    refine Gw_callV (As := []) (gV_ok D I) (cp_1699_Row_usesB l hl0 D I P369938 F396855 q396545 p396558 p396559 p369942 p396561 p396562 p396563 p396564 hm396556 he396864 bp396558 bp396559 bp396562 bp396563 bp396564) dr_cX17_rename_94 ⟨wr_10_196, wr_1_39, wr_10_199, by decide, rfl, (Nat.le_of_ble_eq_true rfl), (Nat.le_of_ble_eq_true rfl)⟩ wr_10_197 wr_10_198 hm396556 he396864 rfl (show 0 + 0 ≤ 0 by first | omega | decide) (show 0 + 0 ≤ 0 by first | omega | decide) (Nat.le_of_ble_eq_true rfl) (fun r396876 w396877 dc396873 ds396874 hp396875 => ?_) (fun _ _ _ _ _ z => z.elim)
                    obtain ⟨o396878, rfl, rfl, hdc, hds, bo396878, x396879, ht396880⟩ := hp396875
                    change G _ _ _ _ _ _ _ (.int o396878 :: _) _ _ _
                    refine G_widen (cs' := 0) (sl' := 0) (by omega) (by omega) ?_
                    refine G_if_eq 115 dr_cX17_rename_97 (by decide +kernel) (fun hc396881 => ?_) (fun hc396881 => ?_)
                    · have r396882 : o396878.toInt = 0 := gj_eq hc396881 (show Int32.toInt 0 = 0 by decide)
                      have bo396878' : gB o396878 0 0 := gB_t0 r396882
                      refine G_aload 0 dr_cX17_rename_115 rfl ?_
                      refine Gw_callV (As := []) (gV_ok D I) (cp_1660_Row_sets l hl0 D I P369938 F396855 q396545 p396558 p396559 p369942 p396561 p396562 p396563 p396564 hm396556 he396864 bp396558 bp396559 bp396562 bp396563 bp396564) dr_cX17_rename_117 ⟨wr_10_181, wr_1_39, wr_10_184, by decide, rfl, (Nat.le_of_ble_eq_true rfl), (Nat.le_of_ble_eq_true rfl)⟩ wr_10_182 wr_10_183 hm396556 he396864 rfl (show 0 + 0 ≤ 0 by first | omega | decide) (show 0 + 0 ≤ 0 by first | omega | decide) (Nat.le_of_ble_eq_true rfl) (fun r396886 w396887 dc396883 ds396884 hp396885 => ?_) (fun _ _ _ _ _ z => z.elim)
                      obtain ⟨o396888, rfl, rfl, hdc, hds, bo396888, ht396889⟩ := hp396885
                      change G _ _ _ _ _ _ _ (.int o396888 :: _) _ _ _
                      refine G_widen (cs' := 0) (sl' := 0) (by omega) (by omega) ?_
                      refine G_if_eq 138 dr_cX17_rename_120 (by decide +kernel) (fun hc396890 => ?_) (fun hc396890 => ?_)
                      · have r396891 : o396888.toInt = 0 := gj_eq hc396890 (show Int32.toInt 0 = 0 by decide)
                        have bo396888' : gB o396888 0 0 := gB_t0 r396891
                        obtain ⟨z396892, hz396892⟩ : ∃ z : Int32, z = g396052 + Int32.ofInt 1 := ⟨_, rfl⟩
                        have ez396892 : z396892.toInt = g396052.toInt + 1 := gI_inc hz396892 (by decide) bg396052'' (by decide) (by decide)
                        have bz396892 : gB z396892 1 1000000 := ⟨by omega, by omega⟩
                        refine G_iinc (L' := [(5, .int z396892), (6, .ref q396545), (4, .ref q395149), (3, .int g395086), (0, .ref q369940), (1, .int p369941), (2, .int p369942)]) z396892 1 dr_cX17_rename_138 rfl hz396892.symm (Nat.le_of_ble_eq_true rfl) rfl ?_
                        refine G_goto 20 dr_cX17_rename_141 (by decide +kernel) ?_
                        refine G_lv (L' := [(5, .int z396892), (4, .ref q395149), (3, .int g395086), (0, .ref q369940), (1, .int p369941), (2, .int p369942)]) [0, 2, 3, 4, 5, 6] rfl ?_
                        exact ih20_396058 F396855 z396892 (gB_w bz396892 (by decide) (by decide)) hT396869 hs396865 (fun N hv hu hp => rPl_put hT396054 htq369940 rfl (x396056 N hv hu hp) n396857 hp396570 nb396573 hL396571 (fun _ _ _ _ z => z) (rNx_ren he396557 he396864 hu hv (Or.inr rfl) (Or.inl rfl) (Or.inl rfl) (by rw [← hp396570]; exact x396056 N hv hu hp _ nb396573 _ hL396571))) fk396867 fs396866 (fun k e1 ht => kt20_396059 k e1 (fun R c1 c2 c3 c4 c5 c6 c7 c8 c9 c10 c11 c12 c13 c14 c15 c16 c17 c18 c19 c20 c21 c22 c23 c24 c25 c26 c27 c28 c29 c30 c31 c32 c33 c34 c35 c36 c37 c38 c39 c40 c41 c42 c43 c44 c45 c46 c47 c48 c49 c50 c51 c52 c53 c54 c55 => c47 F396053 g396052 q395159 p396070 q396545 p396558 p396563 o396581 p396560 F396855 p396564 o396878 o396888 z396892 k e1 bg396052 hT396054 hs396055 x396056 x396057 x396058 fq396066 fq396077 fq396078 r396088 fq396089 r396533 hx396546 ht396555 fq396574 fq396575 bo396581 ht396583 r396718 fq396719 r396854 n396857 fq396868 fq396871 fq396872 bo396878 ht396880 r396882 bo396888 ht396889 r396891 ez396892 (ht R c1 c2 c3 c4 c5 c6 c7 c8 c9 c10 c11 c12 c13 c14 c15 c16 c17 c18 c19 c20 c21 c22 c23 c24 c25 c26 c27 c28 c29 c30 c31 c32 c33 c34 c35 c36 c37 c38 c39 c40 c41 c42 c43 c44 c45 c46 c47 c48 c49 c50 c51 c52 c53 c54 c55))) (mz_up ez396892 (Int.le_trans bg396052''.2 (by decide)) hm20_396058)
                      · have r396893 : o396888.toInt ≠ 0 := gj_neq hc396890 (show Int32.toInt 0 = 0 by decide)
                        have bo396888' : gB o396888 1 1 := gB_t1 bo396888 r396893
                        refine G_aload 0 dr_cX17_rename_123 rfl ?_
                        have fq396894 : fI (F396855 q396545) 1 = p396559 := by rw [he396864]; rfl
                        refine Gp_get 1 hm396556 he396864 dr_cX17_rename_125 (gk_X15 D I) (Nat.le_of_ble_eq_true rfl) wr_9_182 rfl ?_
                        refine G_iload_n 5 dr_cX17_rename_128 rfl ?_
                        refine G_icmp_ne 138 dr_cX17_rename_129 (by decide +kernel) (fun hc396895 => ?_) (fun hc396895 => ?_)
                        · have r396896 : p396559.toInt ≠ p369941.toInt := gC_ne hc396895
                          obtain ⟨z396897, hz396897⟩ : ∃ z : Int32, z = g396052 + Int32.ofInt 1 := ⟨_, rfl⟩
                          have ez396897 : z396897.toInt = g396052.toInt + 1 := gI_inc hz396897 (by decide) bg396052'' (by decide) (by decide)
                          have bz396897 : gB z396897 1 1000000 := ⟨by omega, by omega⟩
                          refine G_iinc (L' := [(5, .int z396897), (6, .ref q396545), (4, .ref q395149), (3, .int g395086), (0, .ref q369940), (1, .int p369941), (2, .int p369942)]) z396897 1 dr_cX17_rename_138 rfl hz396897.symm (Nat.le_of_ble_eq_true rfl) rfl ?_
                          refine G_goto 20 dr_cX17_rename_141 (by decide +kernel) ?_
                          refine G_lv (L' := [(5, .int z396897), (4, .ref q395149), (3, .int g395086), (0, .ref q369940), (1, .int p369941), (2, .int p369942)]) [0, 2, 3, 4, 5, 6] rfl ?_
                          exact ih20_396058 F396855 z396897 (gB_w bz396897 (by decide) (by decide)) hT396869 hs396865 (fun N hv hu hp => rPl_put hT396054 htq369940 rfl (x396056 N hv hu hp) n396857 hp396570 nb396573 hL396571 (fun _ _ _ _ z => z) (rNx_ren he396557 he396864 hu hv (Or.inr rfl) (Or.inl rfl) (Or.inl rfl) (by rw [← hp396570]; exact x396056 N hv hu hp _ nb396573 _ hL396571))) fk396867 fs396866 (fun k e1 ht => kt20_396059 k e1 (fun R c1 c2 c3 c4 c5 c6 c7 c8 c9 c10 c11 c12 c13 c14 c15 c16 c17 c18 c19 c20 c21 c22 c23 c24 c25 c26 c27 c28 c29 c30 c31 c32 c33 c34 c35 c36 c37 c38 c39 c40 c41 c42 c43 c44 c45 c46 c47 c48 c49 c50 c51 c52 c53 c54 c55 => c48 F396053 g396052 q395159 p396070 q396545 p396558 p396563 o396581 p396560 F396855 p396564 o396878 o396888 p396559 z396897 k e1 bg396052 hT396054 hs396055 x396056 x396057 x396058 fq396066 fq396077 fq396078 r396088 fq396089 r396533 hx396546 ht396555 fq396574 fq396575 bo396581 ht396583 r396718 fq396719 r396854 n396857 fq396868 fq396871 fq396872 bo396878 ht396880 r396882 bo396888 ht396889 r396893 fq396894 r396896 ez396897 (ht R c1 c2 c3 c4 c5 c6 c7 c8 c9 c10 c11 c12 c13 c14 c15 c16 c17 c18 c19 c20 c21 c22 c23 c24 c25 c26 c27 c28 c29 c30 c31 c32 c33 c34 c35 c36 c37 c38 c39 c40 c41 c42 c43 c44 c45 c46 c47 c48 c49 c50 c51 c52 c53 c54 c55))) (mz_up ez396897 (Int.le_trans bg396052''.2 (by decide)) hm20_396058)
                        · have r396898 : p396559.toInt = p369941.toInt := gC_eq hc396895
                          refine G_aload 0 dr_cX17_rename_132 rfl ?_
                          refine G_iload_n 6 dr_cX17_rename_134 rfl ?_
                          refine Gp_put 1 hm396556 he396864 dr_cX17_rename_135 (gk_X15 D I) (Nat.le_of_ble_eq_true rfl) wr_9_182 rfl rfl rfl (Nat.le_of_ble_eq_true rfl) (fun F396899 e396900 n396901 => ?_)
                          have he396902 : F396899 q369940 = .inr (18, [.ref q395098, .ref q395099, .int p395100, .int p395101]) := (n396901 q369940 (rn_oo he396858 he396864 (by decide))).trans he396858
                          have he396903 : F396899 q395098 = .inr (4, [.int p395130, .ref q395132, .int p395131]) := (n396901 q395098 (rn_oo he396859 he396864 (by decide))).trans he396859
                          have he396904 : F396899 q395132 = .inl (I (.object "java/lang/Object"), n395146, .inr (.inr (.inr (.inr f395147)))) := (n396901 q395132 (rn_ao he396860 he396864)).trans he396860
                          have he396905 : F396899 q395149 = .inr (17, [.ref q395159, .ref q395160, .int p395161, .int p395162]) := (n396901 q395149 (rn_oo he396861 he396864 (by decide))).trans he396861
                          have he396906 : F396899 q395159 = .inr (4, [.int p396069, .ref q396071, .int p396070]) := (n396901 q395159 (rn_oo he396862 he396864 (by decide))).trans he396862
                          have he396907 : F396899 q396071 = .inl (I (.object "java/lang/Object"), n396542, .inr (.inr (.inr (.inr f396543)))) := (n396901 q396071 (rn_ao he396863 he396864)).trans he396863
                          have he396908 : F396899 q396545 = .inr (20, [.int p396558, .int p369942, .int p369942, .int p396561, .int p396562, .int p396563, .int p396564]) := e396900
                          have hs396909 : rStr γ [1] F369939 F396899 := rStr_pu2 hs396865 n396901 ht396548 (by decide)
                          have fs396910 : rFs γ (γ 1 q369940) F369939 F396899 := rFs_put fs396866 n396901 ((show γ 1 q396545 = γ 1 q395159 from ht396549).trans ((show γ 1 q395159 = γ 1 q395149 from ht395164).trans ((show γ 1 q395149 = γ 1 q395098 from ht395156).trans (show γ 1 q395098 = γ 1 q369940 from ht395103))))
                          have fk396911 : rFk [1] γ F369939 F396899 := rFk_put fk396867 n396901 ht396548 (by decide)
                          have fq396912 : F396899 q396545 = cF (F396855 q396545) 1 (.int p369942) := by rw [he396908, he396864]; rfl
                          obtain ⟨z396913, hz396913⟩ : ∃ z : Int32, z = g396052 + Int32.ofInt 1 := ⟨_, rfl⟩
                          have ez396913 : z396913.toInt = g396052.toInt + 1 := gI_inc hz396913 (by decide) bg396052'' (by decide) (by decide)
                          have bz396913 : gB z396913 1 1000000 := ⟨by omega, by omega⟩
                          refine G_iinc (L' := [(5, .int z396913), (6, .ref q396545), (4, .ref q395149), (3, .int g395086), (0, .ref q369940), (1, .int p369941), (2, .int p369942)]) z396913 1 dr_cX17_rename_138 rfl hz396913.symm (Nat.le_of_ble_eq_true rfl) rfl ?_
                          refine G_goto 20 dr_cX17_rename_141 (by decide +kernel) ?_
                          have hT396914 : RS D I P369938 F396899 γ el := RS_set hT396869 n396901 ht396548 (by decide) ⟨p396558, p369942, p369942, p396561, p396562, p396563, p396564, he396908, bp396558, bp369942, bp396562, bp396563, bp396564, r396565, (Or.inr bp369942), r396567, r396568, r396569⟩
                          have of396915 : ∀ b, b ≠ q396545 → F396899 b = F396053 b := fun b hb => (n396901 b hb).trans (n396857 b hb)
                          refine G_lv (L' := [(5, .int z396913), (4, .ref q395149), (3, .int g395086), (0, .ref q369940), (1, .int p369941), (2, .int p369942)]) [0, 2, 3, 4, 5, 6] rfl ?_
                          exact ih20_396058 F396899 z396913 (gB_w bz396913 (by decide) (by decide)) hT396914 hs396909 (fun N hv hu hp => rPl_put hT396054 htq369940 rfl (x396056 N hv hu hp) of396915 hp396570 nb396573 hL396571 (fun _ _ _ _ z => z) (rNx_ren he396557 he396908 hu hv (Or.inr rfl) (Or.inl rfl) (Or.inr ⟨rfl, by first | assumption | omega⟩) (by rw [← hp396570]; exact x396056 N hv hu hp _ nb396573 _ hL396571))) fk396911 fs396910 (fun k e1 ht => kt20_396059 k e1 (fun R c1 c2 c3 c4 c5 c6 c7 c8 c9 c10 c11 c12 c13 c14 c15 c16 c17 c18 c19 c20 c21 c22 c23 c24 c25 c26 c27 c28 c29 c30 c31 c32 c33 c34 c35 c36 c37 c38 c39 c40 c41 c42 c43 c44 c45 c46 c47 c48 c49 c50 c51 c52 c53 c54 c55 => c49 F396053 g396052 q395159 p396070 q396545 p396558 p396563 o396581 p396560 F396855 p396564 o396878 o396888 p396559 F396899 z396913 k e1 bg396052 hT396054 hs396055 x396056 x396057 x396058 fq396066 fq396077 fq396078 r396088 fq396089 r396533 hx396546 ht396555 fq396574 fq396575 bo396581 ht396583 r396718 fq396719 r396854 n396857 fq396868 fq396871 fq396872 bo396878 ht396880 r396882 bo396888 ht396889 r396893 fq396894 r396898 n396901 fq396912 ez396913 (ht R c1 c2 c3 c4 c5 c6 c7 c8 c9 c10 c11 c12 c13 c14 c15 c16 c17 c18 c19 c20 c21 c22 c23 c24 c25 c26 c27 c28 c29 c30 c31 c32 c33 c34 c35 c36 c37 c38 c39 c40 c41 c42 c43 c44 c45 c46 c47 c48 c49 c50 c51 c52 c53 c54 c55))) (mz_up ez396913 (Int.le_trans bg396052''.2 (by decide)) hm20_396058)
                    · have r396916 : o396878.toInt ≠ 0 := gj_neq hc396881 (show Int32.toInt 0 = 0 by decide)
                      have bo396878' : gB o396878 1 1 := gB_t1 bo396878 r396916
                      refine G_aload 0 dr_cX17_rename_100 rfl ?_
                      have fq396917 : fI (F396855 q396545) 3 = p396561 := by rw [he396864]; rfl
                      refine Gp_get 3 hm396556 he396864 dr_cX17_rename_102 (gk_X15 D I) (Nat.le_of_ble_eq_true rfl) wr_9_190 rfl ?_
                      refine G_iload_n 5 dr_cX17_rename_105 rfl ?_
                      refine G_icmp_ne 115 dr_cX17_rename_106 (by decide +kernel) (fun hc396918 => ?_) (fun hc396918 => ?_)
                      · have r396919 : p396561.toInt ≠ p369941.toInt := gC_ne hc396918
                        refine G_aload 0 dr_cX17_rename_115 rfl ?_
                        refine Gw_callV (As := []) (gV_ok D I) (cp_1660_Row_sets l hl0 D I P369938 F396855 q396545 p396558 p396559 p369942 p396561 p396562 p396563 p396564 hm396556 he396864 bp396558 bp396559 bp396562 bp396563 bp396564) dr_cX17_rename_117 ⟨wr_10_181, wr_1_39, wr_10_184, by decide, rfl, (Nat.le_of_ble_eq_true rfl), (Nat.le_of_ble_eq_true rfl)⟩ wr_10_182 wr_10_183 hm396556 he396864 rfl (show 0 + 0 ≤ 0 by first | omega | decide) (show 0 + 0 ≤ 0 by first | omega | decide) (Nat.le_of_ble_eq_true rfl) (fun r396923 w396924 dc396920 ds396921 hp396922 => ?_) (fun _ _ _ _ _ z => z.elim)
                        obtain ⟨o396925, rfl, rfl, hdc, hds, bo396925, ht396926⟩ := hp396922
                        change G _ _ _ _ _ _ _ (.int o396925 :: _) _ _ _
                        refine G_widen (cs' := 0) (sl' := 0) (by omega) (by omega) ?_
                        refine G_if_eq 138 dr_cX17_rename_120 (by decide +kernel) (fun hc396927 => ?_) (fun hc396927 => ?_)
                        · have r396928 : o396925.toInt = 0 := gj_eq hc396927 (show Int32.toInt 0 = 0 by decide)
                          have bo396925' : gB o396925 0 0 := gB_t0 r396928
                          obtain ⟨z396929, hz396929⟩ : ∃ z : Int32, z = g396052 + Int32.ofInt 1 := ⟨_, rfl⟩
                          have ez396929 : z396929.toInt = g396052.toInt + 1 := gI_inc hz396929 (by decide) bg396052'' (by decide) (by decide)
                          have bz396929 : gB z396929 1 1000000 := ⟨by omega, by omega⟩
                          refine G_iinc (L' := [(5, .int z396929), (6, .ref q396545), (4, .ref q395149), (3, .int g395086), (0, .ref q369940), (1, .int p369941), (2, .int p369942)]) z396929 1 dr_cX17_rename_138 rfl hz396929.symm (Nat.le_of_ble_eq_true rfl) rfl ?_
                          refine G_goto 20 dr_cX17_rename_141 (by decide +kernel) ?_
                          refine G_lv (L' := [(5, .int z396929), (4, .ref q395149), (3, .int g395086), (0, .ref q369940), (1, .int p369941), (2, .int p369942)]) [0, 2, 3, 4, 5, 6] rfl ?_
                          exact ih20_396058 F396855 z396929 (gB_w bz396929 (by decide) (by decide)) hT396869 hs396865 (fun N hv hu hp => rPl_put hT396054 htq369940 rfl (x396056 N hv hu hp) n396857 hp396570 nb396573 hL396571 (fun _ _ _ _ z => z) (rNx_ren he396557 he396864 hu hv (Or.inr rfl) (Or.inl rfl) (Or.inl rfl) (by rw [← hp396570]; exact x396056 N hv hu hp _ nb396573 _ hL396571))) fk396867 fs396866 (fun k e1 ht => kt20_396059 k e1 (fun R c1 c2 c3 c4 c5 c6 c7 c8 c9 c10 c11 c12 c13 c14 c15 c16 c17 c18 c19 c20 c21 c22 c23 c24 c25 c26 c27 c28 c29 c30 c31 c32 c33 c34 c35 c36 c37 c38 c39 c40 c41 c42 c43 c44 c45 c46 c47 c48 c49 c50 c51 c52 c53 c54 c55 => c50 F396053 g396052 q395159 p396070 q396545 p396558 p396563 o396581 p396560 F396855 p396564 o396878 p396561 o396925 z396929 k e1 bg396052 hT396054 hs396055 x396056 x396057 x396058 fq396066 fq396077 fq396078 r396088 fq396089 r396533 hx396546 ht396555 fq396574 fq396575 bo396581 ht396583 r396718 fq396719 r396854 n396857 fq396868 fq396871 fq396872 bo396878 ht396880 r396916 fq396917 r396919 bo396925 ht396926 r396928 ez396929 (ht R c1 c2 c3 c4 c5 c6 c7 c8 c9 c10 c11 c12 c13 c14 c15 c16 c17 c18 c19 c20 c21 c22 c23 c24 c25 c26 c27 c28 c29 c30 c31 c32 c33 c34 c35 c36 c37 c38 c39 c40 c41 c42 c43 c44 c45 c46 c47 c48 c49 c50 c51 c52 c53 c54 c55))) (mz_up ez396929 (Int.le_trans bg396052''.2 (by decide)) hm20_396058)
                        · have r396930 : o396925.toInt ≠ 0 := gj_neq hc396927 (show Int32.toInt 0 = 0 by decide)
                          have bo396925' : gB o396925 1 1 := gB_t1 bo396925 r396930
                          refine G_aload 0 dr_cX17_rename_123 rfl ?_
                          have fq396931 : fI (F396855 q396545) 1 = p396559 := by rw [he396864]; rfl
                          refine Gp_get 1 hm396556 he396864 dr_cX17_rename_125 (gk_X15 D I) (Nat.le_of_ble_eq_true rfl) wr_9_182 rfl ?_
                          refine G_iload_n 5 dr_cX17_rename_128 rfl ?_
                          refine G_icmp_ne 138 dr_cX17_rename_129 (by decide +kernel) (fun hc396932 => ?_) (fun hc396932 => ?_)
                          · have r396933 : p396559.toInt ≠ p369941.toInt := gC_ne hc396932
                            obtain ⟨z396934, hz396934⟩ : ∃ z : Int32, z = g396052 + Int32.ofInt 1 := ⟨_, rfl⟩
                            have ez396934 : z396934.toInt = g396052.toInt + 1 := gI_inc hz396934 (by decide) bg396052'' (by decide) (by decide)
                            have bz396934 : gB z396934 1 1000000 := ⟨by omega, by omega⟩
                            refine G_iinc (L' := [(5, .int z396934), (6, .ref q396545), (4, .ref q395149), (3, .int g395086), (0, .ref q369940), (1, .int p369941), (2, .int p369942)]) z396934 1 dr_cX17_rename_138 rfl hz396934.symm (Nat.le_of_ble_eq_true rfl) rfl ?_
                            refine G_goto 20 dr_cX17_rename_141 (by decide +kernel) ?_
                            refine G_lv (L' := [(5, .int z396934), (4, .ref q395149), (3, .int g395086), (0, .ref q369940), (1, .int p369941), (2, .int p369942)]) [0, 2, 3, 4, 5, 6] rfl ?_
                            exact ih20_396058 F396855 z396934 (gB_w bz396934 (by decide) (by decide)) hT396869 hs396865 (fun N hv hu hp => rPl_put hT396054 htq369940 rfl (x396056 N hv hu hp) n396857 hp396570 nb396573 hL396571 (fun _ _ _ _ z => z) (rNx_ren he396557 he396864 hu hv (Or.inr rfl) (Or.inl rfl) (Or.inl rfl) (by rw [← hp396570]; exact x396056 N hv hu hp _ nb396573 _ hL396571))) fk396867 fs396866 (fun k e1 ht => kt20_396059 k e1 (fun R c1 c2 c3 c4 c5 c6 c7 c8 c9 c10 c11 c12 c13 c14 c15 c16 c17 c18 c19 c20 c21 c22 c23 c24 c25 c26 c27 c28 c29 c30 c31 c32 c33 c34 c35 c36 c37 c38 c39 c40 c41 c42 c43 c44 c45 c46 c47 c48 c49 c50 c51 c52 c53 c54 c55 => c51 F396053 g396052 q395159 p396070 q396545 p396558 p396563 o396581 p396560 F396855 p396564 o396878 p396561 o396925 p396559 z396934 k e1 bg396052 hT396054 hs396055 x396056 x396057 x396058 fq396066 fq396077 fq396078 r396088 fq396089 r396533 hx396546 ht396555 fq396574 fq396575 bo396581 ht396583 r396718 fq396719 r396854 n396857 fq396868 fq396871 fq396872 bo396878 ht396880 r396916 fq396917 r396919 bo396925 ht396926 r396930 fq396931 r396933 ez396934 (ht R c1 c2 c3 c4 c5 c6 c7 c8 c9 c10 c11 c12 c13 c14 c15 c16 c17 c18 c19 c20 c21 c22 c23 c24 c25 c26 c27 c28 c29 c30 c31 c32 c33 c34 c35 c36 c37 c38 c39 c40 c41 c42 c43 c44 c45 c46 c47 c48 c49 c50 c51 c52 c53 c54 c55))) (mz_up ez396934 (Int.le_trans bg396052''.2 (by decide)) hm20_396058)
                          · have r396935 : p396559.toInt = p369941.toInt := gC_eq hc396932
                            refine G_aload 0 dr_cX17_rename_132 rfl ?_
                            refine G_iload_n 6 dr_cX17_rename_134 rfl ?_
                            refine Gp_put 1 hm396556 he396864 dr_cX17_rename_135 (gk_X15 D I) (Nat.le_of_ble_eq_true rfl) wr_9_182 rfl rfl rfl (Nat.le_of_ble_eq_true rfl) (fun F396936 e396937 n396938 => ?_)
                            have he396939 : F396936 q369940 = .inr (18, [.ref q395098, .ref q395099, .int p395100, .int p395101]) := (n396938 q369940 (rn_oo he396858 he396864 (by decide))).trans he396858
                            have he396940 : F396936 q395098 = .inr (4, [.int p395130, .ref q395132, .int p395131]) := (n396938 q395098 (rn_oo he396859 he396864 (by decide))).trans he396859
                            have he396941 : F396936 q395132 = .inl (I (.object "java/lang/Object"), n395146, .inr (.inr (.inr (.inr f395147)))) := (n396938 q395132 (rn_ao he396860 he396864)).trans he396860
                            have he396942 : F396936 q395149 = .inr (17, [.ref q395159, .ref q395160, .int p395161, .int p395162]) := (n396938 q395149 (rn_oo he396861 he396864 (by decide))).trans he396861
                            have he396943 : F396936 q395159 = .inr (4, [.int p396069, .ref q396071, .int p396070]) := (n396938 q395159 (rn_oo he396862 he396864 (by decide))).trans he396862
                            have he396944 : F396936 q396071 = .inl (I (.object "java/lang/Object"), n396542, .inr (.inr (.inr (.inr f396543)))) := (n396938 q396071 (rn_ao he396863 he396864)).trans he396863
                            have he396945 : F396936 q396545 = .inr (20, [.int p396558, .int p369942, .int p369942, .int p396561, .int p396562, .int p396563, .int p396564]) := e396937
                            have hs396946 : rStr γ [1] F369939 F396936 := rStr_pu2 hs396865 n396938 ht396548 (by decide)
                            have fs396947 : rFs γ (γ 1 q369940) F369939 F396936 := rFs_put fs396866 n396938 ((show γ 1 q396545 = γ 1 q395159 from ht396549).trans ((show γ 1 q395159 = γ 1 q395149 from ht395164).trans ((show γ 1 q395149 = γ 1 q395098 from ht395156).trans (show γ 1 q395098 = γ 1 q369940 from ht395103))))
                            have fk396948 : rFk [1] γ F369939 F396936 := rFk_put fk396867 n396938 ht396548 (by decide)
                            have fq396949 : F396936 q396545 = cF (F396855 q396545) 1 (.int p369942) := by rw [he396945, he396864]; rfl
                            obtain ⟨z396950, hz396950⟩ : ∃ z : Int32, z = g396052 + Int32.ofInt 1 := ⟨_, rfl⟩
                            have ez396950 : z396950.toInt = g396052.toInt + 1 := gI_inc hz396950 (by decide) bg396052'' (by decide) (by decide)
                            have bz396950 : gB z396950 1 1000000 := ⟨by omega, by omega⟩
                            refine G_iinc (L' := [(5, .int z396950), (6, .ref q396545), (4, .ref q395149), (3, .int g395086), (0, .ref q369940), (1, .int p369941), (2, .int p369942)]) z396950 1 dr_cX17_rename_138 rfl hz396950.symm (Nat.le_of_ble_eq_true rfl) rfl ?_
                            refine G_goto 20 dr_cX17_rename_141 (by decide +kernel) ?_
                            have hT396951 : RS D I P369938 F396936 γ el := RS_set hT396869 n396938 ht396548 (by decide) ⟨p396558, p369942, p369942, p396561, p396562, p396563, p396564, he396945, bp396558, bp369942, bp396562, bp396563, bp396564, r396565, (Or.inr bp369942), r396567, r396568, r396569⟩
                            have of396952 : ∀ b, b ≠ q396545 → F396936 b = F396053 b := fun b hb => (n396938 b hb).trans (n396857 b hb)
                            refine G_lv (L' := [(5, .int z396950), (4, .ref q395149), (3, .int g395086), (0, .ref q369940), (1, .int p369941), (2, .int p369942)]) [0, 2, 3, 4, 5, 6] rfl ?_
                            exact ih20_396058 F396936 z396950 (gB_w bz396950 (by decide) (by decide)) hT396951 hs396946 (fun N hv hu hp => rPl_put hT396054 htq369940 rfl (x396056 N hv hu hp) of396952 hp396570 nb396573 hL396571 (fun _ _ _ _ z => z) (rNx_ren he396557 he396945 hu hv (Or.inr rfl) (Or.inl rfl) (Or.inr ⟨rfl, by first | assumption | omega⟩) (by rw [← hp396570]; exact x396056 N hv hu hp _ nb396573 _ hL396571))) fk396948 fs396947 (fun k e1 ht => kt20_396059 k e1 (fun R c1 c2 c3 c4 c5 c6 c7 c8 c9 c10 c11 c12 c13 c14 c15 c16 c17 c18 c19 c20 c21 c22 c23 c24 c25 c26 c27 c28 c29 c30 c31 c32 c33 c34 c35 c36 c37 c38 c39 c40 c41 c42 c43 c44 c45 c46 c47 c48 c49 c50 c51 c52 c53 c54 c55 => c52 F396053 g396052 q395159 p396070 q396545 p396558 p396563 o396581 p396560 F396855 p396564 o396878 p396561 o396925 p396559 F396936 z396950 k e1 bg396052 hT396054 hs396055 x396056 x396057 x396058 fq396066 fq396077 fq396078 r396088 fq396089 r396533 hx396546 ht396555 fq396574 fq396575 bo396581 ht396583 r396718 fq396719 r396854 n396857 fq396868 fq396871 fq396872 bo396878 ht396880 r396916 fq396917 r396919 bo396925 ht396926 r396930 fq396931 r396935 n396938 fq396949 ez396950 (ht R c1 c2 c3 c4 c5 c6 c7 c8 c9 c10 c11 c12 c13 c14 c15 c16 c17 c18 c19 c20 c21 c22 c23 c24 c25 c26 c27 c28 c29 c30 c31 c32 c33 c34 c35 c36 c37 c38 c39 c40 c41 c42 c43 c44 c45 c46 c47 c48 c49 c50 c51 c52 c53 c54 c55))) (mz_up ez396950 (Int.le_trans bg396052''.2 (by decide)) hm20_396058)
                      · have r396953 : p396561.toInt = p369941.toInt := gC_eq hc396918
                        have bp396561' : gB p396561 0 1999 := ⟨by omega, by omega⟩
                        refine G_aload 0 dr_cX17_rename_109 rfl ?_
                        refine G_iload_n 6 dr_cX17_rename_111 rfl ?_
                        refine Gp_put 3 hm396556 he396864 dr_cX17_rename_112 (gk_X15 D I) (Nat.le_of_ble_eq_true rfl) wr_9_190 rfl rfl rfl (Nat.le_of_ble_eq_true rfl) (fun F396954 e396955 n396956 => ?_)
                        have he396957 : F396954 q369940 = .inr (18, [.ref q395098, .ref q395099, .int p395100, .int p395101]) := (n396956 q369940 (rn_oo he396858 he396864 (by decide))).trans he396858
                        have he396958 : F396954 q395098 = .inr (4, [.int p395130, .ref q395132, .int p395131]) := (n396956 q395098 (rn_oo he396859 he396864 (by decide))).trans he396859
                        have he396959 : F396954 q395132 = .inl (I (.object "java/lang/Object"), n395146, .inr (.inr (.inr (.inr f395147)))) := (n396956 q395132 (rn_ao he396860 he396864)).trans he396860
                        have he396960 : F396954 q395149 = .inr (17, [.ref q395159, .ref q395160, .int p395161, .int p395162]) := (n396956 q395149 (rn_oo he396861 he396864 (by decide))).trans he396861
                        have he396961 : F396954 q395159 = .inr (4, [.int p396069, .ref q396071, .int p396070]) := (n396956 q395159 (rn_oo he396862 he396864 (by decide))).trans he396862
                        have he396962 : F396954 q396071 = .inl (I (.object "java/lang/Object"), n396542, .inr (.inr (.inr (.inr f396543)))) := (n396956 q396071 (rn_ao he396863 he396864)).trans he396863
                        have he396963 : F396954 q396545 = .inr (20, [.int p396558, .int p396559, .int p369942, .int p369942, .int p396562, .int p396563, .int p396564]) := e396955
                        have hs396964 : rStr γ [1] F369939 F396954 := rStr_pu2 hs396865 n396956 ht396548 (by decide)
                        have fs396965 : rFs γ (γ 1 q369940) F369939 F396954 := rFs_put fs396866 n396956 ((show γ 1 q396545 = γ 1 q395159 from ht396549).trans ((show γ 1 q395159 = γ 1 q395149 from ht395164).trans ((show γ 1 q395149 = γ 1 q395098 from ht395156).trans (show γ 1 q395098 = γ 1 q369940 from ht395103))))
                        have fk396966 : rFk [1] γ F369939 F396954 := rFk_put fk396867 n396956 ht396548 (by decide)
                        have fq396967 : F396954 q396545 = cF (F396855 q396545) 3 (.int p369942) := by rw [he396963, he396864]; rfl
                        refine G_aload 0 dr_cX17_rename_115 rfl ?_
                        have hT396968 : RS D I P369938 F396954 γ el := RS_set hT396869 n396956 ht396548 (by decide) ⟨p396558, p396559, p369942, p369942, p396562, p396563, p396564, he396963, bp396558, bp396559, bp396562, bp396563, bp396564, r396565, (Or.inr bp369942), (Or.inr bp369942), r396568, r396569⟩
                        have of396969 : ∀ b, b ≠ q396545 → F396954 b = F396053 b := fun b hb => (n396956 b hb).trans (n396857 b hb)
                        have fq396970 : fI (F396954 q396545) 0 = p396558 := by rw [he396963]; rfl
                        refine Gw_callV (As := []) (gV_ok D I) (cp_1660_Row_sets l hl0 D I P369938 F396954 q396545 p396558 p396559 p369942 p369942 p396562 p396563 p396564 hm396556 he396963 bp396558 bp396559 bp396562 bp396563 bp396564) dr_cX17_rename_117 ⟨wr_10_181, wr_1_39, wr_10_184, by decide, rfl, (Nat.le_of_ble_eq_true rfl), (Nat.le_of_ble_eq_true rfl)⟩ wr_10_182 wr_10_183 hm396556 he396963 rfl (show 0 + 0 ≤ 0 by first | omega | decide) (show 0 + 0 ≤ 0 by first | omega | decide) (Nat.le_of_ble_eq_true rfl) (fun r396974 w396975 dc396971 ds396972 hp396973 => ?_) (fun _ _ _ _ _ z => z.elim)
                        obtain ⟨o396976, rfl, rfl, hdc, hds, bo396976, ht396977⟩ := hp396973
                        change G _ _ _ _ _ _ _ (.int o396976 :: _) _ _ _
                        refine G_widen (cs' := 0) (sl' := 0) (by omega) (by omega) ?_
                        refine G_if_eq 138 dr_cX17_rename_120 (by decide +kernel) (fun hc396978 => ?_) (fun hc396978 => ?_)
                        · have r396979 : o396976.toInt = 0 := gj_eq hc396978 (show Int32.toInt 0 = 0 by decide)
                          have bo396976' : gB o396976 0 0 := gB_t0 r396979
                          obtain ⟨z396980, hz396980⟩ : ∃ z : Int32, z = g396052 + Int32.ofInt 1 := ⟨_, rfl⟩
                          have ez396980 : z396980.toInt = g396052.toInt + 1 := gI_inc hz396980 (by decide) bg396052'' (by decide) (by decide)
                          have bz396980 : gB z396980 1 1000000 := ⟨by omega, by omega⟩
                          refine G_iinc (L' := [(5, .int z396980), (6, .ref q396545), (4, .ref q395149), (3, .int g395086), (0, .ref q369940), (1, .int p369941), (2, .int p369942)]) z396980 1 dr_cX17_rename_138 rfl hz396980.symm (Nat.le_of_ble_eq_true rfl) rfl ?_
                          refine G_goto 20 dr_cX17_rename_141 (by decide +kernel) ?_
                          refine G_lv (L' := [(5, .int z396980), (4, .ref q395149), (3, .int g395086), (0, .ref q369940), (1, .int p369941), (2, .int p369942)]) [0, 2, 3, 4, 5, 6] rfl ?_
                          exact ih20_396058 F396954 z396980 (gB_w bz396980 (by decide) (by decide)) hT396968 hs396964 (fun N hv hu hp => rPl_put hT396054 htq369940 rfl (x396056 N hv hu hp) of396969 hp396570 nb396573 hL396571 (fun _ _ _ _ z => z) (rNx_ren he396557 he396963 hu hv (Or.inr rfl) (Or.inr rfl) (Or.inl rfl) (by rw [← hp396570]; exact x396056 N hv hu hp _ nb396573 _ hL396571))) fk396966 fs396965 (fun k e1 ht => kt20_396059 k e1 (fun R c1 c2 c3 c4 c5 c6 c7 c8 c9 c10 c11 c12 c13 c14 c15 c16 c17 c18 c19 c20 c21 c22 c23 c24 c25 c26 c27 c28 c29 c30 c31 c32 c33 c34 c35 c36 c37 c38 c39 c40 c41 c42 c43 c44 c45 c46 c47 c48 c49 c50 c51 c52 c53 c54 c55 => c53 F396053 g396052 q395159 p396070 q396545 p396558 p396563 o396581 p396560 F396855 p396564 o396878 p396561 F396954 o396976 z396980 k e1 bg396052 hT396054 hs396055 x396056 x396057 x396058 fq396066 fq396077 fq396078 r396088 fq396089 r396533 hx396546 ht396555 fq396574 fq396575 bo396581 ht396583 r396718 fq396719 r396854 n396857 fq396868 fq396871 fq396872 bo396878 ht396880 r396916 fq396917 r396953 n396956 fq396967 fq396970 bo396976 ht396977 r396979 ez396980 (ht R c1 c2 c3 c4 c5 c6 c7 c8 c9 c10 c11 c12 c13 c14 c15 c16 c17 c18 c19 c20 c21 c22 c23 c24 c25 c26 c27 c28 c29 c30 c31 c32 c33 c34 c35 c36 c37 c38 c39 c40 c41 c42 c43 c44 c45 c46 c47 c48 c49 c50 c51 c52 c53 c54 c55))) (mz_up ez396980 (Int.le_trans bg396052''.2 (by decide)) hm20_396058)
                        · have r396981 : o396976.toInt ≠ 0 := gj_neq hc396978 (show Int32.toInt 0 = 0 by decide)
                          have bo396976' : gB o396976 1 1 := gB_t1 bo396976 r396981
                          refine G_aload 0 dr_cX17_rename_123 rfl ?_
                          have fq396982 : fI (F396954 q396545) 1 = p396559 := by rw [he396963]; rfl
                          refine Gp_get 1 hm396556 he396963 dr_cX17_rename_125 (gk_X15 D I) (Nat.le_of_ble_eq_true rfl) wr_9_182 rfl ?_
                          refine G_iload_n 5 dr_cX17_rename_128 rfl ?_
                          refine G_icmp_ne 138 dr_cX17_rename_129 (by decide +kernel) (fun hc396983 => ?_) (fun hc396983 => ?_)
                          · have r396984 : p396559.toInt ≠ p369941.toInt := gC_ne hc396983
                            obtain ⟨z396985, hz396985⟩ : ∃ z : Int32, z = g396052 + Int32.ofInt 1 := ⟨_, rfl⟩
                            have ez396985 : z396985.toInt = g396052.toInt + 1 := gI_inc hz396985 (by decide) bg396052'' (by decide) (by decide)
                            have bz396985 : gB z396985 1 1000000 := ⟨by omega, by omega⟩
                            refine G_iinc (L' := [(5, .int z396985), (6, .ref q396545), (4, .ref q395149), (3, .int g395086), (0, .ref q369940), (1, .int p369941), (2, .int p369942)]) z396985 1 dr_cX17_rename_138 rfl hz396985.symm (Nat.le_of_ble_eq_true rfl) rfl ?_
                            refine G_goto 20 dr_cX17_rename_141 (by decide +kernel) ?_
                            refine G_lv (L' := [(5, .int z396985), (4, .ref q395149), (3, .int g395086), (0, .ref q369940), (1, .int p369941), (2, .int p369942)]) [0, 2, 3, 4, 5, 6] rfl ?_
                            exact ih20_396058 F396954 z396985 (gB_w bz396985 (by decide) (by decide)) hT396968 hs396964 (fun N hv hu hp => rPl_put hT396054 htq369940 rfl (x396056 N hv hu hp) of396969 hp396570 nb396573 hL396571 (fun _ _ _ _ z => z) (rNx_ren he396557 he396963 hu hv (Or.inr rfl) (Or.inr rfl) (Or.inl rfl) (by rw [← hp396570]; exact x396056 N hv hu hp _ nb396573 _ hL396571))) fk396966 fs396965 (fun k e1 ht => kt20_396059 k e1 (fun R c1 c2 c3 c4 c5 c6 c7 c8 c9 c10 c11 c12 c13 c14 c15 c16 c17 c18 c19 c20 c21 c22 c23 c24 c25 c26 c27 c28 c29 c30 c31 c32 c33 c34 c35 c36 c37 c38 c39 c40 c41 c42 c43 c44 c45 c46 c47 c48 c49 c50 c51 c52 c53 c54 c55 => c54 F396053 g396052 q395159 p396070 q396545 p396558 p396563 o396581 p396560 F396855 p396564 o396878 p396561 F396954 o396976 p396559 z396985 k e1 bg396052 hT396054 hs396055 x396056 x396057 x396058 fq396066 fq396077 fq396078 r396088 fq396089 r396533 hx396546 ht396555 fq396574 fq396575 bo396581 ht396583 r396718 fq396719 r396854 n396857 fq396868 fq396871 fq396872 bo396878 ht396880 r396916 fq396917 r396953 n396956 fq396967 fq396970 bo396976 ht396977 r396981 fq396982 r396984 ez396985 (ht R c1 c2 c3 c4 c5 c6 c7 c8 c9 c10 c11 c12 c13 c14 c15 c16 c17 c18 c19 c20 c21 c22 c23 c24 c25 c26 c27 c28 c29 c30 c31 c32 c33 c34 c35 c36 c37 c38 c39 c40 c41 c42 c43 c44 c45 c46 c47 c48 c49 c50 c51 c52 c53 c54 c55))) (mz_up ez396985 (Int.le_trans bg396052''.2 (by decide)) hm20_396058)
                          · have r396986 : p396559.toInt = p369941.toInt := gC_eq hc396983
                            refine G_aload 0 dr_cX17_rename_132 rfl ?_
                            refine G_iload_n 6 dr_cX17_rename_134 rfl ?_
                            refine Gp_put 1 hm396556 he396963 dr_cX17_rename_135 (gk_X15 D I) (Nat.le_of_ble_eq_true rfl) wr_9_182 rfl rfl rfl (Nat.le_of_ble_eq_true rfl) (fun F396987 e396988 n396989 => ?_)
                            have he396990 : F396987 q369940 = .inr (18, [.ref q395098, .ref q395099, .int p395100, .int p395101]) := (n396989 q369940 (rn_oo he396957 he396963 (by decide))).trans he396957
                            have he396991 : F396987 q395098 = .inr (4, [.int p395130, .ref q395132, .int p395131]) := (n396989 q395098 (rn_oo he396958 he396963 (by decide))).trans he396958
                            have he396992 : F396987 q395132 = .inl (I (.object "java/lang/Object"), n395146, .inr (.inr (.inr (.inr f395147)))) := (n396989 q395132 (rn_ao he396959 he396963)).trans he396959
                            have he396993 : F396987 q395149 = .inr (17, [.ref q395159, .ref q395160, .int p395161, .int p395162]) := (n396989 q395149 (rn_oo he396960 he396963 (by decide))).trans he396960
                            have he396994 : F396987 q395159 = .inr (4, [.int p396069, .ref q396071, .int p396070]) := (n396989 q395159 (rn_oo he396961 he396963 (by decide))).trans he396961
                            have he396995 : F396987 q396071 = .inl (I (.object "java/lang/Object"), n396542, .inr (.inr (.inr (.inr f396543)))) := (n396989 q396071 (rn_ao he396962 he396963)).trans he396962
                            have he396996 : F396987 q396545 = .inr (20, [.int p396558, .int p369942, .int p369942, .int p369942, .int p396562, .int p396563, .int p396564]) := e396988
                            have hs396997 : rStr γ [1] F369939 F396987 := rStr_pu2 hs396964 n396989 ht396548 (by decide)
                            have fs396998 : rFs γ (γ 1 q369940) F369939 F396987 := rFs_put fs396965 n396989 ((show γ 1 q396545 = γ 1 q395159 from ht396549).trans ((show γ 1 q395159 = γ 1 q395149 from ht395164).trans ((show γ 1 q395149 = γ 1 q395098 from ht395156).trans (show γ 1 q395098 = γ 1 q369940 from ht395103))))
                            have fk396999 : rFk [1] γ F369939 F396987 := rFk_put fk396966 n396989 ht396548 (by decide)
                            have fq397000 : F396987 q396545 = cF (F396954 q396545) 1 (.int p369942) := by rw [he396996, he396963]; rfl
                            obtain ⟨z397001, hz397001⟩ : ∃ z : Int32, z = g396052 + Int32.ofInt 1 := ⟨_, rfl⟩
                            have ez397001 : z397001.toInt = g396052.toInt + 1 := gI_inc hz397001 (by decide) bg396052'' (by decide) (by decide)
                            have bz397001 : gB z397001 1 1000000 := ⟨by omega, by omega⟩
                            refine G_iinc (L' := [(5, .int z397001), (6, .ref q396545), (4, .ref q395149), (3, .int g395086), (0, .ref q369940), (1, .int p369941), (2, .int p369942)]) z397001 1 dr_cX17_rename_138 rfl hz397001.symm (Nat.le_of_ble_eq_true rfl) rfl ?_
                            refine G_goto 20 dr_cX17_rename_141 (by decide +kernel) ?_
                            have hT397002 : RS D I P369938 F396987 γ el := RS_set hT396968 n396989 ht396548 (by decide) ⟨p396558, p369942, p369942, p369942, p396562, p396563, p396564, he396996, bp396558, bp369942, bp396562, bp396563, bp396564, r396565, (Or.inr bp369942), (Or.inr bp369942), r396568, r396569⟩
                            have of397003 : ∀ b, b ≠ q396545 → F396987 b = F396053 b := fun b hb => (n396989 b hb).trans (of396969 b hb)
                            refine G_lv (L' := [(5, .int z397001), (4, .ref q395149), (3, .int g395086), (0, .ref q369940), (1, .int p369941), (2, .int p369942)]) [0, 2, 3, 4, 5, 6] rfl ?_
                            exact ih20_396058 F396987 z397001 (gB_w bz397001 (by decide) (by decide)) hT397002 hs396997 (fun N hv hu hp => rPl_put hT396054 htq369940 rfl (x396056 N hv hu hp) of397003 hp396570 nb396573 hL396571 (fun _ _ _ _ z => z) (rNx_ren he396557 he396996 hu hv (Or.inr rfl) (Or.inr rfl) (Or.inr ⟨rfl, by first | assumption | omega⟩) (by rw [← hp396570]; exact x396056 N hv hu hp _ nb396573 _ hL396571))) fk396999 fs396998 (fun k e1 ht => kt20_396059 k e1 (fun R c1 c2 c3 c4 c5 c6 c7 c8 c9 c10 c11 c12 c13 c14 c15 c16 c17 c18 c19 c20 c21 c22 c23 c24 c25 c26 c27 c28 c29 c30 c31 c32 c33 c34 c35 c36 c37 c38 c39 c40 c41 c42 c43 c44 c45 c46 c47 c48 c49 c50 c51 c52 c53 c54 c55 => c55 F396053 g396052 q395159 p396070 q396545 p396558 p396563 o396581 p396560 F396855 p396564 o396878 p396561 F396954 o396976 p396559 F396987 z397001 k e1 bg396052 hT396054 hs396055 x396056 x396057 x396058 fq396066 fq396077 fq396078 r396088 fq396089 r396533 hx396546 ht396555 fq396574 fq396575 bo396581 ht396583 r396718 fq396719 r396854 n396857 fq396868 fq396871 fq396872 bo396878 ht396880 r396916 fq396917 r396953 n396956 fq396967 fq396970 bo396976 ht396977 r396981 fq396982 r396986 n396989 fq397000 ez397001 (ht R c1 c2 c3 c4 c5 c6 c7 c8 c9 c10 c11 c12 c13 c14 c15 c16 c17 c18 c19 c20 c21 c22 c23 c24 c25 c26 c27 c28 c29 c30 c31 c32 c33 c34 c35 c36 c37 c38 c39 c40 c41 c42 c43 c44 c45 c46 c47 c48 c49 c50 c51 c52 c53 c54 c55))) (mz_up ez397001 (Int.le_trans bg396052''.2 (by decide)) hm20_396058)
        exact hlp20_396058 (((1000002 : Int) - 0).toNat + 1) F395087 0 (gB_w (gBl (show Int32.toInt 0 = 0 by decide)) (by decide) (by decide)) hT395088 hs395089 x395090 x395091 x395092 (fun k e1 ht => ht) (Nat.lt_succ_self _)
  exact hlp2_395092 (((1000001 : Int) - 0).toNat + 1) F369939 0 (gB_w (gBl (show Int32.toInt 0 = 0 by decide)) (by decide) (by decide)) hT (rStr_rf (γ := γ) (W := [1]) (F := F369939)) (fun N _ _ h => h) (rFk_rf) (rFs_rf) (fun k e1 ht => ht) (Nat.lt_succ_self _)
/- tl_RModel_mayMerge_33: l5, l4; out: l4 -/
def tl_RModel_mayMerge_33 (D : va_G) (I : FieldType → ClassId) (γ el : Nat → Nat → Nat) (F : Nat → va_E) (q0 : Nat) (a1 : Int32) (a2 : Int32) (a3 : Int32) (s1 : Int32) (s2 : Int32) (k : Nat) (e1 : Int32) : Prop := ∀ R : (Int32) → (Int32) → Nat → (Int32) → Prop,
  (∀ (l5_1 : Int32) (l4_1 : Int32), gB l5_1 0 2000 → 2000 ≤ l5_1.toInt → R l5_1 l4_1 126 l4_1) →
  (∀ (l5_1 : Int32) (l4_1 : Int32) (x1 : Nat) (x2 : Nat → Int64) (x3 : Nat) (x4 : Nat → Int64) (x5 : Int32) (k : Nat) (e1 : Int32), gB l5_1 0 2000 → l5_1.toInt < 2000 → fR (F q0) 1 = (γ 9 1) → x1 = γ 11 a1.toInt.toNat → F x1 = .inl (I .long, 32, .inr (.inl x2)) → tr_RModel_has l5_1 x2 (0 : Int32) → x3 = γ 11 a2.toInt.toNat → F x3 = .inl (I .long, 32, .inr (.inl x4)) → tr_RModel_has l5_1 x4 (0 : Int32) → x5.toInt = l5_1.toInt + 1 → R x5 l4_1 k e1 → R l5_1 l4_1 k e1) →
  (∀ (l5_1 : Int32) (l4_1 : Int32) (x1 : Nat) (x2 : Nat → Int64) (x3 : Nat) (x4 : Nat → Int64) (x5 : Nat) (x6 : Nat → Int64) (x7 : Int32) (x8 : Int32) (x9 : Int32) (x10 : Int32) (k : Nat) (e1 : Int32), gB l5_1 0 2000 → l5_1.toInt < 2000 → fR (F q0) 1 = (γ 9 1) → x1 = γ 11 a1.toInt.toNat → F x1 = .inl (I .long, 32, .inr (.inl x2)) → tr_RModel_has l5_1 x2 (0 : Int32) → x3 = γ 11 a2.toInt.toNat → F x3 = .inl (I .long, 32, .inr (.inl x4)) → tr_RModel_has l5_1 x4 (1 : Int32) → x5 = γ 11 l5_1.toInt.toNat → F x5 = .inl (I .long, 32, .inr (.inl x6)) → tr_RModel_count x6 x7 → x8.toInt = x7.toInt - 0 → x8.toInt < a3.toInt → x9.toInt = l4_1.toInt + 0 → x10.toInt = l5_1.toInt + 1 → R x10 x9 k e1 → R l5_1 l4_1 k e1) →
  (∀ (l5_1 : Int32) (l4_1 : Int32) (x1 : Nat) (x2 : Nat → Int64) (x3 : Nat) (x4 : Nat → Int64) (x5 : Nat) (x6 : Nat → Int64) (x7 : Int32) (x8 : Int32) (x9 : Int32) (x10 : Int32) (k : Nat) (e1 : Int32), gB l5_1 0 2000 → l5_1.toInt < 2000 → fR (F q0) 1 = (γ 9 1) → x1 = γ 11 a1.toInt.toNat → F x1 = .inl (I .long, 32, .inr (.inl x2)) → tr_RModel_has l5_1 x2 (0 : Int32) → x3 = γ 11 a2.toInt.toNat → F x3 = .inl (I .long, 32, .inr (.inl x4)) → tr_RModel_has l5_1 x4 (1 : Int32) → x5 = γ 11 l5_1.toInt.toNat → F x5 = .inl (I .long, 32, .inr (.inl x6)) → tr_RModel_count x6 x7 → x8.toInt = x7.toInt - 0 → a3.toInt ≤ x8.toInt → x9 = l4_1 + (1 : Int32) → x10.toInt = l5_1.toInt + 1 → R x10 x9 k e1 → R l5_1 l4_1 k e1) →
  (∀ (l5_1 : Int32) (l4_1 : Int32) (x1 : Nat) (x2 : Nat → Int64) (x3 : Nat) (x4 : Nat → Int64) (x5 : Nat) (x6 : Nat → Int64) (x7 : Int32) (x8 : Int32) (x9 : Int32) (x10 : Int32) (k : Nat) (e1 : Int32), gB l5_1 0 2000 → l5_1.toInt < 2000 → fR (F q0) 1 = (γ 9 1) → x1 = γ 11 a1.toInt.toNat → F x1 = .inl (I .long, 32, .inr (.inl x2)) → tr_RModel_has l5_1 x2 (1 : Int32) → x3 = γ 11 a2.toInt.toNat → F x3 = .inl (I .long, 32, .inr (.inl x4)) → tr_RModel_has l5_1 x4 (0 : Int32) → x5 = γ 11 l5_1.toInt.toNat → F x5 = .inl (I .long, 32, .inr (.inl x6)) → tr_RModel_count x6 x7 → x8.toInt = x7.toInt - 0 → x8.toInt < a3.toInt → x9.toInt = l4_1.toInt + 0 → x10.toInt = l5_1.toInt + 1 → R x10 x9 k e1 → R l5_1 l4_1 k e1) →
  (∀ (l5_1 : Int32) (l4_1 : Int32) (x1 : Nat) (x2 : Nat → Int64) (x3 : Nat) (x4 : Nat → Int64) (x5 : Nat) (x6 : Nat → Int64) (x7 : Int32) (x8 : Int32) (x9 : Int32) (x10 : Int32) (k : Nat) (e1 : Int32), gB l5_1 0 2000 → l5_1.toInt < 2000 → fR (F q0) 1 = (γ 9 1) → x1 = γ 11 a1.toInt.toNat → F x1 = .inl (I .long, 32, .inr (.inl x2)) → tr_RModel_has l5_1 x2 (1 : Int32) → x3 = γ 11 a2.toInt.toNat → F x3 = .inl (I .long, 32, .inr (.inl x4)) → tr_RModel_has l5_1 x4 (0 : Int32) → x5 = γ 11 l5_1.toInt.toNat → F x5 = .inl (I .long, 32, .inr (.inl x6)) → tr_RModel_count x6 x7 → x8.toInt = x7.toInt - 0 → a3.toInt ≤ x8.toInt → x9 = l4_1 + (1 : Int32) → x10.toInt = l5_1.toInt + 1 → R x10 x9 k e1 → R l5_1 l4_1 k e1) →
  (∀ (l5_1 : Int32) (l4_1 : Int32) (x1 : Nat) (x2 : Nat → Int64) (x3 : Nat) (x4 : Nat → Int64) (x5 : Nat) (x6 : Nat → Int64) (x7 : Int32) (x8 : Int32) (x9 : Int32) (x10 : Int32) (k : Nat) (e1 : Int32), gB l5_1 0 2000 → l5_1.toInt < 2000 → fR (F q0) 1 = (γ 9 1) → x1 = γ 11 a1.toInt.toNat → F x1 = .inl (I .long, 32, .inr (.inl x2)) → tr_RModel_has l5_1 x2 (1 : Int32) → x3 = γ 11 a2.toInt.toNat → F x3 = .inl (I .long, 32, .inr (.inl x4)) → tr_RModel_has l5_1 x4 (1 : Int32) → x5 = γ 11 l5_1.toInt.toNat → F x5 = .inl (I .long, 32, .inr (.inl x6)) → tr_RModel_count x6 x7 → x8 = x7 - (1 : Int32) → x8.toInt < a3.toInt → x9.toInt = l4_1.toInt + 0 → x10.toInt = l5_1.toInt + 1 → R x10 x9 k e1 → R l5_1 l4_1 k e1) →
  (∀ (l5_1 : Int32) (l4_1 : Int32) (x1 : Nat) (x2 : Nat → Int64) (x3 : Nat) (x4 : Nat → Int64) (x5 : Nat) (x6 : Nat → Int64) (x7 : Int32) (x8 : Int32) (x9 : Int32) (x10 : Int32) (k : Nat) (e1 : Int32), gB l5_1 0 2000 → l5_1.toInt < 2000 → fR (F q0) 1 = (γ 9 1) → x1 = γ 11 a1.toInt.toNat → F x1 = .inl (I .long, 32, .inr (.inl x2)) → tr_RModel_has l5_1 x2 (1 : Int32) → x3 = γ 11 a2.toInt.toNat → F x3 = .inl (I .long, 32, .inr (.inl x4)) → tr_RModel_has l5_1 x4 (1 : Int32) → x5 = γ 11 l5_1.toInt.toNat → F x5 = .inl (I .long, 32, .inr (.inl x6)) → tr_RModel_count x6 x7 → x8 = x7 - (1 : Int32) → a3.toInt ≤ x8.toInt → x9 = l4_1 + (1 : Int32) → x10.toInt = l5_1.toInt + 1 → R x10 x9 k e1 → R l5_1 l4_1 k e1) →
  R s1 s2 k e1
/- tr_RModel_mayMerge: result -/
def tr_RModel_mayMerge (D : va_G) (I : FieldType → ClassId) (γ el : Nat → Nat → Nat) (F : Nat → va_E) (q0 : Nat) (a1 : Int32) (a2 : Int32) (a3 : Int32) (o1 : Int32) : Prop := ∀ R : (Int32) → Prop,
  (100 ≤ a1.toInt → R (0 : Int32)) →
  (a1.toInt < 100 → 100 ≤ a2.toInt → R (0 : Int32)) →
  (∀ (x1 : Nat) (x2 : Nat → Int64) (x3 : Int32), a1.toInt < 100 → a2.toInt < 100 → fR (F q0) 1 = (γ 9 1) → x1 = γ 11 a1.toInt.toNat → F x1 = .inl (I .long, 32, .inr (.inl x2)) → tr_RModel_has a2 x2 (0 : Int32) → tl_RModel_mayMerge_33 D I γ el F q0 a1 a2 a3 (0 : Int32) (0 : Int32) 126 x3 → a3.toInt ≤ x3.toInt → R (0 : Int32)) →
  (∀ (x1 : Nat) (x2 : Nat → Int64) (x3 : Int32), a1.toInt < 100 → a2.toInt < 100 → fR (F q0) 1 = (γ 9 1) → x1 = γ 11 a1.toInt.toNat → F x1 = .inl (I .long, 32, .inr (.inl x2)) → tr_RModel_has a2 x2 (0 : Int32) → tl_RModel_mayMerge_33 D I γ el F q0 a1 a2 a3 (0 : Int32) (0 : Int32) 126 x3 → x3.toInt < a3.toInt → R (1 : Int32)) →
  (∀ (x1 : Nat) (x2 : Nat → Int64), a1.toInt < 100 → a2.toInt < 100 → fR (F q0) 1 = (γ 9 1) → x1 = γ 11 a1.toInt.toNat → F x1 = .inl (I .long, 32, .inr (.inl x2)) → tr_RModel_has a2 x2 (1 : Int32) → R (0 : Int32)) →
  R o1
