theorem dr_cX17_zeros_0 : decode cX17_zeros 0 = .ok (.aload_n 0, 1) := by decide +kernel
theorem dr_cX17_zeros_1 : decode cX17_zeros 1 = .ok (.aload_n 1, 1) := by decide +kernel
theorem dr_cX17_zeros_2 : decode cX17_zeros 2 = .ok (.iconst 0, 1) := by decide +kernel
theorem dr_cX17_zeros_3 : decode cX17_zeros 3 = .ok (.invokevirtual 127, 3) := by decide +kernel
theorem dr_cX17_zeros_6 : decode cX17_zeros 6 = .ok (.iconst 0, 1) := by decide +kernel
theorem dr_cX17_zeros_7 : decode cX17_zeros 7 = .ok (.istore_n 2, 1) := by decide +kernel
theorem dr_cX17_zeros_8 : decode cX17_zeros 8 = .ok (.iconst 0, 1) := by decide +kernel
theorem dr_cX17_zeros_9 : decode cX17_zeros 9 = .ok (.istore_n 3, 1) := by decide +kernel
theorem dr_cX17_zeros_10 : decode cX17_zeros 10 = .ok (.iload_n 3, 1) := by decide +kernel
theorem dr_cX17_zeros_11 : decode cX17_zeros 11 = .ok (.sipush 2000, 3) := by decide +kernel
theorem dr_cX17_zeros_14 : decode cX17_zeros 14 = .ok (.if_icmp .ge 60, 3) := by decide +kernel
theorem dr_cX17_zeros_74 : decode cX17_zeros 74 = .ok (.return_, 1) := by decide +kernel
theorem dr_cX17_zeros_17 : decode cX17_zeros 17 = .ok (.aload_n 0, 1) := by decide +kernel
theorem dr_cX17_zeros_18 : decode cX17_zeros 18 = .ok (.getfield 88, 3) := by decide +kernel
theorem dr_cX17_zeros_21 : decode cX17_zeros 21 = .ok (.iconst 0, 1) := by decide +kernel
theorem dr_cX17_zeros_22 : decode cX17_zeros 22 = .ok (.aaload, 1) := by decide +kernel
theorem dr_cX17_zeros_23 : decode cX17_zeros 23 = .ok (.iload_n 3, 1) := by decide +kernel
theorem dr_cX17_zeros_24 : decode cX17_zeros 24 = .ok (.invokestatic 145, 3) := by decide +kernel
theorem dr_cX17_zeros_27 : decode cX17_zeros 27 = .ok (.ifCond .ne 6, 3) := by decide +kernel
theorem dr_cX17_zeros_30 : decode cX17_zeros 30 = .ok (.goto 38, 3) := by decide +kernel
theorem dr_cX17_zeros_68 : decode cX17_zeros 68 = .ok (.iinc 3 1, 3) := by decide +kernel
theorem dr_cX17_zeros_71 : decode cX17_zeros 71 = .ok (.goto (-61), 3) := by decide +kernel
theorem dr_cX17_zeros_33 : decode cX17_zeros 33 = .ok (.aload_n 1, 1) := by decide +kernel
theorem dr_cX17_zeros_34 : decode cX17_zeros 34 = .ok (.invokevirtual 177, 3) := by decide +kernel
theorem dr_cX17_zeros_37 : decode cX17_zeros 37 = .ok (.astore 4, 2) := by decide +kernel
theorem dr_cX17_zeros_39 : decode cX17_zeros 39 = .ok (.aload 4, 2) := by decide +kernel
theorem dr_cX17_zeros_41 : decode cX17_zeros 41 = .ok (.iconst 0, 1) := by decide +kernel
theorem dr_cX17_zeros_42 : decode cX17_zeros 42 = .ok (.putfield 39, 3) := by decide +kernel
theorem dr_cX17_zeros_45 : decode cX17_zeros 45 = .ok (.aload 4, 2) := by decide +kernel
theorem dr_cX17_zeros_47 : decode cX17_zeros 47 = .ok (.iload_n 3, 1) := by decide +kernel
theorem dr_cX17_zeros_48 : decode cX17_zeros 48 = .ok (.putfield 52, 3) := by decide +kernel
theorem dr_cX17_zeros_51 : decode cX17_zeros 51 = .ok (.aload_n 1, 1) := by decide +kernel
theorem dr_cX17_zeros_52 : decode cX17_zeros 52 = .ok (.iconst 0, 1) := by decide +kernel
theorem dr_cX17_zeros_53 : decode cX17_zeros 53 = .ok (.invokevirtual 101, 3) := by decide +kernel
theorem dr_cX17_zeros_56 : decode cX17_zeros 56 = .ok (.getfield 117, 3) := by decide +kernel
theorem dr_cX17_zeros_59 : decode cX17_zeros 59 = .ok (.iload_n 2, 1) := by decide +kernel
theorem dr_cX17_zeros_60 : decode cX17_zeros 60 = .ok (.aload 4, 2) := by decide +kernel
theorem dr_cX17_zeros_62 : decode cX17_zeros 62 = .ok (.invokevirtual 181, 3) := by decide +kernel
theorem dr_cX17_zeros_65 : decode cX17_zeros 65 = .ok (.iinc 2 1, 3) := by decide +kernel
abbrev ky_365076_SpillForgeModel_zeros : gKey := (cX17_zeros, 5, "SpillForgeModel", none, [], "zeros", fun _ _ => True)
def pg_365076_SpillForgeModel_zeros (D : va_G) (I : FieldType → ClassId) (γ0 el0 : Nat → Nat → Nat) (f : Nat) (B : Nat) (P365070 : List Nat) (F365071 : Nat → va_E) (q365072 : Nat) (q365073 : Nat) : Option Value → va_W → Nat → Nat → Prop := fun r w dc ds => ∃ (P368442 : List Nat) (F368443 : Nat → va_E) (γ el : Nat → Nat → Nat), r = none ∧ w = va_pl P368442 F368443 ∧ rSk f [101] ([1, 3, 5, 6, 8, 9, 101] ++ npk) D I P365070 F365071 γ0 el0 P368442 F368443 γ el ∧ (18 * dc + rPh γ0 el0 f ≤ rPh γ el f ∧ ds + rPh γ0 el0 f ≤ rPh γ el f) ∧ rBd γ el f B ∧ γ 6 f = γ0 6 f ∧ γ 7 f = γ0 7 f ∧ γ 16 f ≤ γ0 16 f + 2000 ∧ γ 18 f = γ0 18 f ∧ (F368443 q365072 = F365071 q365072) ∧ tr_RModel_zeros D I γ0 el0 f P365070 F365071 q365072 q365073 P368442 F368443 γ el
set_option maxRecDepth 100000 in
set_option maxHeartbeats 1500000 in
theorem cg_365076_SpillForgeModel_zeros (l : Launch) (hl0 : l.stackTraces = false) (D : va_G) (I : FieldType → ClassId) (γ0 el0 : Nat → Nat → Nat) (f : Nat) (B : Nat) (P365070 : List Nat) (F365071 : Nat → va_E) (q365072 : Nat) (q365073 : Nat) (hT0 : RS D I P365070 F365071 γ0 el0) (hzq365072 : rKd γ0 q365072 10) (hzq365073 : rKd γ0 q365073 9) (hf0 : γ0 1 q365073 = f) (hB0 : rBd γ0 el0 f B) (hBk : B ≤ 100000) (x365074 : 0 < γ0 6 f) (x365075 : γ0 16 f + 2000 ≤ B) : CtA (gV D I) l yX17_zeros cX17_zeros 5 none 8 170 (((387 * B + 6000) - rPh γ0 el0 f) / 18) ((387 * B + 6000) - rPh γ0 el0 f) [.ref q365072, .ref q365073] (va_pl P365070 F365071) (pg_365076_SpillForgeModel_zeros D I γ0 el0 f B P365070 F365071 q365072 q365073) gNA := by
  refine CtA_of hl0 (by decide) (Nat.le_of_ble_eq_true rfl) ?_
  obtain ⟨gm_0, hγ0⟩ : ∃ z, z = γ0 := ⟨_, rfl⟩
  obtain ⟨el_0, hel0⟩ : ∃ z, z = el0 := ⟨_, rfl⟩
  have hT : RS D I P365070 F365071 gm_0 el_0 := by rw [hγ0, hel0]; exact hT0
  have hst : rSk f [101] ([1, 3, 5, 6, 8, 9, 101] ++ npk) D I P365070 F365071 γ0 el0 P365070 F365071 gm_0 el_0 := by rw [hγ0, hel0]; exact rSk_rf hT0
  have hph : rPh γ0 el0 f ≤ rPh gm_0 el_0 f := by rw [hγ0, hel0]; exact Nat.le_refl _
  have hB : rBd gm_0 el_0 f B := by rw [hγ0, hel0]; exact hB0
  have htq365072 : rKd gm_0 q365072 10 := by rw [hγ0]; exact hzq365072
  have htq365073 : rKd gm_0 q365073 9 := by rw [hγ0]; exact hzq365073
  have hf1 : gm_0 1 q365073 = f := by rw [hγ0]; exact hf0
  have x365074n : 0 < gm_0 6 f := by rw [hγ0]; exact x365074
  have x365075n : gm_0 16 f + 2000 ≤ B := by rw [hγ0]; exact x365075
  have pk365077 : rPh gm_0 el_0 f ≤ 387 * B + 6000 := rm_pk (rM_ge hT htq365073 hf1).1 (rM_bd hB)
  refine G_widen (cs' := ((rPh gm_0 el_0 f - rPh γ0 el0 f) / 18)) (sl' := (rPh gm_0 el_0 f - rPh γ0 el0 f)) (Nat.zero_le _) (Nat.zero_le _) ?_
  have r365078 : 0 < gm_0 6 (gm_0 1 q365073) := by rw [hf1]; omega
  have lz0 : Int32.toInt 0 = 0 := by decide
  have r365079 : gm_0 6 f = γ0 6 f := by rw [hγ0]
  have r365080 : gm_0 7 f = γ0 7 f := by rw [hγ0]
  have r365081 : gm_0 16 f = γ0 16 f := by rw [hγ0]
  have r365082 : gm_0 18 f = γ0 18 f := by rw [hγ0]
  have r365083 : gm_0 19 f = γ0 19 f := by rw [hγ0]
  refine G_aload_n 0 dr_cX17_zeros_0 rfl ?_
  refine G_aload_n 1 dr_cX17_zeros_1 rfl ?_
  refine G_iconst 0 dr_cX17_zeros_2 (by decide +kernel) ?_
  have hm365089 : q365072 ∈ P365070 := RS_m hT htq365072 (by decide)
  obtain ⟨q365091, q365092, p365093, p365094, p365095, p365096, p365097, p365098, p365099, p365100, p365101, p365102, p365103, p365104, p365105, p365106, p365107, he365090, hB365134, ht365108, ht365109, ht365110, ht365111, ht365112, ht365113, ht365114, ht365115, ht365116, ht365117, ht365118, ht365119, ht365120, ht365121, ht365122, ht365123, ht365124, ht365125, ht365126, ht365127, ht365128, ht365129, ht365130, ht365131, hB365135⟩ := show rk_10 gm_0 (F365071 q365072) from RS_o hT htq365072
  refine Gw_callV (As := [.ref q365073, .int 0]) (gV_ok D I) (ct_225065_SpillForgeModel_findLive l hl0 D I gm_0 el_0 P365070 F365071 q365072 q365073 0 hT htq365072 htq365073 (gB_w (gBl (show Int32.toInt 0 = 0 by decide)) (by decide) (by decide)) (by omega)) dr_cX17_zeros_3 ⟨wr_10_156, wr_1_14, wr_10_159, by decide, rfl, (Nat.le_of_ble_eq_true rfl), (Nat.le_of_ble_eq_true rfl)⟩ wr_10_158 wr_p_94 hm365089 he365090 rfl (rm_zc pk365077) (rm_zs pk365077) (Nat.le_of_ble_eq_true rfl) (fun r365087 w365088 dc365084 ds365085 hp365086 => ?_) (fun _ _ _ _ _ z => z.elim)
  obtain ⟨F365138, rfl, rfl, hT365139, hs365140, hdc, hds, x365136, ht365137⟩ := hp365086
  have hs365141 := rSk_str hst hT365139 hs365140 (by decide) (by decide) (by decide)
  have kp365142 : F365138 q365072 = F365071 q365072 := x365136
  have he365143 : F365138 q365072 = .inr (22, [.ref (gm_0 9 0), .ref (gm_0 9 1), .ref (gm_0 9 2), .ref (gm_0 9 3), .ref (gm_0 9 4), .ref (gm_0 9 5), .ref (gm_0 9 6), .ref (gm_0 9 7), .ref (gm_0 9 8), .int p365093, .int p365094, .int p365095, .int p365096, .int p365097, .int p365098, .ref (gm_0 9 15), .ref (gm_0 9 16), .ref (gm_0 9 17), .ref (gm_0 9 18), .ref (gm_0 9 19), .ref (gm_0 9 20), .ref (gm_0 9 21), .ref (gm_0 9 22), .int p365099, .int p365100, .int p365101, .int p365102, .int p365103, .ref q365091, .ref (gm_0 9 29), .int p365104, .ref (gm_0 9 31), .int p365105, .int p365106, .int p365107, .ref q365092]) := (x365136).trans he365090
  change G _ _ _ _ _ _ _ _ _ _ _
  refine G_widen (cs' := ((rPh gm_0 el_0 f - rPh γ0 el0 f) / 18)) (sl' := (rPh gm_0 el_0 f - rPh γ0 el0 f)) (rm_d0 hdc) (rm_d0 hds) ?_
  refine G_iconst 0 dr_cX17_zeros_6 (by decide +kernel) ?_
  refine G_istore_n (L' := [(2, .int 0), (0, .ref q365072), (1, .ref q365073)]) dr_cX17_zeros_7 (Nat.le_of_ble_eq_true rfl) rfl ?_
  refine G_iconst 0 dr_cX17_zeros_8 (by decide +kernel) ?_
  refine G_istore_n (L' := [(3, .int 0), (2, .int 0), (0, .ref q365072), (1, .ref q365073)]) dr_cX17_zeros_9 (Nat.le_of_ble_eq_true rfl) rfl ?_
  have hlp10_368026 : ∀ (n10_368026 : Nat) (P368014 : List Nat) (F368015 : Nat → va_E) (gm_F368015 el_F368015 : Nat → Nat → Nat) (g368012 : Int32) (g368013 : Int32), gB g368012 0 2000 → gB g368013 0 2000 → RS D I P368014 F368015 gm_F368015 el_F368015 → rSk f [101] ([1, 3, 5, 6, 8, 9, 101] ++ npk) D I P365070 F365071 γ0 el0 P368014 F368015 gm_F368015 el_F368015 → rPh γ0 el0 f ≤ rPh gm_F368015 el_F368015 f → rBd gm_F368015 el_F368015 f B → gm_F368015 6 f = γ0 6 f → gm_F368015 7 f = γ0 7 f → gm_F368015 18 f = γ0 18 f → gm_F368015 16 f ≤ γ0 16 f + (g368013.toInt : Int).toNat → g368013.toInt ≤ g368012.toInt → (g368013.toInt : Int) ≤ gm_F368015 2 (gm_F368015 14 (el_F368015 (gm_F368015 14 q365073) (0 : Int32).toInt.toNat)) → (F368015 q365072 = F365071 q365072) → (∀ (k : Nat) (e1 : Nat → va_E) (e2 : List Nat) (e3 : Nat → Nat → Nat) (e4 : Nat → Nat → Nat), tl_RModel_zeros_10 D I γ0 el0 f P365070 F365071 q365073 q365072 P368014 F368015 gm_F368015 el_F368015 g368012 g368013 k e1 e2 e3 e4 → tl_RModel_zeros_10 D I γ0 el0 f P365070 F365071 q365073 q365072 P365070 F365138 gm_0 el_0 (0 : Int32) (0 : Int32) k e1 e2 e3 e4) → ((2001 : Int) - g368012.toInt).toNat < n10_368026 → G (gV D I) l (gRm 8 170 (((387 * B + 6000) - rPh γ0 el0 f) / 18) ((387 * B + 6000) - rPh γ0 el0 f)) (gMA (gV D I) (pg_365076_SpillForgeModel_zeros D I γ0 el0 f B P365070 F365071 q365072 q365073) gNA (((387 * B + 6000) - rPh γ0 el0 f) / 18) ((387 * B + 6000) - rPh γ0 el0 f)) ky_365076_SpillForgeModel_zeros 10 [(3, .int g368012), (2, .int g368013), (0, .ref q365072), (1, .ref q365073)] [] (va_pl P368014 F368015) ((rPh gm_F368015 el_F368015 f - rPh γ0 el0 f) / 18) (rPh gm_F368015 el_F368015 f - rPh γ0 el0 f) := by
    intro n10_368026
    induction n10_368026 with
    | zero => intro P368014 F368015 gm_F368015 el_F368015 g368012 g368013 bg368012 bg368013 hT368016 hs368017 hph368018 hB368019 x368020 x368021 x368022 x368023 x368024 x368025 x368026 kt10_368027 hm10_368026; exact absurd hm10_368026 (Nat.not_lt_zero _)
    | succ n10_368026 ih10_368026 =>
      intro P368014 F368015 gm_F368015 el_F368015 g368012 g368013 bg368012 bg368013 hT368016 hs368017 hph368018 hB368019 x368020 x368021 x368022 x368023 x368024 x368025 x368026 kt10_368027 hm10_368026
      clear r365079 r365080 r365081 r365082 r365083
      have ht368028 : rKd gm_F368015 q365072 10 := rSk_k hs368017 hzq365072 (by decide) (by decide)
      have ht368029 : rKd gm_F368015 q365073 9 := rSk_k hs368017 hzq365073 (by decide) (by decide)
      have hf368030 : gm_F368015 1 q365073 = f := rSk_1 hs368017 hzq365073 (by decide) hf0
      have pk368031 : rPh gm_F368015 el_F368015 f ≤ 387 * B + 6000 := rm_pk (rM_ge hT368016 ht368029 hf368030).1 (rM_bd hB368019)
      have r368032 : 0 < gm_F368015 6 (gm_F368015 1 q365073) := by rw [hf368030]; omega
      refine G_iload_n 0 dr_cX17_zeros_10 rfl ?_
      refine G_sipush 2000 dr_cX17_zeros_11 (by decide +kernel) ?_
      refine G_icmp_ge 74 dr_cX17_zeros_14 (by decide +kernel) (fun hc368033 => ?_) (fun hc368033 => ?_)
      · have r368034 : 2000 ≤ g368012.toInt := gj_leL hc368033 (show Int32.toInt 2000 = 2000 by decide)
        have bg368012' : gB g368012 2000 2000 := ⟨by omega, by omega⟩
        have hx368035 : tl_RModel_zeros_10 D I γ0 el0 f P365070 F365071 q365073 q365072 P365070 F365138 gm_0 el_0 (0 : Int32) (0 : Int32) 74 F368015 P368014 gm_F368015 el_F368015 := kt10_368027 74 F368015 P368014 gm_F368015 el_F368015 (fun R c1 c2 c3 => c1 P368014 F368015 gm_F368015 el_F368015 g368012 g368013 bg368012 bg368013 hT368016 hs368017 x368020 x368021 x368022 x368023 x368024 x368025 x368026 r368034)
        exact G_vretA dr_cX17_zeros_74 rfl (show ((rPh gm_F368015 el_F368015 f - rPh γ0 el0 f) / 18) ≤ (((387 * B + 6000) - rPh γ0 el0 f) / 18) by omega) (show (rPh gm_F368015 el_F368015 f - rPh γ0 el0 f) ≤ ((387 * B + 6000) - rPh γ0 el0 f) by omega) ⟨P368014, F368015, gm_F368015, el_F368015, rfl, rfl, hs368017, ⟨by omega, by omega⟩, hB368019, (by omega), (by omega), (by omega), (by omega), x368026, (fun R c1 => c1 gm_0 el_0 F365138 F368015 P368014 gm_F368015 el_F368015 hγ0 hel0 hT365139 hs365140 x365136 ht365137 hx368035)⟩
      · have r368036 : g368012.toInt < 2000 := gj_nleL hc368033 (show Int32.toInt 2000 = 2000 by decide)
        have bg368012' : gB g368012 0 1999 := ⟨by omega, by omega⟩
        refine G_aload_n 2 dr_cX17_zeros_17 rfl ?_
        have hm368037 : q365072 ∈ P368014 := RS_m hT368016 ht368028 (by decide)
        obtain ⟨q368039, q368040, p368041, p368042, p368043, p368044, p368045, p368046, p368047, p368048, p368049, p368050, p368051, p368052, p368053, p368054, p368055, he368038, hB368082, ht368056, ht368057, ht368058, ht368059, ht368060, ht368061, ht368062, ht368063, ht368064, ht368065, ht368066, ht368067, ht368068, ht368069, ht368070, ht368071, ht368072, ht368073, ht368074, ht368075, ht368076, ht368077, ht368078, ht368079, hB368083⟩ := show rk_10 gm_F368015 (F368015 q365072) from RS_o hT368016 ht368028
        have fq368084 : fR (F368015 q365072) 0 = (gm_F368015 9 0) := by rw [he368038]; rfl
        refine Gp_get 0 hm368037 he368038 dr_cX17_zeros_18 (gk_X17 D I) (Nat.le_of_ble_eq_true rfl) wr_7_74 rfl ?_
        refine G_iconst 0 dr_cX17_zeros_21 (by decide +kernel) ?_
        have hm368085 : (gm_F368015 9 0) ∈ P368014 := RS_m hT368016 ht368058 (by decide)
        obtain ⟨f368087, he368086, hg368088⟩ := show rk_12 I gm_F368015 (F368015 (gm_F368015 9 0)) from RS_o hT368016 ht368058
        obtain ⟨q368089, hx368091⟩ : ∃ x, x = gm_F368015 10 (0 : Int32).toInt.toNat := ⟨_, rfl⟩
        have ht368090 : rKd gm_F368015 q368089 11 := by rw [hx368091]; exact (hg368088 _ (by decide)).2.1
        refine Gp_aald 5 hm368085 he368086 dr_cX17_zeros_22 rfl rfl (gB_in (gBl (show Int32.toInt 0 = 0 by decide)) (by decide) (by decide)) ?_
        rw [show f368087 (0 : Int32).toNatClampNeg = some q368089 from (hg368088 _ (by decide)).1.trans (congrArg some hx368091.symm)]
        change G _ _ _ _ _ _ _ (.ref q368089 :: _) _ _ _
        refine G_iload_n 0 dr_cX17_zeros_23 rfl ?_
        have hm368092 : q368089 ∈ P368014 := RS_m hT368016 ht368090 (by decide)
        obtain ⟨f368094, he368093, wf368094⟩ := show rk_11 I (F368015 q368089) from RS_o hT368016 ht368090
        refine Gw_callS (As := [.ref q368089, .int g368012]) (gV_ok D I) (cp_1845_SpillForgeModel_has l hl0 D I P368014 F368015 q368089 g368012 f368094 hm368092 he368093 (gB_w bg368012' (by decide) (by decide))) dr_cX17_zeros_24 ⟨wr_10_203, wr_1_14, wr_10_205, by decide, rfl, (Nat.le_of_ble_eq_true rfl), (Nat.le_of_ble_eq_true rfl)⟩ wr_10_204 (rm_zc pk368031) (rm_zs pk368031) (Nat.le_of_ble_eq_true rfl) (fun r368098 w368099 dc368095 ds368096 hp368097 => ?_) (fun _ _ _ _ _ z => z.elim)
        rcases hp368097 with ⟨z368100, z368101, rfl, rfl, hdc, hds, r368102, r368103, r368104, r368105, r368106⟩ | ⟨z368107, z368108, rfl, rfl, hdc, hds, r368109, r368110, r368111, r368112, r368113⟩
        · change G _ _ _ _ _ _ _ (.int 0 :: _) _ _ _
          refine G_widen (cs' := ((rPh gm_F368015 el_F368015 f - rPh γ0 el0 f) / 18)) (sl' := (rPh gm_F368015 el_F368015 f - rPh γ0 el0 f)) (rm_d0 hdc) (rm_d0 hds) ?_
          refine G_if_ne 33 dr_cX17_zeros_27 (by decide +kernel) (fun hc => absurd hc (by decide)) (fun _ => ?_)
          refine G_goto 68 dr_cX17_zeros_30 (by decide +kernel) ?_
          obtain ⟨z368115, hz368115⟩ : ∃ z : Int32, z = g368012 + Int32.ofInt 1 := ⟨_, rfl⟩
          have ez368115 : z368115.toInt = g368012.toInt + 1 := gI_inc hz368115 (by decide) bg368012' (by decide) (by decide)
          have bz368115 : gB z368115 1 2000 := ⟨by omega, by omega⟩
          refine G_iinc (L' := [(3, .int z368115), (2, .int g368013), (0, .ref q365072), (1, .ref q365073)]) z368115 0 dr_cX17_zeros_68 rfl hz368115.symm (Nat.le_of_ble_eq_true rfl) rfl ?_
          refine G_goto 10 dr_cX17_zeros_71 (by decide +kernel) ?_
          exact ih10_368026 P368014 F368015 gm_F368015 el_F368015 z368115 g368013 (gB_w bz368115 (by decide) (by decide)) bg368013 hT368016 hs368017 hph368018 hB368019 (by omega) (by omega) (by omega) (by omega) (by omega) (by omega) x368026 (fun k e1 e2 e3 e4 ht => kt10_368027 k e1 e2 e3 e4 (fun R c1 c2 c3 => c2 P368014 F368015 gm_F368015 el_F368015 g368012 g368013 q368089 f368094 z368115 k e1 e2 e3 e4 bg368012 bg368013 hT368016 hs368017 x368020 x368021 x368022 x368023 x368024 x368025 x368026 r368036 fq368084 hx368091 he368093 r368106 ez368115 (ht R c1 c2 c3))) (by omega)
        · change G _ _ _ _ _ _ _ (.int 1 :: _) _ _ _
          refine G_widen (cs' := ((rPh gm_F368015 el_F368015 f - rPh γ0 el0 f) / 18)) (sl' := (rPh gm_F368015 el_F368015 f - rPh γ0 el0 f)) (rm_d0 hdc) (rm_d0 hds) ?_
          refine G_if_ne 33 dr_cX17_zeros_27 (by decide +kernel) (fun _ => ?_) (fun hc => absurd hc (by decide))
          have hm368116 : q365073 ∈ P368014 := RS_m hT368016 ht368029 (by decide)
          obtain ⟨q368118, q368119, p368120, p368121, he368117, ht368137, ht368122, ht368123, ht368124, ht368125, r368126, r368127, r368128, r368129, r368130, r368131, r368132, r368133, r368134, r368135, r368136⟩ := show rk_9 gm_F368015 el_F368015 q365073 (F368015 q365073) from RS_o hT368016 ht368029
          have bp368120 : gB p368120 0 1000000 := ⟨by omega, by omega⟩
          have bp368121 : gB p368121 0 1000000 := ⟨by omega, by omega⟩
          have hf368138 : gm_F368015 1 q368118 = f := (show gm_F368015 1 q368118 = gm_F368015 1 q365073 from ht368123).trans hf368030
          have hf368139 : gm_F368015 1 q368119 = f := (show gm_F368015 1 q368119 = gm_F368015 1 q365073 from ht368125).trans hf368030
          have r368140 : gm_F368015 6 (gm_F368015 1 q365073) = gm_F368015 6 f := by rw [hf368030]
          have r368141 : gm_F368015 16 (gm_F368015 1 q365073) = gm_F368015 16 f := by rw [hf368030]
          have r368142 : p368121.toInt = gm_F368015 6 f ∧ p368121.toInt ≤ 40 := by omega
          clear r368132
          have hm368143 : q368118 ∈ P368014 := RS_m hT368016 ht368122 (by decide)
          obtain ⟨⟨p368145, p368146, q368147, he368144, r368148, r368149, r368150, r368152⟩, r368151⟩ := show rk_4 D I gm_F368015 el_F368015 F368015 q368118 from RS_o hT368016 ht368122
          have bp368145 := gB_any p368145
          have bp368146 : gB p368146 0 1000000 := ⟨by omega, by omega⟩
          obtain ⟨r368153, r368154, n368161, f368162, r368155, r368156, r368157, r368158, r368159, r368160⟩ := rLC_n r368150 (by omega)
          have hm368163 : q368147 ∈ P368014 := RS_m hT368016 r368153 (by decide)
          obtain ⟨q368164, hx368165⟩ : ∃ x, x = el_F368015 q368118 (0 : Int32).toInt.toNat := ⟨_, rfl⟩
          have fq368169 : fR (F368015 q365073) 0 = q368118 := by rw [he368117]; rfl
          have hx368166 : f368162 (0 : Int32).toNatClampNeg = some q368164 := (r368159 _ (show (0 : Int32).toInt.toNat < gm_F368015 2 q368118 by first | assumption | omega)).trans (congrArg some hx368165.symm)
          have ht368170 : rKd gm_F368015 q368164 2 := by rw [hx368165]; exact (r368133 _ (by omega)).resolve_right (fun z => absurd z.1 (by omega))
          have ht368171 : rFm gm_F368015 q368164 q368118 := by rw [hx368165]; exact (r368151 _ (show (0 : Int32).toInt.toNat < gm_F368015 2 q368118 by omega)).2.1
          have hm368172 : q368164 ∈ P368014 := RS_m hT368016 ht368170 (by decide)
          obtain ⟨q368174, q368175, p368176, p368177, he368173, ht368184, ht368178, ht368179, ht368180, ht368181, ht368182, bp368176, bp368177, r368183, r368185, r368186⟩ := show rk_2 gm_F368015 q368164 (F368015 q368164) from RS_o hT368016 ht368170
          have hf368187 : gm_F368015 1 q368164 = f := (show gm_F368015 1 q368164 = gm_F368015 1 q368118 from ht368171).trans ((show gm_F368015 1 q368118 = gm_F368015 1 q365073 from ht368123).trans hf368030)
          have hf368188 : gm_F368015 1 q368174 = f := (show gm_F368015 1 q368174 = gm_F368015 1 q368164 from ht368179).trans hf368187
          have hf368189 : gm_F368015 1 q368175 = f := (show gm_F368015 1 q368175 = gm_F368015 1 q368164 from ht368181).trans hf368187
          have r368190 : gm_F368015 6 (gm_F368015 1 q368164) = gm_F368015 6 f := by rw [hf368187]
          have r368191 : gm_F368015 7 (gm_F368015 1 q368164) = gm_F368015 7 f := by rw [hf368187]
          have r368192 : gm_F368015 19 (gm_F368015 1 q368164) = gm_F368015 19 f := by rw [hf368187]
          have r368193 := r368183.resolve_left (by omega)
          clear r368183
          have r368194 : gm_F368015 2 (gm_F368015 14 q368164) = gm_F368015 2 q368174 := by rw [ht368184.1]
          have r368195 : (0 : Int32).toInt.toNat < gm_F368015 2 (gm_F368015 14 q365073) := by rw [ht368137.1]; omega
          have r368196 : el_F368015 (gm_F368015 14 q365073) (0 : Int32).toInt.toNat = q368164 := by rw [ht368137.1, hx368165]
          have sz368197 : gm_F368015 2 (gm_F368015 14 (el_F368015 (gm_F368015 14 q365073) (0 : Int32).toInt.toNat)) = gm_F368015 2 (gm_F368015 14 q368164) := by rw [r368196]
          refine G_aload_n 3 dr_cX17_zeros_33 rfl ?_
          have rg368198 := rM_ge hT368016 ht368029 hf368030
          have rm368199 := rM_bd hB368019
          have bd368200 := rBd_c hT368016 ht368029 hf368030 hB368019
          have rc368201 := rc_at hT368016 ht368029 hf368030
          obtain ⟨q368208, hl368209⟩ : ∃ z, z = gm_F368015 14 q368164 := ⟨_, rfl⟩
          have hl368210 : gm_F368015 0 q368208 = 3 ∨ gm_F368015 0 q368208 = 103 := by rw [hl368209, ← r368196]; exact (RS_lst hT368016 rc368201.2.1 r368195).1
          refine Gt_row (c := q365073) (f := f) hl0 dr_cX17_zeros_34 ⟨wr_10_206, wr_1_15, wr_10_82, by decide, rfl, (Nat.le_of_ble_eq_true rfl), (Nat.le_of_ble_eq_true rfl)⟩ wr_10_80 wr_10_81 hT368016 ht368029 hf368030 (Nat.le_trans bd368200.2.2.1 (Nat.le_trans hBk (by decide))) (rm_cs hph368018 rg368198.2.1 rm368199 (by decide)) (rm_sl hph368018 rg368198.2.1 rm368199 rm_s18) (Nat.le_of_ble_eq_true rfl) (fun P368202 F368203 gm_F368203 el_F368203 q368204 dc368205 ds368206 hq368207 => ?_)
          have hq368211 := hq368207
          obtain ⟨hk368212, x0368213, x1368214, x22368215, x8368216, h16368217, h18368218, hnu368219, hot368220, h45368221, hf0368222, ⟨hr1368223, hr2368224⟩, hM368225, hBB368226⟩ := hq368207
          have hk368227 := rSk_of hk368212
          obtain ⟨nu368228, nu368229, nu368230, nu368231⟩ := hnu368219
          have hT368232 := hk368227.1
          have hs368233 := rSk_tr hs368017 hk368227 (by decide) (by decide) (by decide)
          have kp368234 : F368203 q365072 = F365071 q365072 := (rSk_F hk368227 ht368028 (by decide) (by decide)).trans x368026
          have r368235 := rSk_F hk368227 ht368028 (by decide) (by decide)
          have ht368236 : rKd gm_F368203 q365072 10 := rSk_k hk368227 ht368028 (by decide) (by decide)
          have ht368237 : rKd gm_F368203 q365073 9 := rSk_k hk368227 ht368029 (by decide) (by decide)
          have hf368238 : gm_F368203 1 q365073 = f := rSk_1 hk368227 ht368029 (by decide) hf368030
          have ht368239 : rKd gm_F368203 q368164 2 := rSk_k hk368227 ht368170 (by decide) (by decide)
          have hf368240 : gm_F368203 1 q368164 = f := rSk_1 hk368227 ht368170 (by decide) hf368187
          have ht368241 : rKd gm_F368203 q368174 3 := rSk_k hk368227 ht368178 (by decide) (by decide)
          have hf368242 : gm_F368203 1 q368174 = f := rSk_1 hk368227 ht368178 (by decide) hf368188
          have r368243 := (rSk_s hk368227 ht368029 (by decide)).2.1
          have r368244 := hot368220 _ (by rw [rc368201.2.1]; decide) (by rw [rc368201.2.1]; decide)
          have r368245 : (0 : Int32).toInt.toNat < gm_F368203 2 (gm_F368203 14 q365073) := by rw [r368243, r368244.1]; exact r368195
          have r368246 : el_F368203 (gm_F368203 14 q365073) (0 : Int32).toInt.toNat = q368164 := by rw [r368243, r368244.2]; exact r368196
          clear r368126 r368127 r368128 r368129 r368130 r368131 r368133 r368134 r368135 r368136 bp368120 bp368121 bp368176 bp368177 r368185 r368186 rg368198 rm368199 bd368200 rc368201
          have r368247 : 0 < gm_F368203 6 (gm_F368203 1 q365073) := by rw [hf368238]; omega
          have sz368248 := (rSk_s hk368227 ht368170 (by decide)).2.1
          have sz368249 := congrArg (gm_F368203 2) sz368248
          have sz368250 := (hot368220 q368208 (by omega) (by omega)).1
          rw [hl368209] at sz368250
          clear hl368210
          have sz368251 := (hot368220 q368174 (rT0 ht368178 (by decide)) (by rw [show _ = 3 from ht368178]; decide)).1
          have r368252 := hf0368222.2.2
          have hB368253 : rBd gm_F368203 el_F368203 f B := hBB368226 B (by omega) hB368019
          have ht368254 : rKd gm_F368203 q368204 101 := x0368213
          have r368255 : gm_F368203 8 q368204 < gm_F368203 16 f := rm_x8 x8368216 h16368217 rfl
          have hph368256 : rPh γ0 el0 f ≤ rPh gm_F368203 el_F368203 f := rm_ph hph368018 hr2368224
          have pk368257 : rPh gm_F368203 el_F368203 f ≤ 387 * B + 6000 := rm_pk (rM_ge hT368232 ht368237 hf368238).1 (rM_bd hB368253)
          have hm368258 : q368204 ∈ P368202 := RS_m hT368232 ht368254 (by decide)
          obtain ⟨p368260, p368261, p368262, p368263, p368264, p368265, p368266, he368259, bp368260, bp368261, bp368264, bp368265, bp368266, r368267, r368268, r368269⟩ := show rkR (F368203 q368204) from RS_o hT368232 ht368254
          have bp368262 := gB_any p368262
          have bp368263 := gB_any p368263
          have r368270 : gm_F368203 7 (gm_F368203 1 q368204) = gm_F368203 7 f := by rw [x1368214]
          have r368271 : p368265.toInt = 0 := by have z := hf0368222.1; rw [he368259] at z; exact z
          have bp368265' : gB p368265 0 0 := ⟨by omega, by omega⟩
          have r368272 : p368266.toInt = 0 := by have z := hf0368222.2.1; rw [he368259] at z; exact z
          have bp368266' : gB p368266 0 0 := ⟨by omega, by omega⟩
          refine G_widen (cs' := ((rPh gm_F368203 el_F368203 f - rPh γ0 el0 f) / 18)) (sl' := (rPh gm_F368203 el_F368203 f - rPh γ0 el0 f)) (rm_wc hph368018 hr1368223) (rm_ws hph368018 hr2368224) ?_
          refine G_astore (L' := [(4, .ref q368204), (3, .int g368012), (2, .int g368013), (0, .ref q365072), (1, .ref q365073)]) dr_cX17_zeros_37 (Nat.le_of_ble_eq_true rfl) rfl ?_
          refine G_aload 0 dr_cX17_zeros_39 rfl ?_
          refine G_iconst 0 dr_cX17_zeros_41 (by decide +kernel) ?_
          refine Gp_put 0 hm368258 he368259 dr_cX17_zeros_42 (gk_X15 D I) (Nat.le_of_ble_eq_true rfl) wr_9_177 rfl rfl rfl (Nat.le_of_ble_eq_true rfl) (fun F368273 e368274 n368275 => ?_)
          have he368276 : F368273 q368204 = .inr (20, [.int 0, .int p368261, .int p368262, .int p368263, .int p368264, .int p368265, .int p368266]) := e368274
          have kp368277 : F368273 q365072 = F365071 q365072 := (n368275 q365072 (rn_ty ht368236 ht368254 (by decide))).trans kp368234
          have fq368278 : F368273 q368204 = cF (F368203 q368204) 0 (.int 0) := by rw [he368276, he368259]; rfl
          refine G_aload 0 dr_cX17_zeros_45 rfl ?_
          refine G_iload_n 1 dr_cX17_zeros_47 rfl ?_
          refine Gp_put 1 hm368258 he368276 dr_cX17_zeros_48 (gk_X15 D I) (Nat.le_of_ble_eq_true rfl) wr_9_182 rfl rfl rfl (Nat.le_of_ble_eq_true rfl) (fun F368279 e368280 n368281 => ?_)
          have he368282 : F368279 q368204 = .inr (20, [.int 0, .int g368012, .int p368262, .int p368263, .int p368264, .int p368265, .int p368266]) := e368280
          have n368283 : ∀ b, b ≠ q368204 → F368279 b = F368203 b := fun b hb => (n368281 b hb).trans (n368275 b hb)
          have kp368284 : F368279 q365072 = F365071 q365072 := (n368281 q365072 (rn_ty ht368236 ht368254 (by decide))).trans kp368277
          have fq368285 : F368279 q368204 = cF (F368273 q368204) 1 (.int g368012) := by rw [he368282, he368276]; rfl
          refine G_aload_n 4 dr_cX17_zeros_51 rfl ?_
          refine G_iconst 0 dr_cX17_zeros_52 (by decide +kernel) ?_
          have hT368286 : RS D I P368202 F368279 gm_F368203 el_F368203 := RS_set hT368232 n368283 ht368254 (by decide) ⟨0, g368012, p368262, p368263, p368264, p368265, p368266, he368282, (gB_w (gBl (show Int32.toInt 0 = 0 by decide)) (by decide) (by decide)), bg368012', bp368264, (gB_w bp368265' (by decide) (by decide)), (gB_w bp368266' (by decide) (by decide)), (Or.inl (by decide)), r368268, r368269⟩
          have hs368287 := rSk_put hs368233 hT368286 n368283 ht368254 (by decide) (by decide)
          have hm368288 : q365073 ∈ P368202 := RS_m hT368286 ht368237 (by decide)
          obtain ⟨q368290, q368291, p368292, p368293, he368289, ht368309, ht368294, ht368295, ht368296, ht368297, r368298, r368299, r368300, r368301, r368302, r368303, r368304, r368305, r368306, r368307, r368308⟩ := show rk_9 gm_F368203 el_F368203 q365073 (F368279 q365073) from RS_o hT368286 ht368237
          have bp368292 : gB p368292 0 1000000 := ⟨by omega, by omega⟩
          have bp368293 : gB p368293 0 1000000 := ⟨by omega, by omega⟩
          have hf368310 : gm_F368203 1 q368290 = f := (show gm_F368203 1 q368290 = gm_F368203 1 q365073 from ht368295).trans hf368238
          have hf368311 : gm_F368203 1 q368291 = f := (show gm_F368203 1 q368291 = gm_F368203 1 q365073 from ht368297).trans hf368238
          have r368312 : gm_F368203 6 (gm_F368203 1 q365073) = gm_F368203 6 f := by rw [hf368238]
          have r368313 : gm_F368203 16 (gm_F368203 1 q365073) = gm_F368203 16 f := by rw [hf368238]
          have r368314 : p368293.toInt = gm_F368203 6 f ∧ p368293.toInt ≤ 40 := by omega
          clear r368304
          have hm368315 : q368290 ∈ P368202 := RS_m hT368286 ht368294 (by decide)
          obtain ⟨⟨p368317, p368318, q368319, he368316, r368320, r368321, r368322, r368324⟩, r368323⟩ := show rk_4 D I gm_F368203 el_F368203 F368279 q368290 from RS_o hT368286 ht368294
          have bp368317 := gB_any p368317
          have bp368318 : gB p368318 0 1000000 := ⟨by omega, by omega⟩
          obtain ⟨r368325, r368326, n368333, f368334, r368327, r368328, r368329, r368330, r368331, r368332⟩ := rLC_n r368322 (by omega)
          have hm368335 : q368319 ∈ P368202 := RS_m hT368286 r368325 (by decide)
          obtain ⟨q368336, hx368337⟩ : ∃ x, x = el_F368203 q368290 (0 : Int32).toInt.toNat := ⟨_, rfl⟩
          have fq368341 : fR (F368279 q365073) 0 = q368290 := by rw [he368289]; rfl
          have hx368338 : f368334 (0 : Int32).toNatClampNeg = some q368336 := (r368331 _ (show (0 : Int32).toInt.toNat < gm_F368203 2 q368290 by first | assumption | omega)).trans (congrArg some hx368337.symm)
          have ht368342 : rKd gm_F368203 q368336 2 := by rw [hx368337]; exact (r368305 _ (by omega)).resolve_right (fun z => absurd z.1 (by omega))
          have ht368343 : rFm gm_F368203 q368336 q368290 := by rw [hx368337]; exact (r368323 _ (show (0 : Int32).toInt.toNat < gm_F368203 2 q368290 by omega)).2.1
          have hm368344 : q368336 ∈ P368202 := RS_m hT368286 ht368342 (by decide)
          obtain ⟨q368346, q368347, p368348, p368349, he368345, ht368356, ht368350, ht368351, ht368352, ht368353, ht368354, bp368348, bp368349, r368355, r368357, r368358⟩ := show rk_2 gm_F368203 q368336 (F368279 q368336) from RS_o hT368286 ht368342
          have fq368359 : fI (F368279 q368290) 2 = p368318 := by rw [he368316]; rfl
          refine Gw_callV (As := [.int 0]) (gV_ok D I) (cp_7901_Code_get l hl0 D I P368202 F368279 q365073 q368290 q368319 0 q368291 p368292 p368293 p368317 p368318 f368334 n368333 q368336 q368346 q368347 p368348 p368349 hm368288 hm368315 hm368335 hm368344 he368289 he368316 r368327 he368345 (gB_w (gBl (show Int32.toInt 0 = 0 by decide)) (by decide) (by decide)) (gB_w bp368318 (by decide) (by decide)) (by have qa0 : Int32.toInt 0 = 0 := (by decide); omega) (by have qa0 : Int32.toInt 0 = 0 := (by decide); omega) (by assumption) (by have qa0 : Int32.toInt 0 = 0 := (by decide); omega)) dr_cX17_zeros_53 ⟨wr_10_161, wr_1_15, wr_10_141, by decide, rfl, (Nat.le_of_ble_eq_true rfl), (Nat.le_of_ble_eq_true rfl)⟩ wr_10_139 wr_10_140 hm368288 he368289 rfl (show ((rPh gm_F368203 el_F368203 f - rPh γ0 el0 f) / 18) + 0 + 0 ≤ (((387 * B + 6000) - rPh γ0 el0 f) / 18) by first | omega | decide) (show (rPh gm_F368203 el_F368203 f - rPh γ0 el0 f) + 0 + 0 ≤ ((387 * B + 6000) - rPh γ0 el0 f) by first | omega | decide) (Nat.le_of_ble_eq_true rfl) (fun r368363 w368364 dc368360 ds368361 hp368362 => ?_) (fun _ _ _ _ _ z => z.elim)
          obtain ⟨rfl, rfl, hdc, hds, ht368365⟩ := hp368362
          change G _ _ _ _ _ _ _ (.ref q368336 :: _) _ _ _
          refine G_widen (cs' := ((rPh gm_F368203 el_F368203 f - rPh γ0 el0 f) / 18) + 0 + 0) (sl' := (rPh gm_F368203 el_F368203 f - rPh γ0 el0 f) + 0 + 0) (by omega) (by omega) ?_
          have hf368366 : gm_F368203 1 q368336 = f := (show gm_F368203 1 q368336 = gm_F368203 1 q368290 from ht368343).trans ((show gm_F368203 1 q368290 = gm_F368203 1 q365073 from ht368295).trans hf368238)
          have hf368367 : gm_F368203 1 q368346 = f := (show gm_F368203 1 q368346 = gm_F368203 1 q368336 from ht368351).trans hf368366
          have hf368368 : gm_F368203 1 q368347 = f := (show gm_F368203 1 q368347 = gm_F368203 1 q368336 from ht368353).trans hf368366
          have r368369 : gm_F368203 6 (gm_F368203 1 q368336) = gm_F368203 6 f := by rw [hf368366]
          have r368370 : gm_F368203 7 (gm_F368203 1 q368336) = gm_F368203 7 f := by rw [hf368366]
          have r368371 : gm_F368203 19 (gm_F368203 1 q368336) = gm_F368203 19 f := by rw [hf368366]
          have r368372 := r368355.resolve_left (by omega)
          clear r368355
          have r368373 : gm_F368203 2 (gm_F368203 14 q368336) = gm_F368203 2 q368346 := by rw [ht368356.1]
          have r368374 : (0 : Int32).toInt.toNat < gm_F368203 2 (gm_F368203 14 q365073) := by rw [ht368309.1]; omega
          have r368375 : el_F368203 (gm_F368203 14 q365073) (0 : Int32).toInt.toNat = q368336 := by rw [ht368309.1, hx368337]
          have r368376 : q368336 = q368164 := r368375.symm.trans r368246
          have sz368377 : gm_F368203 2 (gm_F368203 14 q368336) = gm_F368203 2 (gm_F368203 14 q368164) := by rw [r368376]
          have fq368378 : fR (F368279 q368336) 0 = q368346 := by rw [he368345]; rfl
          refine Gp_get 0 hm368344 he368345 dr_cX17_zeros_56 (gk_X12 D I) (Nat.le_of_ble_eq_true rfl) wr_9_220 rfl ?_
          refine G_iload_n 2 dr_cX17_zeros_59 rfl ?_
          refine G_aload 0 dr_cX17_zeros_60 rfl ?_
          have rg368379 := rM_ge hT368286 ht368237 hf368238
          have rm368380 := rM_bd hB368253
          have bd368381 := rBd_c hT368286 ht368237 hf368238 hB368253
          have rc368382 := rc_at hT368286 ht368237 hf368238
          have r368384 : gm_F368203 14 (el_F368203 (gm_F368203 14 q365073) (0 : Int32).toInt.toNat) = q368346 := by rw [r368375]; exact ht368356.1
          have r368385 := rg368379.2.2 _ r368374
          rw [r368384] at r368385
          have r368386 := bd368381.2.2.2 _ r368374
          rw [r368384] at r368386
          have r368387 : gm_F368203 7 (gm_F368203 1 q368204) = gm_F368203 7 f := by rw [x1368214]
          have hx368388 : rk_1 gm_F368203 q368204 (F368279 q368204) := ⟨0, g368012, p368262, p368263, p368264, p368265, p368266, he368282, (gB_w (gBl (show Int32.toInt 0 = 0 by decide)) (by decide) (by decide)), bg368012', bp368264, (gB_w bp368265' (by decide) (by decide)), (gB_w bp368266' (by decide) (by decide)), (Or.inl (by decide)), r368268, r368269, (Or.inl ⟨by decide, by decide⟩), (Or.inl x22368215)⟩
          refine Gt_ins (c := q365073) (f := f) hl0 dr_cX17_zeros_62 ⟨wr_10_207, wr_1_18, wr_10_210, by decide, rfl, (Nat.le_of_ble_eq_true rfl), (Nat.le_of_ble_eq_true rfl)⟩ wr_10_208 wr_10_209 hT368286 ht368350 hf368367 ht368254 x1368214 x22368215 r368255 (by omega) ht368237 hf368238 r368374 r368384 hx368388 (by omega) (by omega) (Nat.le_trans r368386 (Nat.le_trans hBk (by decide))) (rm_cs hph368256 r368385 rm368380 (by decide)) (rm_sl hph368256 r368385 rm368380 rm_s11) (Nat.le_of_ble_eq_true rfl) (fun P368389 F368383 gm_F368383 el_F368383 dc368390 ds368391 hq368392 => ?_)
          have hq368393 := hq368392
          obtain ⟨hk368394, x0368395, h2368396, hel368397, hot368398, h16368399, h18368400, hnu368401, hFx368402, hr368403, hM368404, hBB368405⟩ := hq368392
          have hk368406 := rSk_of hk368394
          have r368407 : (fI (F368383 q365073) 3).toInt = (fI (F368279 q365073) 3).toInt := by rw [rSk_F hk368406 ht368237 (by decide) (by decide)]
          obtain ⟨nu368408, nu368409, nu368410, nu368411⟩ := hnu368401
          have hT368412 := hk368406.1
          have hs368413 := rSk_tr hs368287 hk368406 (by decide) (by decide) (by decide)
          have kp368414 : F368383 q365072 = F365071 q365072 := (rSk_F hk368406 ht368236 (by decide) (by decide)).trans kp368284
          have ht368415 : rKd gm_F368383 q365072 10 := rSk_k hk368406 ht368236 (by decide) (by decide)
          have ht368416 : rKd gm_F368383 q365073 9 := rSk_k hk368406 ht368237 (by decide) (by decide)
          have hf368417 : gm_F368383 1 q365073 = f := rSk_1 hk368406 ht368237 (by decide) hf368238
          have ht368418 : rKd gm_F368383 q368164 2 := rSk_k hk368406 ht368239 (by decide) (by decide)
          have hf368419 : gm_F368383 1 q368164 = f := rSk_1 hk368406 ht368239 (by decide) hf368240
          have ht368420 : rKd gm_F368383 q368174 3 := rSk_k hk368406 ht368241 (by decide) (by decide)
          have hf368421 : gm_F368383 1 q368174 = f := rSk_1 hk368406 ht368241 (by decide) hf368242
          have ht368422 : rKd gm_F368383 q368336 2 := rSk_k hk368406 ht368342 (by decide) (by decide)
          have hf368423 : gm_F368383 1 q368336 = f := rSk_1 hk368406 ht368342 (by decide) hf368366
          have ht368424 : rKd gm_F368383 q368346 3 := rSk_k hk368406 ht368350 (by decide) (by decide)
          have hf368425 : gm_F368383 1 q368346 = f := rSk_1 hk368406 ht368350 (by decide) hf368367
          have r368426 := (rSk_s hk368406 ht368237 (by decide)).2.1
          have r368427 := hot368398 _ (by rw [rc368382.2.1]; decide) (fun q => by rw [q, show _ = 3 from ht368350] at rc368382; exact absurd rc368382.2.1 (by decide))
          have r368428 : (0 : Int32).toInt.toNat < gm_F368383 2 (gm_F368383 14 q365073) := by rw [r368426, r368427.1]; exact r368245
          have r368429 : el_F368383 (gm_F368383 14 q365073) (0 : Int32).toInt.toNat = q368164 := by rw [r368426, r368427.2]; exact r368246
          have r368430 : (0 : Int32).toInt.toNat < gm_F368383 2 (gm_F368383 14 q365073) := by rw [r368426, r368427.1]; exact r368374
          have r368431 : el_F368383 (gm_F368383 14 q365073) (0 : Int32).toInt.toNat = q368336 := by rw [r368426, r368427.2]; exact r368375
          clear bp368260 bp368261 bp368264 bp368265 bp368266 bp368262 bp368263 r368298 r368299 r368300 r368301 r368302 r368303 r368305 r368306 r368307 r368308 bp368292 bp368293 bp368348 bp368349 r368357 r368358 rg368379 rm368380 bd368381 rc368382 r368385 r368386
          clear r368267 r368268 r368269
          have r368432 : 0 < gm_F368383 6 (gm_F368383 1 q365073) := by rw [hf368417]; omega
          first | have sz368433 := (hot368398 q368174 (rT0 ht368241 (by decide)) (by assumption)).1 | skip
          have ht368434 : rKd gm_F368383 q368204 1 := x0368395
          have hB368435 : rBd gm_F368383 el_F368383 f B := hBB368405 B hB368253
          have hph368436 : rPh γ0 el0 f ≤ rPh gm_F368383 el_F368383 f := rm_ph hph368256 hr368403.2
          have pk368437 : rPh gm_F368383 el_F368383 f ≤ 387 * B + 6000 := rm_pk (rM_ge hT368412 ht368416 hf368417).1 (rM_bd hB368435)
          refine G_widen (cs' := ((rPh gm_F368383 el_F368383 f - rPh γ0 el0 f) / 18)) (sl' := (rPh gm_F368383 el_F368383 f - rPh γ0 el0 f)) (rm_wc hph368256 hr368403.1) (rm_ws hph368256 hr368403.2) ?_
          have r368438 : gm_F368383 14 q368336 = q368346 := ((rSk_s (rSk_of hk368394) ht368342 (by decide)).2.1).trans ht368356.1
          have sz368439 : gm_F368383 2 (gm_F368383 14 q368336) = gm_F368383 2 q368346 := by rw [r368438]
          have bg368013' : gB g368013 0 1999 := ⟨by omega, by omega⟩
          obtain ⟨z368440, hz368440⟩ : ∃ z : Int32, z = g368013 + Int32.ofInt 1 := ⟨_, rfl⟩
          have ez368440 : z368440.toInt = g368013.toInt + 1 := gI_inc hz368440 (by decide) bg368013' (by decide) (by decide)
          have bz368440 : gB z368440 1 2000 := ⟨by omega, by omega⟩
          refine G_iinc (L' := [(2, .int z368440), (4, .ref q368204), (3, .int g368012), (0, .ref q365072), (1, .ref q365073)]) z368440 2 dr_cX17_zeros_65 rfl hz368440.symm (Nat.le_of_ble_eq_true rfl) rfl ?_
          obtain ⟨z368441, hz368441⟩ : ∃ z : Int32, z = g368012 + Int32.ofInt 1 := ⟨_, rfl⟩
          have ez368441 : z368441.toInt = g368012.toInt + 1 := gI_inc hz368441 (by decide) bg368012' (by decide) (by decide)
          have bz368441 : gB z368441 1 2000 := ⟨by omega, by omega⟩
          refine G_iinc (L' := [(3, .int z368441), (2, .int z368440), (4, .ref q368204), (0, .ref q365072), (1, .ref q365073)]) z368441 2 dr_cX17_zeros_68 rfl hz368441.symm (Nat.le_of_ble_eq_true rfl) rfl ?_
          refine G_goto 10 dr_cX17_zeros_71 (by decide +kernel) ?_
          refine G_lv (L' := [(3, .int z368441), (2, .int z368440), (0, .ref q365072), (1, .ref q365073)]) [0, 1, 3, 4] rfl ?_
          exact ih10_368026 P368389 F368383 gm_F368383 el_F368383 z368441 z368440 (gB_w bz368441 (by decide) (by decide)) (gB_w bz368440 (by decide) (by decide)) hT368412 hs368413 hph368436 hB368435 (by omega) (by omega) (by omega) (by omega) (by omega) (by rw [r368431]; omega) kp368414 (fun k e1 e2 e3 e4 ht => kt10_368027 k e1 e2 e3 e4 (fun R c1 c2 c3 => c3 P368014 F368015 gm_F368015 el_F368015 g368012 g368013 q368089 f368094 q368118 q368164 P368202 F368203 gm_F368203 el_F368203 q368204 dc368205 ds368206 F368273 F368279 q368290 q368336 p368318 q368346 P368389 F368383 gm_F368383 el_F368383 dc368390 ds368391 z368440 z368441 k e1 e2 e3 e4 bg368012 bg368013 hT368016 hs368017 x368020 x368021 x368022 x368023 x368024 x368025 x368026 r368036 fq368084 hx368091 he368093 r368113 fq368169 hx368165 hq368211 n368275 fq368278 n368281 fq368285 fq368341 hx368337 fq368359 ht368365 fq368378 hq368393 ez368440 ez368441 (ht R c1 c2 c3))) (by omega)
  exact hlp10_368026 (((2001 : Int) - 0).toNat + 1) P365070 F365138 gm_0 el_0 0 0 (gB_w (gBl (show Int32.toInt 0 = 0 by decide)) (by decide) (by decide)) (gB_w (gBl (show Int32.toInt 0 = 0 by decide)) (by decide) (by decide)) hT365139 hs365141 hph hB (by have qa0 : Int32.toInt 0 = 0 := (by decide); omega) (by have qa0 : Int32.toInt 0 = 0 := (by decide); omega) (by have qa0 : Int32.toInt 0 = 0 := (by decide); omega) (by have qa0 : Int32.toInt 0 = 0 := (by decide); omega) (by have qa0 : Int32.toInt 0 = 0 := (by decide); omega) (by have qa : Int32.toInt 0 = 0 := (by decide); omega) kp365142 (fun k e1 e2 e3 e4 ht => ht) (Nat.lt_succ_self _)
