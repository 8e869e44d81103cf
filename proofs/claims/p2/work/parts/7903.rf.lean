abbrev ky_276829_SpillForgeModel_behind : gKey := (cX17_behind, 4, "SpillForgeModel", none, [], "behind", fun _ _ => True)
def pt_276829_SpillForgeModel_behind (D : va_G) (I : FieldType → ClassId) (γ el : Nat → Nat → Nat) (P276825 : List Nat) (F276826 : Nat → va_E) (q276827 : Nat) (q276828 : Nat) : Option Value → va_W → Nat → Nat → Prop := fun r w dc ds => ∃ (F279504 : Nat → va_E), r = none ∧ w = va_pl P276825 F279504 ∧ RS D I P276825 F279504 γ el ∧ rStr γ [] F276826 F279504 ∧ dc ≤ 0 ∧ ds ≤ 0 ∧ (F279504 q276827 = F276826 q276827) ∧ (F279504 (γ 9 3) = F276826 (γ 9 3))
set_option maxRecDepth 100000 in
set_option maxHeartbeats 4000000 in
theorem ct_276829_SpillForgeModel_behind (l : Launch) (hl0 : l.stackTraces = false) (D : va_G) (I : FieldType → ClassId) (γ el : Nat → Nat → Nat) (P276825 : List Nat) (F276826 : Nat → va_E) (q276827 : Nat) (q276828 : Nat) (hT : RS D I P276825 F276826 γ el) (htq276827 : rKd γ q276827 10) (htq276828 : rKd γ q276828 2) : CtA (gV D I) l yX17_behind cX17_behind 4 none 1 21 0 0 [.ref q276827, .ref q276828] (va_pl P276825 F276826) (pt_276829_SpillForgeModel_behind D I γ el P276825 F276826 q276827 q276828) gNA := by
  refine CtA_of hl0 (by decide) (Nat.le_of_ble_eq_true rfl) ?_
  refine G_iconst 0 dr_cX17_behind_0 (by decide +kernel) ?_
  refine G_istore_n (L' := [(2, .int 0), (0, .ref q276827), (1, .ref q276828)]) dr_cX17_behind_1 (Nat.le_of_ble_eq_true rfl) rfl ?_
  have hlp2_278957 : ∀ (n2_278957 : Nat) (F278953 : Nat → va_E) (g278952 : Int32), gB g278952 0 32 → RS D I P276825 F278953 γ el → rStr γ [] F276826 F278953 → (F278953 q276827 = F276826 q276827) → (F278953 (γ 9 3) = F276826 (γ 9 3)) → ((33 : Int) - g278952.toInt).toNat < n2_278957 → G (gV D I) l (gRm 1 21 0 0) (gMA (gV D I) (pt_276829_SpillForgeModel_behind D I γ el P276825 F276826 q276827 q276828) gNA 0 0) ky_276829_SpillForgeModel_behind 2 [(2, .int g278952), (0, .ref q276827), (1, .ref q276828)] [] (va_pl P276825 F278953) 0 0 := by
    intro n2_278957
    induction n2_278957 with
    | zero => intro F278953 g278952 bg278952 hT278954 hs278955 x278956 x278957 hm2_278957; exact absurd hm2_278957 (Nat.not_lt_zero _)
    | succ n2_278957 ih2_278957 =>
      intro F278953 g278952 bg278952 hT278954 hs278955 x278956 x278957 hm2_278957
      have hs278959 : rStr γ [] F276826 F278953 := fun b h0 hb hw => (hs278955 b h0 hb hw).trans ((rStr_rf (γ := γ) (W := []) (F := F276826)) b h0 hb hw).symm
      have hs278960 : rStr γ [] F276826 F278953 := rStr_tr (rStr_rf (γ := γ) (W := []) (F := F276826)) hs278959
      refine G_iload_n 0 dr_cX17_behind_2 rfl ?_
      refine G_bipush 32 dr_cX17_behind_3 (by decide +kernel) ?_
      refine G_icmp_ge 21 dr_cX17_behind_5 (by decide +kernel) (fun hc278961 => ?_) (fun hc278961 => ?_)
      · have r278962 : 32 ≤ g278952.toInt := gj_leL hc278961 (show Int32.toInt 32 = 32 by decide)
        have bg278952' : gB g278952 32 32 := ⟨by omega, by omega⟩
        refine G_iconst 0 dr_cX17_behind_21 (by decide +kernel) ?_
        refine G_istore_n (L' := [(2, .int 0), (0, .ref q276827), (1, .ref q276828)]) dr_cX17_behind_22 (Nat.le_of_ble_eq_true rfl) rfl ?_
        have hlp23_279206 : ∀ (n23_279206 : Nat) (F279202 : Nat → va_E) (g279201 : Int32), gB g279201 0 2 → RS D I P276825 F279202 γ el → rStr γ [] F276826 F279202 → (F279202 q276827 = F276826 q276827) → (F279202 (γ 9 3) = F276826 (γ 9 3)) → ((3 : Int) - g279201.toInt).toNat < n23_279206 → G (gV D I) l (gRm 1 21 0 0) (gMA (gV D I) (pt_276829_SpillForgeModel_behind D I γ el P276825 F276826 q276827 q276828) gNA 0 0) ky_276829_SpillForgeModel_behind 23 [(2, .int g279201), (0, .ref q276827), (1, .ref q276828)] [] (va_pl P276825 F279202) 0 0 := by
          intro n23_279206
          induction n23_279206 with
          | zero => intro F279202 g279201 bg279201 hT279203 hs279204 x279205 x279206 hm23_279206; exact absurd hm23_279206 (Nat.not_lt_zero _)
          | succ n23_279206 ih23_279206 =>
            intro F279202 g279201 bg279201 hT279203 hs279204 x279205 x279206 hm23_279206
            have hs279208 : rStr γ [] F278953 F279202 := fun b h0 hb hw => (hs279204 b h0 hb hw).trans (hs278955 b h0 hb hw).symm
            have hs279209 : rStr γ [] F276826 F279202 := rStr_tr hs278955 hs279208
            refine G_iload_n 0 dr_cX17_behind_23 rfl ?_
            refine G_aload_n 2 dr_cX17_behind_24 rfl ?_
            have hm279210 : q276828 ∈ P276825 := RS_m hT279203 htq276828 (by decide)
            obtain ⟨q279212, q279213, p279214, p279215, he279211, ht279222, ht279216, ht279217, ht279218, ht279219, ht279220, bp279214, bp279215, r279221, r279223, r279224⟩ := show rk_2 γ q276828 (F279202 q276828) from RS_o hT279203 htq276828
            have hm279225 : q279213 ∈ P276825 := RS_m hT279203 ht279218 (by decide)
            obtain ⟨p279227, p279228, p279229, p279230, p279231, p279232, p279233, he279226, bp279227, bp279228, bp279231, bp279232, bp279233, r279234, r279235, r279236, r279237⟩ := show rk_1 γ q279213 (F279202 q279213) from RS_o hT279203 ht279218
            have bp279229 := gB_any p279229
            have bp279230 := gB_any p279230
            refine Gw_callV (As := []) (gV_ok D I) (cp_1809_Block_ways l hl0 D I P276825 F279202 q276828 q279213 q279212 p279214 p279215 p279227 p279228 p279229 p279230 p279231 p279232 p279233 hm279210 hm279225 he279211 he279226 bp279214 bp279215 bp279227 bp279228 bp279231 bp279232 bp279233) dr_cX17_behind_25 ⟨wr_10_166, wr_1_38, wr_10_169, by decide, rfl, (Nat.le_of_ble_eq_true rfl), (Nat.le_of_ble_eq_true rfl)⟩ wr_10_167 wr_10_168 hm279210 he279211 rfl (show 0 + 0 ≤ 0 by first | omega | decide) (show 0 + 0 ≤ 0 by first | omega | decide) (Nat.le_of_ble_eq_true rfl) (fun r279241 w279242 dc279238 ds279239 hp279240 => ?_) (fun _ _ _ _ _ z => z.elim)
            obtain ⟨o279243, rfl, rfl, hdc, hds, bo279243⟩ := hp279240
            change G _ _ _ _ _ _ _ (.int o279243 :: _) _ _ _
            refine G_widen (cs' := 0) (sl' := 0) (by omega) (by omega) ?_
            refine G_icmp_ge 72 dr_cX17_behind_28 (by decide +kernel) (fun hc279244 => ?_) (fun hc279244 => ?_)
            · have r279245 : o279243.toInt ≤ g279201.toInt := gC_le hc279244
              exact G_vretA dr_cX17_behind_72 rfl (Nat.le_of_ble_eq_true rfl) (Nat.le_of_ble_eq_true rfl) ⟨F279202, rfl, rfl, hT279203, hs279204, (Nat.le_of_ble_eq_true rfl), (Nat.le_of_ble_eq_true rfl), x279205, x279206⟩
            · have r279246 : g279201.toInt < o279243.toInt := gC_nle hc279244
              have bg279201' : gB g279201 0 1 := ⟨by omega, by omega⟩
              have bo279243' : gB o279243 1 2 := ⟨by omega, by omega⟩
              refine G_iconst 0 dr_cX17_behind_31 (by decide +kernel) ?_
              refine G_istore_n (L' := [(3, .int 0), (2, .int g279201), (0, .ref q276827), (1, .ref q276828)]) dr_cX17_behind_32 (Nat.le_of_ble_eq_true rfl) rfl ?_
              have hlp33_279348 : ∀ (n33_279348 : Nat) (F279344 : Nat → va_E) (g279343 : Int32), gB g279343 0 32 → RS D I P276825 F279344 γ el → rStr γ [] F276826 F279344 → (F279344 q276827 = F276826 q276827) → (F279344 (γ 9 3) = F276826 (γ 9 3)) → ((33 : Int) - g279343.toInt).toNat < n33_279348 → G (gV D I) l (gRm 1 21 0 0) (gMA (gV D I) (pt_276829_SpillForgeModel_behind D I γ el P276825 F276826 q276827 q276828) gNA 0 0) ky_276829_SpillForgeModel_behind 33 [(3, .int g279343), (2, .int g279201), (0, .ref q276827), (1, .ref q276828)] [] (va_pl P276825 F279344) 0 0 := by
                intro n33_279348
                induction n33_279348 with
                | zero => intro F279344 g279343 bg279343 hT279345 hs279346 x279347 x279348 hm33_279348; exact absurd hm33_279348 (Nat.not_lt_zero _)
                | succ n33_279348 ih33_279348 =>
                  intro F279344 g279343 bg279343 hT279345 hs279346 x279347 x279348 hm33_279348
                  have hs279350 : rStr γ [] F279202 F279344 := fun b h0 hb hw => (hs279346 b h0 hb hw).trans (hs279204 b h0 hb hw).symm
                  have he279351 : F279344 q276828 = .inr (17, [.ref q279212, .ref q279213, .int p279214, .int p279215]) := (hs279350 q276828 (rT0 htq276828 (by decide)) (rT1 htq276828 (by decide)) (rT2 htq276828 (by decide))).trans he279211
                  have he279352 : F279344 q279213 = .inr (20, [.int p279227, .int p279228, .int p279229, .int p279230, .int p279231, .int p279232, .int p279233]) := (hs279350 q279213 (rT0 ht279218 (by decide)) (rT1 ht279218 (by decide)) (rT2 ht279218 (by decide))).trans he279226
                  have hs279353 : rStr γ [] F276826 F279344 := rStr_tr hs279204 hs279350
                  refine G_iload_n 0 dr_cX17_behind_33 rfl ?_
                  refine G_bipush 32 dr_cX17_behind_34 (by decide +kernel) ?_
                  refine G_icmp_ge 66 dr_cX17_behind_36 (by decide +kernel) (fun hc279354 => ?_) (fun hc279354 => ?_)
                  · have r279355 : 32 ≤ g279343.toInt := gj_leL hc279354 (show Int32.toInt 32 = 32 by decide)
                    have bg279343' : gB g279343 32 32 := ⟨by omega, by omega⟩
                    obtain ⟨z279356, hz279356⟩ : ∃ z : Int32, z = g279201 + Int32.ofInt 1 := ⟨_, rfl⟩
                    have ez279356 : z279356.toInt = g279201.toInt + 1 := gI_inc hz279356 (by decide) bg279201' (by decide) (by decide)
                    have bz279356 : gB z279356 1 2 := ⟨by omega, by omega⟩
                    refine G_iinc (L' := [(2, .int z279356), (3, .int g279343), (0, .ref q276827), (1, .ref q276828)]) z279356 1 dr_cX17_behind_66 rfl hz279356.symm (Nat.le_of_ble_eq_true rfl) rfl ?_
                    refine G_goto 23 dr_cX17_behind_69 (by decide +kernel) ?_
                    refine G_lv (L' := [(2, .int z279356), (0, .ref q276827), (1, .ref q276828)]) [0, 2, 3] rfl ?_
                    exact ih23_279206 F279344 z279356 (gB_w bz279356 (by decide) (by decide)) hT279345 hs279346 x279347 x279348 (by omega)
                  · have r279357 : g279343.toInt < 32 := gj_nleL hc279354 (show Int32.toInt 32 = 32 by decide)
                    have bg279343' : gB g279343 0 31 := ⟨by omega, by omega⟩
                    refine G_aload_n 2 dr_cX17_behind_39 rfl ?_
                    have hm279358 : q276827 ∈ P276825 := RS_m hT279345 htq276827 (by decide)
                    obtain ⟨q279360, q279361, p279362, p279363, p279364, p279365, p279366, p279367, p279368, p279369, p279370, p279371, p279372, p279373, p279374, p279375, p279376, he279359, hB279403, ht279377, ht279378, ht279379, ht279380, ht279381, ht279382, ht279383, ht279384, ht279385, ht279386, ht279387, ht279388, ht279389, ht279390, ht279391, ht279392, ht279393, ht279394, ht279395, ht279396, ht279397, ht279398, ht279399, ht279400, hB279404⟩ := show rk_10 γ (F279344 q276827) from RS_o hT279345 htq276827
                    refine Gp_get 2 hm279358 he279359 dr_cX17_behind_40 (gk_X17 D I) (Nat.le_of_ble_eq_true rfl) wr_7_76 rfl ?_
                    refine G_iload_n 0 dr_cX17_behind_43 rfl ?_
                    refine G_dup2_11 dr_cX17_behind_44 rfl rfl ?_
                    have hm279405 : (γ 9 2) ∈ P276825 := RS_m hT279345 ht279381 (by decide)
                    obtain ⟨f279407, he279406, wf279407⟩ := show rk_35 I (F279344 (γ 9 2)) from RS_o hT279345 ht279381
                    refine Gp_lald 2 hm279405 he279406 dr_cX17_behind_45 rfl (gB_in bg279343' (by decide) (by decide)) (G_namL fun u279408 hu279408 => ?_)
                    have qu279408 : lb_Q u279408 (2000 - 64 * g279343.toInt) := lb_Wld hu279408 wf279407 (by omega) (by omega) (lb_Mod0 (by omega) (by omega))
                    refine G_aload_n 2 dr_cX17_behind_46 rfl ?_
                    refine Gp_get 0 hm279358 he279359 dr_cX17_behind_47 (gk_X17 D I) (Nat.le_of_ble_eq_true rfl) wr_7_74 rfl ?_
                    refine G_aload_n 3 dr_cX17_behind_50 rfl ?_
                    refine G_iload_n 1 dr_cX17_behind_51 rfl ?_
                    refine Gw_callV (As := [.int g279201]) (gV_ok D I) (cp_5047_Block_way l hl0 D I P276825 F279344 q276828 q279213 g279201 q279212 p279214 p279215 p279227 p279228 p279229 p279230 p279231 p279232 p279233 hm279210 hm279225 he279351 he279352 bp279214 bp279215 bp279227 bp279228 bp279231 bp279232 bp279233) dr_cX17_behind_52 ⟨wr_10_170, wr_1_38, wr_10_173, by decide, rfl, (Nat.le_of_ble_eq_true rfl), (Nat.le_of_ble_eq_true rfl)⟩ wr_10_171 wr_10_172 hm279210 he279351 rfl (show 0 + 0 ≤ 0 by first | omega | decide) (show 0 + 0 ≤ 0 by first | omega | decide) (Nat.le_of_ble_eq_true rfl) (fun r279412 w279413 dc279409 ds279410 hp279411 => ?_) (fun _ _ _ _ _ z => z.elim)
                    obtain ⟨o279414, rfl, rfl, hdc, hds, bo279414⟩ := hp279411
                    change G _ _ _ _ _ _ _ (.int o279414 :: _) _ _ _
                    refine G_widen (cs' := 0) (sl' := 0) (by omega) (by omega) ?_
                    have hm279415 : (γ 9 0) ∈ P276825 := RS_m hT279345 ht279379 (by decide)
                    obtain ⟨f279417, he279416, hg279418⟩ := show rk_12 I γ (F279344 (γ 9 0)) from RS_o hT279345 ht279379
                    obtain ⟨q279419, hx279421⟩ : ∃ x, x = γ 10 o279414.toInt.toNat := ⟨_, rfl⟩
                    have ht279420 : rKd γ q279419 11 := by rw [hx279421]; exact (hg279418 _ (show o279414.toInt.toNat < 40 by omega)).2.1
                    refine Gp_aald 5 hm279415 he279416 dr_cX17_behind_55 rfl rfl (gB_in bo279414 (by decide) (by decide)) ?_
                    rw [show f279417 o279414.toNatClampNeg = some q279419 from (hg279418 _ (show o279414.toInt.toNat < 40 by omega)).1.trans (by rw [hx279421])]
                    change G _ _ _ _ _ _ _ (.ref q279419 :: _) _ _ _
                    refine G_iload_n 0 dr_cX17_behind_56 rfl ?_
                    have hm279422 : q279419 ∈ P276825 := RS_m hT279345 ht279420 (by decide)
                    obtain ⟨f279424, he279423, wf279424⟩ := show rk_11 I (F279344 q279419) from RS_o hT279345 ht279420
                    refine Gp_lald 2 hm279422 he279423 dr_cX17_behind_57 rfl (gB_in bg279343' (by decide) (by decide)) (G_namL fun u279425 hu279425 => ?_)
                    have qu279425 : lb_Q u279425 (2000 - 64 * g279343.toInt) := lb_Wld hu279425 wf279424 (by omega) (by omega) (lb_Mod0 (by omega) (by omega))
                    refine G_lor dr_cX17_behind_58 (G_namL fun u279426 hu279426 => ?_)
                    have qu279426 : lb_Q u279426 (2000 - 64 * g279343.toInt) := lb_Qor hu279426 qu279408 qu279425
                    refine Gp_last 2 hm279405 he279406 dr_cX17_behind_59 rfl (gB_in bg279343' (by decide) (by decide)) (fun F279427 e279428 n279429 => ?_)
                    obtain ⟨f279430, hf279430⟩ : ∃ z, z = vp_updL f279407 g279343.toNatClampNeg u279426 := ⟨_, rfl⟩
                    rw [← hf279430] at e279428
                    have he279431 : F279427 q276828 = .inr (17, [.ref q279212, .ref q279213, .int p279214, .int p279215]) := (n279429 q276828 (rn_oa he279351 he279406)).trans he279351
                    have he279432 : F279427 q279213 = .inr (20, [.int p279227, .int p279228, .int p279229, .int p279230, .int p279231, .int p279232, .int p279233]) := (n279429 q279213 (rn_oa he279352 he279406)).trans he279352
                    have he279433 : F279427 q276827 = .inr (22, [.ref (γ 9 0), .ref (γ 9 1), .ref (γ 9 2), .ref (γ 9 3), .ref (γ 9 4), .ref (γ 9 5), .ref (γ 9 6), .ref (γ 9 7), .ref (γ 9 8), .int p279362, .int p279363, .int p279364, .int p279365, .int p279366, .int p279367, .ref (γ 9 15), .ref (γ 9 16), .ref (γ 9 17), .ref (γ 9 18), .ref (γ 9 19), .ref (γ 9 20), .ref (γ 9 21), .ref (γ 9 22), .int p279368, .int p279369, .int p279370, .int p279371, .int p279372, .ref q279360, .ref (γ 9 29), .int p279373, .ref (γ 9 31), .int p279374, .int p279375, .int p279376, .ref q279361]) := (n279429 q276827 (rn_oa he279359 he279406)).trans he279359
                    have he279434 : F279427 (γ 9 0) = .inl (I (.array .long), 40, .inr (.inr (.inr (.inr f279417)))) := (n279429 (γ 9 0) (rn_ref_long he279416 he279406)).trans he279416
                    have he279435 : F279427 q279419 = .inl (I .long, 32, .inr (.inl f279424)) := (n279429 q279419 (rn_ty ht279420 ht279381 (by decide))).trans he279423
                    have he279436 : F279427 (γ 9 2) = .inl (I .long, 32, .inr (.inl f279430)) := e279428
                    have hs279437 : rStr γ [] F276826 F279427 := rStr_put hs279346 n279429 ht279381 (by decide)
                    have kp279438 : F279427 q276827 = F276826 q276827 := (n279429 q276827 (rn_ty htq276827 ht279381 (by decide))).trans x279347
                    have kp279439 : F279427 (γ 9 3) = F276826 (γ 9 3) := (n279429 (γ 9 3) (rn_ty ht279382 ht279381 (by decide))).trans x279348
                    have wf279430 : lb_W f279430 (32) (32) (2000) := lb_Wst hf279430 wf279407 (by omega) (lb_Mod0 (by omega) (by omega)) qu279426
                    obtain ⟨z279440, hz279440⟩ : ∃ z : Int32, z = g279343 + Int32.ofInt 1 := ⟨_, rfl⟩
                    have ez279440 : z279440.toInt = g279343.toInt + 1 := gI_inc hz279440 (by decide) bg279343' (by decide) (by decide)
                    have bz279440 : gB z279440 1 32 := ⟨by omega, by omega⟩
                    refine G_iinc (L' := [(3, .int z279440), (2, .int g279201), (0, .ref q276827), (1, .ref q276828)]) z279440 0 dr_cX17_behind_60 rfl hz279440.symm (Nat.le_of_ble_eq_true rfl) rfl ?_
                    refine G_goto 33 dr_cX17_behind_63 (by decide +kernel) ?_
                    have hT279441 : RS D I P276825 F279427 γ el := RS_set hT279345 n279429 ht279381 (by decide) ⟨f279430, he279436, wf279430⟩
                    exact ih33_279348 F279427 z279440 (gB_w bz279440 (by decide) (by decide)) hT279441 hs279437 kp279438 kp279439 (by omega)
              exact hlp33_279348 (((33 : Int) - 0).toNat + 1) F279202 0 (gB_w (gBl (show Int32.toInt 0 = 0 by decide)) (by decide) (by decide)) hT279203 hs279204 x279205 x279206 (Nat.lt_succ_self _)
        exact hlp23_279206 (((3 : Int) - 0).toNat + 1) F278953 0 (gB_w (gBl (show Int32.toInt 0 = 0 by decide)) (by decide) (by decide)) hT278954 hs278955 x278956 x278957 (Nat.lt_succ_self _)
      · have r279442 : g278952.toInt < 32 := gj_nleL hc278961 (show Int32.toInt 32 = 32 by decide)
        have bg278952' : gB g278952 0 31 := ⟨by omega, by omega⟩
        refine G_aload_n 1 dr_cX17_behind_8 rfl ?_
        have hm279443 : q276827 ∈ P276825 := RS_m hT278954 htq276827 (by decide)
        obtain ⟨q279445, q279446, p279447, p279448, p279449, p279450, p279451, p279452, p279453, p279454, p279455, p279456, p279457, p279458, p279459, p279460, p279461, he279444, hB279488, ht279462, ht279463, ht279464, ht279465, ht279466, ht279467, ht279468, ht279469, ht279470, ht279471, ht279472, ht279473, ht279474, ht279475, ht279476, ht279477, ht279478, ht279479, ht279480, ht279481, ht279482, ht279483, ht279484, ht279485, hB279489⟩ := show rk_10 γ (F278953 q276827) from RS_o hT278954 htq276827
        refine Gp_get 2 hm279443 he279444 dr_cX17_behind_9 (gk_X17 D I) (Nat.le_of_ble_eq_true rfl) wr_7_76 rfl ?_
        refine G_iload_n 0 dr_cX17_behind_12 rfl ?_
        refine G_lconst 0 dr_cX17_behind_13 rfl ?_
        have hm279490 : (γ 9 2) ∈ P276825 := RS_m hT278954 ht279466 (by decide)
        obtain ⟨f279492, he279491, wf279492⟩ := show rk_35 I (F278953 (γ 9 2)) from RS_o hT278954 ht279466
        refine Gp_last 2 hm279490 he279491 dr_cX17_behind_14 rfl (gB_in bg278952' (by decide) (by decide)) (fun F279493 e279494 n279495 => ?_)
        obtain ⟨f279496, hf279496⟩ : ∃ z, z = vp_updL f279492 g278952.toNatClampNeg 0 := ⟨_, rfl⟩
        rw [← hf279496] at e279494
        have he279497 : F279493 q276827 = .inr (22, [.ref (γ 9 0), .ref (γ 9 1), .ref (γ 9 2), .ref (γ 9 3), .ref (γ 9 4), .ref (γ 9 5), .ref (γ 9 6), .ref (γ 9 7), .ref (γ 9 8), .int p279447, .int p279448, .int p279449, .int p279450, .int p279451, .int p279452, .ref (γ 9 15), .ref (γ 9 16), .ref (γ 9 17), .ref (γ 9 18), .ref (γ 9 19), .ref (γ 9 20), .ref (γ 9 21), .ref (γ 9 22), .int p279453, .int p279454, .int p279455, .int p279456, .int p279457, .ref q279445, .ref (γ 9 29), .int p279458, .ref (γ 9 31), .int p279459, .int p279460, .int p279461, .ref q279446]) := (n279495 q276827 (rn_oa he279444 he279491)).trans he279444
        have he279498 : F279493 (γ 9 2) = .inl (I .long, 32, .inr (.inl f279496)) := e279494
        have hs279499 : rStr γ [] F276826 F279493 := rStr_put hs278955 n279495 ht279466 (by decide)
        have kp279500 : F279493 q276827 = F276826 q276827 := (n279495 q276827 (rn_ty htq276827 ht279466 (by decide))).trans x278956
        have kp279501 : F279493 (γ 9 3) = F276826 (γ 9 3) := (n279495 (γ 9 3) (rn_ty ht279467 ht279466 (by decide))).trans x278957
        have wf279496 : lb_W f279496 (32) (32) (2000) := lb_Wst hf279496 wf279492 (by omega) (lb_Mod0 (by omega) (by omega)) lb_Q0
        obtain ⟨z279502, hz279502⟩ : ∃ z : Int32, z = g278952 + Int32.ofInt 1 := ⟨_, rfl⟩
        have ez279502 : z279502.toInt = g278952.toInt + 1 := gI_inc hz279502 (by decide) bg278952' (by decide) (by decide)
        have bz279502 : gB z279502 1 32 := ⟨by omega, by omega⟩
        refine G_iinc (L' := [(2, .int z279502), (0, .ref q276827), (1, .ref q276828)]) z279502 0 dr_cX17_behind_15 rfl hz279502.symm (Nat.le_of_ble_eq_true rfl) rfl ?_
        refine G_goto 2 dr_cX17_behind_18 (by decide +kernel) ?_
        have hT279503 : RS D I P276825 F279493 γ el := RS_set hT278954 n279495 ht279466 (by decide) ⟨f279496, he279498, wf279496⟩
        exact ih2_278957 F279493 z279502 (gB_w bz279502 (by decide) (by decide)) hT279503 hs279499 kp279500 kp279501 (by omega)
  exact hlp2_278957 (((33 : Int) - 0).toNat + 1) F276826 0 (gB_w (gBl (show Int32.toInt 0 = 0 by decide)) (by decide) (by decide)) hT (rStr_rf (γ := γ) (W := []) (F := F276826)) rfl rfl (Nat.lt_succ_self _)
abbrev ky_279575_SpillForgeModel_stand : gKey := (cX17_stand, 4, "SpillForgeModel", none, [], "stand", fun _ _ => True)
def pt_279575_SpillForgeModel_stand (D : va_G) (I : FieldType → ClassId) (γ el : Nat → Nat → Nat) (P279570 : List Nat) (F279571 : Nat → va_E) (q279572 : Nat) (q279573 : Nat) (p279574 : Int32) : Option Value → va_W → Nat → Nat → Prop := fun r w dc ds => ∃ (F279813 : Nat → va_E), r = none ∧ w = va_pl P279570 F279813 ∧ RS D I P279570 F279813 γ el ∧ rStr γ [] F279571 F279813 ∧ dc ≤ 0 ∧ ds ≤ 0 ∧ (gIp (p279574.toInt = 0) (∀ n : Nat, rSd (cB (F279813 (γ 9 3))) n ↔ (rSd (cB (F279571 (γ 9 3))) n ∨ nmS (F279571 q279573) n))) ∧ (F279813 q279572 = F279571 q279572)
set_option maxRecDepth 100000 in
set_option maxHeartbeats 4000000 in
theorem ct_279575_SpillForgeModel_stand (l : Launch) (hl0 : l.stackTraces = false) (D : va_G) (I : FieldType → ClassId) (γ el : Nat → Nat → Nat) (P279570 : List Nat) (F279571 : Nat → va_E) (q279572 : Nat) (q279573 : Nat) (p279574 : Int32) (hT : RS D I P279570 F279571 γ el) (htq279572 : rKd γ q279572 10) (htq279573 : rKd γ q279573 1) (bp279574 : gB p279574 0 1) : CtA (gV D I) l yX17_stand cX17_stand 4 none 2 41 0 0 [.ref q279572, .ref q279573, .int p279574] (va_pl P279570 F279571) (pt_279575_SpillForgeModel_stand D I γ el P279570 F279571 q279572 q279573 p279574) gNA := by
  refine CtA_of hl0 (by decide) (Nat.le_of_ble_eq_true rfl) ?_
  have hm279576 : q279572 ∈ P279570 := RS_m hT htq279572 (by decide)
  obtain ⟨q279578, q279579, p279580, p279581, p279582, p279583, p279584, p279585, p279586, p279587, p279588, p279589, p279590, p279591, p279592, p279593, p279594, he279577, hB279621, ht279595, ht279596, ht279597, ht279598, ht279599, ht279600, ht279601, ht279602, ht279603, ht279604, ht279605, ht279606, ht279607, ht279608, ht279609, ht279610, ht279611, ht279612, ht279613, ht279614, ht279615, ht279616, ht279617, ht279618, hB279622⟩ := show rk_10 γ (F279571 q279572) from RS_o hT htq279572
  have hm279623 : (γ 9 3) ∈ P279570 := RS_m hT ht279600 (by decide)
  obtain ⟨f279625, he279624, bf279625⟩ := show rk_14 I (F279571 (γ 9 3)) from RS_o hT ht279600
  have hm279626 : q279573 ∈ P279570 := RS_m hT htq279573 (by decide)
  obtain ⟨p279628, p279629, p279630, p279631, p279632, p279633, p279634, he279627, bp279628, bp279629, bp279632, bp279633, bp279634, r279635, r279636, r279637, r279638⟩ := show rk_1 γ q279573 (F279571 q279573) from RS_o hT htq279573
  have bp279630 := gB_any p279630
  have bp279631 := gB_any p279631
  refine G_aload_n 1 dr_cX17_stand_0 rfl ?_
  refine G_iload_n 2 dr_cX17_stand_1 rfl ?_
  refine Gw_callS (As := [.ref q279573, .int p279574]) (gV_ok D I) (cp_214590_SpillForgeModel_setOf l hl0 D I P279570 F279571 q279573 p279574 p279628 p279629 p279630 p279631 p279632 p279633 p279634 hm279626 he279627 bp279574 bp279628 bp279629 bp279632 bp279633 bp279634) dr_cX17_stand_2 ⟨wr_10_178, wr_1_14, wr_10_180, by decide, rfl, (Nat.le_of_ble_eq_true rfl), (Nat.le_of_ble_eq_true rfl)⟩ wr_10_179 (show 0 + 0 ≤ 0 by first | omega | decide) (show 0 + 0 ≤ 0 by first | omega | decide) (Nat.le_of_ble_eq_true rfl) (fun r279642 w279643 dc279639 ds279640 hp279641 => ?_) (fun _ _ _ _ _ z => z.elim)
  obtain ⟨o279644, rfl, rfl, hdc, hds, bo279644, x279645⟩ := hp279641
  change G _ _ _ _ _ _ _ (.int o279644 :: _) _ _ _
  refine G_widen (cs' := 0) (sl' := 0) (by omega) (by omega) ?_
  refine G_istore_n (L' := [(3, .int o279644), (0, .ref q279572), (1, .ref q279573), (2, .int p279574)]) dr_cX17_stand_5 (Nat.le_of_ble_eq_true rfl) rfl ?_
  refine G_iload_n 0 dr_cX17_stand_6 rfl ?_
  refine G_if_lt 17 dr_cX17_stand_7 (by decide +kernel) (fun hc279646 => ?_) (fun hc279646 => ?_)
  · have r279647 : o279644.toInt < 0 := gj_lt hc279646 (show Int32.toInt 0 = 0 by decide)
    have bo279644' : gB o279644 (-1) (-1) := ⟨by omega, by omega⟩
    refine G_iload_n 3 dr_cX17_stand_17 rfl ?_
    refine G_if_eq 41 dr_cX17_stand_18 (by decide +kernel) (fun hc279648 => ?_) (fun hc279648 => ?_)
    · have r279649 : p279574.toInt = 0 := gj_eq hc279648 (show Int32.toInt 0 = 0 by decide)
      have bp279574' : gB p279574 0 0 := ⟨by omega, by omega⟩
      refine G_aload_n 2 dr_cX17_stand_41 rfl ?_
      refine Gw_callV (As := []) (gV_ok D I) (cp_214529_Row_usesA l hl0 D I P279570 F279571 q279573 p279628 p279629 p279630 p279631 p279632 p279633 p279634 hm279626 he279627 bp279628 bp279629 bp279632 bp279633 bp279634) dr_cX17_stand_42 ⟨wr_10_192, wr_1_39, wr_10_195, by decide, rfl, (Nat.le_of_ble_eq_true rfl), (Nat.le_of_ble_eq_true rfl)⟩ wr_10_193 wr_10_194 hm279626 he279627 rfl (show 0 + 0 ≤ 0 by first | omega | decide) (show 0 + 0 ≤ 0 by first | omega | decide) (Nat.le_of_ble_eq_true rfl) (fun r279653 w279654 dc279650 ds279651 hp279652 => ?_) (fun _ _ _ _ _ z => z.elim)
      obtain ⟨o279655, rfl, rfl, hdc, hds, bo279655, x279656⟩ := hp279652
      change G _ _ _ _ _ _ _ (.int o279655 :: _) _ _ _
      refine G_widen (cs' := 0) (sl' := 0) (by omega) (by omega) ?_
      refine G_if_eq 58 dr_cX17_stand_45 (by decide +kernel) (fun hc279657 => ?_) (fun hc279657 => ?_)
      · have r279658 : o279655.toInt = 0 := gj_eq hc279657 (show Int32.toInt 0 = 0 by decide)
        have bo279655' : gB o279655 0 0 := ⟨by omega, by omega⟩
        refine G_aload_n 2 dr_cX17_stand_58 rfl ?_
        refine Gw_callV (As := []) (gV_ok D I) (cp_214553_Row_usesB l hl0 D I P279570 F279571 q279573 p279628 p279629 p279630 p279631 p279632 p279633 p279634 hm279626 he279627 bp279628 bp279629 bp279632 bp279633 bp279634) dr_cX17_stand_59 ⟨wr_10_196, wr_1_39, wr_10_199, by decide, rfl, (Nat.le_of_ble_eq_true rfl), (Nat.le_of_ble_eq_true rfl)⟩ wr_10_197 wr_10_198 hm279626 he279627 rfl (show 0 + 0 ≤ 0 by first | omega | decide) (show 0 + 0 ≤ 0 by first | omega | decide) (Nat.le_of_ble_eq_true rfl) (fun r279662 w279663 dc279659 ds279660 hp279661 => ?_) (fun _ _ _ _ _ z => z.elim)
        obtain ⟨o279664, rfl, rfl, hdc, hds, bo279664, x279665⟩ := hp279661
        change G _ _ _ _ _ _ _ (.int o279664 :: _) _ _ _
        refine G_widen (cs' := 0) (sl' := 0) (by omega) (by omega) ?_
        refine G_if_eq 75 dr_cX17_stand_62 (by decide +kernel) (fun hc279666 => ?_) (fun hc279666 => ?_)
        · have r279667 : o279664.toInt = 0 := gj_eq hc279666 (show Int32.toInt 0 = 0 by decide)
          have bo279664' : gB o279664 0 0 := ⟨by omega, by omega⟩
          exact G_vretA dr_cX17_stand_75 rfl (Nat.le_of_ble_eq_true rfl) (Nat.le_of_ble_eq_true rfl) ⟨F279571, rfl, rfl, hT, (rStr_rf (γ := γ) (W := []) (F := F279571)), (Nat.le_of_ble_eq_true rfl), (Nat.le_of_ble_eq_true rfl), (fun _ n => by rw [cB_of he279624, nmS_of he279627]; exact nm_fin false false false (decide_eq_false (show ¬ (p279628.toInt ≤ 21) by omega)) (decide_eq_false (show ¬ (p279628.toInt ≠ 20 ∧ p279628.toInt ≠ 21 ∧ p279628.toInt ≠ 30 ∧ p279633.toInt = 1) by omega)) (decide_eq_false (show ¬ (0 < p279628.toInt ∧ p279628.toInt < 20 ∧ p279634.toInt = 1) by omega)) (by simp)), rfl⟩
        · have r279668 : o279664.toInt ≠ 0 := gj_neq hc279666 (show Int32.toInt 0 = 0 by decide)
          have bo279664' : gB o279664 1 1 := ⟨by omega, by omega⟩
          refine G_aload_n 1 dr_cX17_stand_65 rfl ?_
          refine Gp_get 3 hm279576 he279577 dr_cX17_stand_66 (gk_X17 D I) (Nat.le_of_ble_eq_true rfl) wr_7_77 rfl ?_
          refine G_aload_n 2 dr_cX17_stand_69 rfl ?_
          refine Gp_get 3 hm279626 he279627 dr_cX17_stand_70 (gk_X15 D I) (Nat.le_of_ble_eq_true rfl) wr_9_190 rfl ?_
          refine G_iconst 1 dr_cX17_stand_73 (by decide +kernel) ?_
          refine Gp_zast 3 hm279623 he279624 dr_cX17_stand_74 rfl (gB_inr (by omega) (by omega)) (fun F279669 e279670 n279671 => ?_)
          obtain ⟨f279672, hf279672⟩ : ∃ z, z = upd f279625 p279631.toNatClampNeg (vp_nar .boolean 1) := ⟨_, rfl⟩
          rw [← hf279672] at e279670
          have he279673 : F279669 q279572 = .inr (22, [.ref (γ 9 0), .ref (γ 9 1), .ref (γ 9 2), .ref (γ 9 3), .ref (γ 9 4), .ref (γ 9 5), .ref (γ 9 6), .ref (γ 9 7), .ref (γ 9 8), .int p279580, .int p279581, .int p279582, .int p279583, .int p279584, .int p279585, .ref (γ 9 15), .ref (γ 9 16), .ref (γ 9 17), .ref (γ 9 18), .ref (γ 9 19), .ref (γ 9 20), .ref (γ 9 21), .ref (γ 9 22), .int p279586, .int p279587, .int p279588, .int p279589, .int p279590, .ref q279578, .ref (γ 9 29), .int p279591, .ref (γ 9 31), .int p279592, .int p279593, .int p279594, .ref q279579]) := (n279671 q279572 (rn_oa he279577 he279624)).trans he279577
          have he279674 : F279669 q279573 = .inr (20, [.int p279628, .int p279629, .int p279630, .int p279631, .int p279632, .int p279633, .int p279634]) := (n279671 q279573 (rn_oa he279627 he279624)).trans he279627
          have he279675 : F279669 (γ 9 3) = .inl (I .boolean, 2000, .inl f279672) := e279670
          have hs279676 : rStr γ [] F279571 F279669 := rStr_put (rStr_rf (γ := γ) (W := []) (F := F279571)) n279671 ht279600 (by decide)
          have kp279677 : F279669 q279572 = F279571 q279572 := n279671 q279572 (rn_ty htq279572 ht279600 (by decide))
          have bf279672 : gF f279672 0 1 := gF_upd hf279672 bf279625 (gB_w (gBl (show Int32.toInt 1 = 1 by decide)) (by decide) (by decide))
          have hT279678 : RS D I P279570 F279669 γ el := RS_set hT n279671 ht279600 (by decide) ⟨f279672, he279675, bf279672⟩
          exact G_vretA dr_cX17_stand_75 rfl (Nat.le_of_ble_eq_true rfl) (Nat.le_of_ble_eq_true rfl) ⟨F279669, rfl, rfl, hT279678, hs279676, (Nat.le_of_ble_eq_true rfl), (Nat.le_of_ble_eq_true rfl), (fun _ n => by rw [cB_of he279675, cB_of he279624, nmS_of he279627]; exact nm_fin false false true (decide_eq_false (show ¬ (p279628.toInt ≤ 21) by omega)) (decide_eq_false (show ¬ (p279628.toInt ≠ 20 ∧ p279628.toInt ≠ 21 ∧ p279628.toInt ≠ 30 ∧ p279633.toInt = 1) by omega)) (decide_eq_true (show (0 < p279628.toInt ∧ p279628.toInt < 20 ∧ p279634.toInt = 1) by omega)) (by rw [sd_u hf279672 (by omega) (by omega)]; simp)), kp279677⟩
      · have r279679 : o279655.toInt ≠ 0 := gj_neq hc279657 (show Int32.toInt 0 = 0 by decide)
        have bo279655' : gB o279655 1 1 := ⟨by omega, by omega⟩
        refine G_aload_n 1 dr_cX17_stand_48 rfl ?_
        refine Gp_get 3 hm279576 he279577 dr_cX17_stand_49 (gk_X17 D I) (Nat.le_of_ble_eq_true rfl) wr_7_77 rfl ?_
        refine G_aload_n 2 dr_cX17_stand_52 rfl ?_
        refine Gp_get 2 hm279626 he279627 dr_cX17_stand_53 (gk_X15 D I) (Nat.le_of_ble_eq_true rfl) wr_9_186 rfl ?_
        refine G_iconst 1 dr_cX17_stand_56 (by decide +kernel) ?_
        refine Gp_zast 3 hm279623 he279624 dr_cX17_stand_57 rfl (gB_inr (by omega) (by omega)) (fun F279680 e279681 n279682 => ?_)
        obtain ⟨f279683, hf279683⟩ : ∃ z, z = upd f279625 p279630.toNatClampNeg (vp_nar .boolean 1) := ⟨_, rfl⟩
        rw [← hf279683] at e279681
        have he279684 : F279680 q279572 = .inr (22, [.ref (γ 9 0), .ref (γ 9 1), .ref (γ 9 2), .ref (γ 9 3), .ref (γ 9 4), .ref (γ 9 5), .ref (γ 9 6), .ref (γ 9 7), .ref (γ 9 8), .int p279580, .int p279581, .int p279582, .int p279583, .int p279584, .int p279585, .ref (γ 9 15), .ref (γ 9 16), .ref (γ 9 17), .ref (γ 9 18), .ref (γ 9 19), .ref (γ 9 20), .ref (γ 9 21), .ref (γ 9 22), .int p279586, .int p279587, .int p279588, .int p279589, .int p279590, .ref q279578, .ref (γ 9 29), .int p279591, .ref (γ 9 31), .int p279592, .int p279593, .int p279594, .ref q279579]) := (n279682 q279572 (rn_oa he279577 he279624)).trans he279577
        have he279685 : F279680 q279573 = .inr (20, [.int p279628, .int p279629, .int p279630, .int p279631, .int p279632, .int p279633, .int p279634]) := (n279682 q279573 (rn_oa he279627 he279624)).trans he279627
        have he279686 : F279680 (γ 9 3) = .inl (I .boolean, 2000, .inl f279683) := e279681
        have hs279687 : rStr γ [] F279571 F279680 := rStr_put (rStr_rf (γ := γ) (W := []) (F := F279571)) n279682 ht279600 (by decide)
        have kp279688 : F279680 q279572 = F279571 q279572 := n279682 q279572 (rn_ty htq279572 ht279600 (by decide))
        have bf279683 : gF f279683 0 1 := gF_upd hf279683 bf279625 (gB_w (gBl (show Int32.toInt 1 = 1 by decide)) (by decide) (by decide))
        refine G_aload_n 2 dr_cX17_stand_58 rfl ?_
        have hT279689 : RS D I P279570 F279680 γ el := RS_set hT n279682 ht279600 (by decide) ⟨f279683, he279686, bf279683⟩
        refine Gw_callV (As := []) (gV_ok D I) (cp_214553_Row_usesB l hl0 D I P279570 F279680 q279573 p279628 p279629 p279630 p279631 p279632 p279633 p279634 hm279626 he279685 bp279628 bp279629 bp279632 bp279633 bp279634) dr_cX17_stand_59 ⟨wr_10_196, wr_1_39, wr_10_199, by decide, rfl, (Nat.le_of_ble_eq_true rfl), (Nat.le_of_ble_eq_true rfl)⟩ wr_10_197 wr_10_198 hm279626 he279685 rfl (show 0 + 0 ≤ 0 by first | omega | decide) (show 0 + 0 ≤ 0 by first | omega | decide) (Nat.le_of_ble_eq_true rfl) (fun r279693 w279694 dc279690 ds279691 hp279692 => ?_) (fun _ _ _ _ _ z => z.elim)
        obtain ⟨o279695, rfl, rfl, hdc, hds, bo279695, x279696⟩ := hp279692
        change G _ _ _ _ _ _ _ (.int o279695 :: _) _ _ _
        refine G_widen (cs' := 0) (sl' := 0) (by omega) (by omega) ?_
        refine G_if_eq 75 dr_cX17_stand_62 (by decide +kernel) (fun hc279697 => ?_) (fun hc279697 => ?_)
        · have r279698 : o279695.toInt = 0 := gj_eq hc279697 (show Int32.toInt 0 = 0 by decide)
          have bo279695' : gB o279695 0 0 := ⟨by omega, by omega⟩
          exact G_vretA dr_cX17_stand_75 rfl (Nat.le_of_ble_eq_true rfl) (Nat.le_of_ble_eq_true rfl) ⟨F279680, rfl, rfl, hT279689, hs279687, (Nat.le_of_ble_eq_true rfl), (Nat.le_of_ble_eq_true rfl), (fun _ n => by rw [cB_of he279686, cB_of he279624, nmS_of he279627]; exact nm_fin false true false (decide_eq_false (show ¬ (p279628.toInt ≤ 21) by omega)) (decide_eq_true (show (p279628.toInt ≠ 20 ∧ p279628.toInt ≠ 21 ∧ p279628.toInt ≠ 30 ∧ p279633.toInt = 1) by omega)) (decide_eq_false (show ¬ (0 < p279628.toInt ∧ p279628.toInt < 20 ∧ p279634.toInt = 1) by omega)) (by rw [sd_u hf279683 (by omega) (by omega)]; simp)), kp279688⟩
        · have r279699 : o279695.toInt ≠ 0 := gj_neq hc279697 (show Int32.toInt 0 = 0 by decide)
          have bo279695' : gB o279695 1 1 := ⟨by omega, by omega⟩
          refine G_aload_n 1 dr_cX17_stand_65 rfl ?_
          refine Gp_get 3 hm279576 he279684 dr_cX17_stand_66 (gk_X17 D I) (Nat.le_of_ble_eq_true rfl) wr_7_77 rfl ?_
          refine G_aload_n 2 dr_cX17_stand_69 rfl ?_
          refine Gp_get 3 hm279626 he279685 dr_cX17_stand_70 (gk_X15 D I) (Nat.le_of_ble_eq_true rfl) wr_9_190 rfl ?_
          refine G_iconst 1 dr_cX17_stand_73 (by decide +kernel) ?_
          refine Gp_zast 3 hm279623 he279686 dr_cX17_stand_74 rfl (gB_inr (by omega) (by omega)) (fun F279700 e279701 n279702 => ?_)
          obtain ⟨f279703, hf279703⟩ : ∃ z, z = upd f279683 p279631.toNatClampNeg (vp_nar .boolean 1) := ⟨_, rfl⟩
          rw [← hf279703] at e279701
          have he279704 : F279700 q279572 = .inr (22, [.ref (γ 9 0), .ref (γ 9 1), .ref (γ 9 2), .ref (γ 9 3), .ref (γ 9 4), .ref (γ 9 5), .ref (γ 9 6), .ref (γ 9 7), .ref (γ 9 8), .int p279580, .int p279581, .int p279582, .int p279583, .int p279584, .int p279585, .ref (γ 9 15), .ref (γ 9 16), .ref (γ 9 17), .ref (γ 9 18), .ref (γ 9 19), .ref (γ 9 20), .ref (γ 9 21), .ref (γ 9 22), .int p279586, .int p279587, .int p279588, .int p279589, .int p279590, .ref q279578, .ref (γ 9 29), .int p279591, .ref (γ 9 31), .int p279592, .int p279593, .int p279594, .ref q279579]) := (n279702 q279572 (rn_oa he279684 he279686)).trans he279684
          have he279705 : F279700 q279573 = .inr (20, [.int p279628, .int p279629, .int p279630, .int p279631, .int p279632, .int p279633, .int p279634]) := (n279702 q279573 (rn_oa he279685 he279686)).trans he279685
          have he279706 : F279700 (γ 9 3) = .inl (I .boolean, 2000, .inl f279703) := e279701
          have hs279707 : rStr γ [] F279571 F279700 := rStr_put hs279687 n279702 ht279600 (by decide)
          have kp279708 : F279700 q279572 = F279571 q279572 := (n279702 q279572 (rn_ty htq279572 ht279600 (by decide))).trans kp279688
          have bf279703 : gF f279703 0 1 := gF_upd hf279703 bf279683 (gB_w (gBl (show Int32.toInt 1 = 1 by decide)) (by decide) (by decide))
          have hT279709 : RS D I P279570 F279700 γ el := RS_set hT279689 n279702 ht279600 (by decide) ⟨f279703, he279706, bf279703⟩
          exact G_vretA dr_cX17_stand_75 rfl (Nat.le_of_ble_eq_true rfl) (Nat.le_of_ble_eq_true rfl) ⟨F279700, rfl, rfl, hT279709, hs279707, (Nat.le_of_ble_eq_true rfl), (Nat.le_of_ble_eq_true rfl), (fun _ n => by rw [cB_of he279706, cB_of he279624, nmS_of he279627]; exact nm_fin false true true (decide_eq_false (show ¬ (p279628.toInt ≤ 21) by omega)) (decide_eq_true (show (p279628.toInt ≠ 20 ∧ p279628.toInt ≠ 21 ∧ p279628.toInt ≠ 30 ∧ p279633.toInt = 1) by omega)) (decide_eq_true (show (0 < p279628.toInt ∧ p279628.toInt < 20 ∧ p279634.toInt = 1) by omega)) (by rw [sd_u hf279703 (by omega) (by omega), sd_u hf279683 (by omega) (by omega)]; simp)), kp279708⟩
    · have r279710 : p279574.toInt ≠ 0 := gj_neq hc279648 (show Int32.toInt 0 = 0 by decide)
      have bp279574' : gB p279574 1 1 := ⟨by omega, by omega⟩
      refine G_aload_n 2 dr_cX17_stand_21 rfl ?_
      refine Gp_get 0 hm279626 he279627 dr_cX17_stand_22 (gk_X15 D I) (Nat.le_of_ble_eq_true rfl) wr_9_177 rfl ?_
      refine G_bipush 21 dr_cX17_stand_25 (by decide +kernel) ?_
      refine G_icmp_ne 40 dr_cX17_stand_27 (by decide +kernel) (fun hc279711 => ?_) (fun hc279711 => ?_)
      · have r279712 : p279628.toInt ≠ 21 := gj_neq hc279711 (show Int32.toInt 21 = 21 by decide)
        exact G_vretA dr_cX17_stand_40 rfl (Nat.le_of_ble_eq_true rfl) (Nat.le_of_ble_eq_true rfl) ⟨F279571, rfl, rfl, hT, (rStr_rf (γ := γ) (W := []) (F := F279571)), (Nat.le_of_ble_eq_true rfl), (Nat.le_of_ble_eq_true rfl), (fun h => absurd h (by omega)), rfl⟩
      · have r279713 : p279628.toInt = 21 := gj_eq hc279711 (show Int32.toInt 21 = 21 by decide)
        have bp279628' : gB p279628 21 21 := ⟨by omega, by omega⟩
        refine G_aload_n 1 dr_cX17_stand_30 rfl ?_
        refine Gp_get 3 hm279576 he279577 dr_cX17_stand_31 (gk_X17 D I) (Nat.le_of_ble_eq_true rfl) wr_7_77 rfl ?_
        refine G_aload_n 2 dr_cX17_stand_34 rfl ?_
        refine Gp_get 4 hm279626 he279627 dr_cX17_stand_35 (gk_X15 D I) (Nat.le_of_ble_eq_true rfl) wr_9_193 rfl ?_
        refine G_iconst 1 dr_cX17_stand_38 (by decide +kernel) ?_
        refine Gp_zast 3 hm279623 he279624 dr_cX17_stand_39 rfl (gB_in bp279632 (by decide) (by decide)) (fun F279714 e279715 n279716 => ?_)
        obtain ⟨f279717, hf279717⟩ : ∃ z, z = upd f279625 p279632.toNatClampNeg (vp_nar .boolean 1) := ⟨_, rfl⟩
        rw [← hf279717] at e279715
        have he279718 : F279714 q279572 = .inr (22, [.ref (γ 9 0), .ref (γ 9 1), .ref (γ 9 2), .ref (γ 9 3), .ref (γ 9 4), .ref (γ 9 5), .ref (γ 9 6), .ref (γ 9 7), .ref (γ 9 8), .int p279580, .int p279581, .int p279582, .int p279583, .int p279584, .int p279585, .ref (γ 9 15), .ref (γ 9 16), .ref (γ 9 17), .ref (γ 9 18), .ref (γ 9 19), .ref (γ 9 20), .ref (γ 9 21), .ref (γ 9 22), .int p279586, .int p279587, .int p279588, .int p279589, .int p279590, .ref q279578, .ref (γ 9 29), .int p279591, .ref (γ 9 31), .int p279592, .int p279593, .int p279594, .ref q279579]) := (n279716 q279572 (rn_oa he279577 he279624)).trans he279577
        have he279719 : F279714 q279573 = .inr (20, [.int p279628, .int p279629, .int p279630, .int p279631, .int p279632, .int p279633, .int p279634]) := (n279716 q279573 (rn_oa he279627 he279624)).trans he279627
        have he279720 : F279714 (γ 9 3) = .inl (I .boolean, 2000, .inl f279717) := e279715
        have hs279721 : rStr γ [] F279571 F279714 := rStr_put (rStr_rf (γ := γ) (W := []) (F := F279571)) n279716 ht279600 (by decide)
        have kp279722 : F279714 q279572 = F279571 q279572 := n279716 q279572 (rn_ty htq279572 ht279600 (by decide))
        have bf279717 : gF f279717 0 1 := gF_upd hf279717 bf279625 (gB_w (gBl (show Int32.toInt 1 = 1 by decide)) (by decide) (by decide))
        have hT279723 : RS D I P279570 F279714 γ el := RS_set hT n279716 ht279600 (by decide) ⟨f279717, he279720, bf279717⟩
        exact G_vretA dr_cX17_stand_40 rfl (Nat.le_of_ble_eq_true rfl) (Nat.le_of_ble_eq_true rfl) ⟨F279714, rfl, rfl, hT279723, hs279721, (Nat.le_of_ble_eq_true rfl), (Nat.le_of_ble_eq_true rfl), (fun h => absurd h (by omega)), kp279722⟩
  · have r279724 : 0 ≤ o279644.toInt := gj_nlt hc279646 (show Int32.toInt 0 = 0 by decide)
    have bo279644' : gB o279644 0 1999 := ⟨by omega, by omega⟩
    refine G_aload_n 1 dr_cX17_stand_10 rfl ?_
    refine Gp_get 3 hm279576 he279577 dr_cX17_stand_11 (gk_X17 D I) (Nat.le_of_ble_eq_true rfl) wr_7_77 rfl ?_
    refine G_iload_n 0 dr_cX17_stand_14 rfl ?_
    refine G_iconst 1 dr_cX17_stand_15 (by decide +kernel) ?_
    refine Gp_zast 3 hm279623 he279624 dr_cX17_stand_16 rfl (gB_in bo279644' (by decide) (by decide)) (fun F279725 e279726 n279727 => ?_)
    obtain ⟨f279728, hf279728⟩ : ∃ z, z = upd f279625 o279644.toNatClampNeg (vp_nar .boolean 1) := ⟨_, rfl⟩
    rw [← hf279728] at e279726
    have he279729 : F279725 q279572 = .inr (22, [.ref (γ 9 0), .ref (γ 9 1), .ref (γ 9 2), .ref (γ 9 3), .ref (γ 9 4), .ref (γ 9 5), .ref (γ 9 6), .ref (γ 9 7), .ref (γ 9 8), .int p279580, .int p279581, .int p279582, .int p279583, .int p279584, .int p279585, .ref (γ 9 15), .ref (γ 9 16), .ref (γ 9 17), .ref (γ 9 18), .ref (γ 9 19), .ref (γ 9 20), .ref (γ 9 21), .ref (γ 9 22), .int p279586, .int p279587, .int p279588, .int p279589, .int p279590, .ref q279578, .ref (γ 9 29), .int p279591, .ref (γ 9 31), .int p279592, .int p279593, .int p279594, .ref q279579]) := (n279727 q279572 (rn_oa he279577 he279624)).trans he279577
    have he279730 : F279725 q279573 = .inr (20, [.int p279628, .int p279629, .int p279630, .int p279631, .int p279632, .int p279633, .int p279634]) := (n279727 q279573 (rn_oa he279627 he279624)).trans he279627
    have he279731 : F279725 (γ 9 3) = .inl (I .boolean, 2000, .inl f279728) := e279726
    have hs279732 : rStr γ [] F279571 F279725 := rStr_put (rStr_rf (γ := γ) (W := []) (F := F279571)) n279727 ht279600 (by decide)
    have kp279733 : F279725 q279572 = F279571 q279572 := n279727 q279572 (rn_ty htq279572 ht279600 (by decide))
    have bf279728 : gF f279728 0 1 := gF_upd hf279728 bf279625 (gB_w (gBl (show Int32.toInt 1 = 1 by decide)) (by decide) (by decide))
    refine G_iload_n 3 dr_cX17_stand_17 rfl ?_
    refine G_if_eq 41 dr_cX17_stand_18 (by decide +kernel) (fun hc279734 => ?_) (fun hc279734 => ?_)
    · have r279735 : p279574.toInt = 0 := gj_eq hc279734 (show Int32.toInt 0 = 0 by decide)
      have bp279574' : gB p279574 0 0 := ⟨by omega, by omega⟩
      refine G_aload_n 2 dr_cX17_stand_41 rfl ?_
      have hT279736 : RS D I P279570 F279725 γ el := RS_set hT n279727 ht279600 (by decide) ⟨f279728, he279731, bf279728⟩
      refine Gw_callV (As := []) (gV_ok D I) (cp_214529_Row_usesA l hl0 D I P279570 F279725 q279573 p279628 p279629 p279630 p279631 p279632 p279633 p279634 hm279626 he279730 bp279628 bp279629 bp279632 bp279633 bp279634) dr_cX17_stand_42 ⟨wr_10_192, wr_1_39, wr_10_195, by decide, rfl, (Nat.le_of_ble_eq_true rfl), (Nat.le_of_ble_eq_true rfl)⟩ wr_10_193 wr_10_194 hm279626 he279730 rfl (show 0 + 0 ≤ 0 by first | omega | decide) (show 0 + 0 ≤ 0 by first | omega | decide) (Nat.le_of_ble_eq_true rfl) (fun r279740 w279741 dc279737 ds279738 hp279739 => ?_) (fun _ _ _ _ _ z => z.elim)
      obtain ⟨o279742, rfl, rfl, hdc, hds, bo279742, x279743⟩ := hp279739
      change G _ _ _ _ _ _ _ (.int o279742 :: _) _ _ _
      refine G_widen (cs' := 0) (sl' := 0) (by omega) (by omega) ?_
      refine G_if_eq 58 dr_cX17_stand_45 (by decide +kernel) (fun hc279744 => ?_) (fun hc279744 => ?_)
      · have r279745 : o279742.toInt = 0 := gj_eq hc279744 (show Int32.toInt 0 = 0 by decide)
        have bo279742' : gB o279742 0 0 := ⟨by omega, by omega⟩
        refine G_aload_n 2 dr_cX17_stand_58 rfl ?_
        refine Gw_callV (As := []) (gV_ok D I) (cp_214553_Row_usesB l hl0 D I P279570 F279725 q279573 p279628 p279629 p279630 p279631 p279632 p279633 p279634 hm279626 he279730 bp279628 bp279629 bp279632 bp279633 bp279634) dr_cX17_stand_59 ⟨wr_10_196, wr_1_39, wr_10_199, by decide, rfl, (Nat.le_of_ble_eq_true rfl), (Nat.le_of_ble_eq_true rfl)⟩ wr_10_197 wr_10_198 hm279626 he279730 rfl (show 0 + 0 ≤ 0 by first | omega | decide) (show 0 + 0 ≤ 0 by first | omega | decide) (Nat.le_of_ble_eq_true rfl) (fun r279749 w279750 dc279746 ds279747 hp279748 => ?_) (fun _ _ _ _ _ z => z.elim)
        obtain ⟨o279751, rfl, rfl, hdc, hds, bo279751, x279752⟩ := hp279748
        change G _ _ _ _ _ _ _ (.int o279751 :: _) _ _ _
        refine G_widen (cs' := 0) (sl' := 0) (by omega) (by omega) ?_
        refine G_if_eq 75 dr_cX17_stand_62 (by decide +kernel) (fun hc279753 => ?_) (fun hc279753 => ?_)
        · have r279754 : o279751.toInt = 0 := gj_eq hc279753 (show Int32.toInt 0 = 0 by decide)
          have bo279751' : gB o279751 0 0 := ⟨by omega, by omega⟩
          exact G_vretA dr_cX17_stand_75 rfl (Nat.le_of_ble_eq_true rfl) (Nat.le_of_ble_eq_true rfl) ⟨F279725, rfl, rfl, hT279736, hs279732, (Nat.le_of_ble_eq_true rfl), (Nat.le_of_ble_eq_true rfl), (fun _ n => by rw [cB_of he279731, cB_of he279624, nmS_of he279627]; exact nm_fin true false false (decide_eq_true (show (p279628.toInt ≤ 21) by omega)) (decide_eq_false (show ¬ (p279628.toInt ≠ 20 ∧ p279628.toInt ≠ 21 ∧ p279628.toInt ≠ 30 ∧ p279633.toInt = 1) by omega)) (decide_eq_false (show ¬ (0 < p279628.toInt ∧ p279628.toInt < 20 ∧ p279634.toInt = 1) by omega)) (by rw [sd_u hf279728 (by omega) (by omega), show o279644.toInt = p279629.toInt by omega]; simp)), kp279733⟩
        · have r279755 : o279751.toInt ≠ 0 := gj_neq hc279753 (show Int32.toInt 0 = 0 by decide)
          have bo279751' : gB o279751 1 1 := ⟨by omega, by omega⟩
          refine G_aload_n 1 dr_cX17_stand_65 rfl ?_
          refine Gp_get 3 hm279576 he279729 dr_cX17_stand_66 (gk_X17 D I) (Nat.le_of_ble_eq_true rfl) wr_7_77 rfl ?_
          refine G_aload_n 2 dr_cX17_stand_69 rfl ?_
          refine Gp_get 3 hm279626 he279730 dr_cX17_stand_70 (gk_X15 D I) (Nat.le_of_ble_eq_true rfl) wr_9_190 rfl ?_
          refine G_iconst 1 dr_cX17_stand_73 (by decide +kernel) ?_
          refine Gp_zast 3 hm279623 he279731 dr_cX17_stand_74 rfl (gB_inr (by omega) (by omega)) (fun F279756 e279757 n279758 => ?_)
          obtain ⟨f279759, hf279759⟩ : ∃ z, z = upd f279728 p279631.toNatClampNeg (vp_nar .boolean 1) := ⟨_, rfl⟩
          rw [← hf279759] at e279757
          have he279760 : F279756 q279572 = .inr (22, [.ref (γ 9 0), .ref (γ 9 1), .ref (γ 9 2), .ref (γ 9 3), .ref (γ 9 4), .ref (γ 9 5), .ref (γ 9 6), .ref (γ 9 7), .ref (γ 9 8), .int p279580, .int p279581, .int p279582, .int p279583, .int p279584, .int p279585, .ref (γ 9 15), .ref (γ 9 16), .ref (γ 9 17), .ref (γ 9 18), .ref (γ 9 19), .ref (γ 9 20), .ref (γ 9 21), .ref (γ 9 22), .int p279586, .int p279587, .int p279588, .int p279589, .int p279590, .ref q279578, .ref (γ 9 29), .int p279591, .ref (γ 9 31), .int p279592, .int p279593, .int p279594, .ref q279579]) := (n279758 q279572 (rn_oa he279729 he279731)).trans he279729
          have he279761 : F279756 q279573 = .inr (20, [.int p279628, .int p279629, .int p279630, .int p279631, .int p279632, .int p279633, .int p279634]) := (n279758 q279573 (rn_oa he279730 he279731)).trans he279730
          have he279762 : F279756 (γ 9 3) = .inl (I .boolean, 2000, .inl f279759) := e279757
          have hs279763 : rStr γ [] F279571 F279756 := rStr_put hs279732 n279758 ht279600 (by decide)
          have kp279764 : F279756 q279572 = F279571 q279572 := (n279758 q279572 (rn_ty htq279572 ht279600 (by decide))).trans kp279733
          have bf279759 : gF f279759 0 1 := gF_upd hf279759 bf279728 (gB_w (gBl (show Int32.toInt 1 = 1 by decide)) (by decide) (by decide))
          have hT279765 : RS D I P279570 F279756 γ el := RS_set hT279736 n279758 ht279600 (by decide) ⟨f279759, he279762, bf279759⟩
          exact G_vretA dr_cX17_stand_75 rfl (Nat.le_of_ble_eq_true rfl) (Nat.le_of_ble_eq_true rfl) ⟨F279756, rfl, rfl, hT279765, hs279763, (Nat.le_of_ble_eq_true rfl), (Nat.le_of_ble_eq_true rfl), (fun _ n => by rw [cB_of he279762, cB_of he279624, nmS_of he279627]; exact nm_fin true false true (decide_eq_true (show (p279628.toInt ≤ 21) by omega)) (decide_eq_false (show ¬ (p279628.toInt ≠ 20 ∧ p279628.toInt ≠ 21 ∧ p279628.toInt ≠ 30 ∧ p279633.toInt = 1) by omega)) (decide_eq_true (show (0 < p279628.toInt ∧ p279628.toInt < 20 ∧ p279634.toInt = 1) by omega)) (by rw [sd_u hf279759 (by omega) (by omega), sd_u hf279728 (by omega) (by omega), show o279644.toInt = p279629.toInt by omega]; simp)), kp279764⟩
      · have r279766 : o279742.toInt ≠ 0 := gj_neq hc279744 (show Int32.toInt 0 = 0 by decide)
        have bo279742' : gB o279742 1 1 := ⟨by omega, by omega⟩
        refine G_aload_n 1 dr_cX17_stand_48 rfl ?_
        refine Gp_get 3 hm279576 he279729 dr_cX17_stand_49 (gk_X17 D I) (Nat.le_of_ble_eq_true rfl) wr_7_77 rfl ?_
        refine G_aload_n 2 dr_cX17_stand_52 rfl ?_
        refine Gp_get 2 hm279626 he279730 dr_cX17_stand_53 (gk_X15 D I) (Nat.le_of_ble_eq_true rfl) wr_9_186 rfl ?_
        refine G_iconst 1 dr_cX17_stand_56 (by decide +kernel) ?_
        refine Gp_zast 3 hm279623 he279731 dr_cX17_stand_57 rfl (gB_inr (by omega) (by omega)) (fun F279767 e279768 n279769 => ?_)
        obtain ⟨f279770, hf279770⟩ : ∃ z, z = upd f279728 p279630.toNatClampNeg (vp_nar .boolean 1) := ⟨_, rfl⟩
        rw [← hf279770] at e279768
        have he279771 : F279767 q279572 = .inr (22, [.ref (γ 9 0), .ref (γ 9 1), .ref (γ 9 2), .ref (γ 9 3), .ref (γ 9 4), .ref (γ 9 5), .ref (γ 9 6), .ref (γ 9 7), .ref (γ 9 8), .int p279580, .int p279581, .int p279582, .int p279583, .int p279584, .int p279585, .ref (γ 9 15), .ref (γ 9 16), .ref (γ 9 17), .ref (γ 9 18), .ref (γ 9 19), .ref (γ 9 20), .ref (γ 9 21), .ref (γ 9 22), .int p279586, .int p279587, .int p279588, .int p279589, .int p279590, .ref q279578, .ref (γ 9 29), .int p279591, .ref (γ 9 31), .int p279592, .int p279593, .int p279594, .ref q279579]) := (n279769 q279572 (rn_oa he279729 he279731)).trans he279729
        have he279772 : F279767 q279573 = .inr (20, [.int p279628, .int p279629, .int p279630, .int p279631, .int p279632, .int p279633, .int p279634]) := (n279769 q279573 (rn_oa he279730 he279731)).trans he279730
        have he279773 : F279767 (γ 9 3) = .inl (I .boolean, 2000, .inl f279770) := e279768
        have hs279774 : rStr γ [] F279571 F279767 := rStr_put hs279732 n279769 ht279600 (by decide)
        have kp279775 : F279767 q279572 = F279571 q279572 := (n279769 q279572 (rn_ty htq279572 ht279600 (by decide))).trans kp279733
        have bf279770 : gF f279770 0 1 := gF_upd hf279770 bf279728 (gB_w (gBl (show Int32.toInt 1 = 1 by decide)) (by decide) (by decide))
        refine G_aload_n 2 dr_cX17_stand_58 rfl ?_
        have hT279776 : RS D I P279570 F279767 γ el := RS_set hT279736 n279769 ht279600 (by decide) ⟨f279770, he279773, bf279770⟩
        refine Gw_callV (As := []) (gV_ok D I) (cp_214553_Row_usesB l hl0 D I P279570 F279767 q279573 p279628 p279629 p279630 p279631 p279632 p279633 p279634 hm279626 he279772 bp279628 bp279629 bp279632 bp279633 bp279634) dr_cX17_stand_59 ⟨wr_10_196, wr_1_39, wr_10_199, by decide, rfl, (Nat.le_of_ble_eq_true rfl), (Nat.le_of_ble_eq_true rfl)⟩ wr_10_197 wr_10_198 hm279626 he279772 rfl (show 0 + 0 ≤ 0 by first | omega | decide) (show 0 + 0 ≤ 0 by first | omega | decide) (Nat.le_of_ble_eq_true rfl) (fun r279780 w279781 dc279777 ds279778 hp279779 => ?_) (fun _ _ _ _ _ z => z.elim)
        obtain ⟨o279782, rfl, rfl, hdc, hds, bo279782, x279783⟩ := hp279779
        change G _ _ _ _ _ _ _ (.int o279782 :: _) _ _ _
        refine G_widen (cs' := 0) (sl' := 0) (by omega) (by omega) ?_
        refine G_if_eq 75 dr_cX17_stand_62 (by decide +kernel) (fun hc279784 => ?_) (fun hc279784 => ?_)
        · have r279785 : o279782.toInt = 0 := gj_eq hc279784 (show Int32.toInt 0 = 0 by decide)
          have bo279782' : gB o279782 0 0 := ⟨by omega, by omega⟩
          exact G_vretA dr_cX17_stand_75 rfl (Nat.le_of_ble_eq_true rfl) (Nat.le_of_ble_eq_true rfl) ⟨F279767, rfl, rfl, hT279776, hs279774, (Nat.le_of_ble_eq_true rfl), (Nat.le_of_ble_eq_true rfl), (fun _ n => by rw [cB_of he279773, cB_of he279624, nmS_of he279627]; exact nm_fin true true false (decide_eq_true (show (p279628.toInt ≤ 21) by omega)) (decide_eq_true (show (p279628.toInt ≠ 20 ∧ p279628.toInt ≠ 21 ∧ p279628.toInt ≠ 30 ∧ p279633.toInt = 1) by omega)) (decide_eq_false (show ¬ (0 < p279628.toInt ∧ p279628.toInt < 20 ∧ p279634.toInt = 1) by omega)) (by rw [sd_u hf279770 (by omega) (by omega), sd_u hf279728 (by omega) (by omega), show o279644.toInt = p279629.toInt by omega]; simp)), kp279775⟩
        · have r279786 : o279782.toInt ≠ 0 := gj_neq hc279784 (show Int32.toInt 0 = 0 by decide)
          have bo279782' : gB o279782 1 1 := ⟨by omega, by omega⟩
          refine G_aload_n 1 dr_cX17_stand_65 rfl ?_
          refine Gp_get 3 hm279576 he279771 dr_cX17_stand_66 (gk_X17 D I) (Nat.le_of_ble_eq_true rfl) wr_7_77 rfl ?_
          refine G_aload_n 2 dr_cX17_stand_69 rfl ?_
          refine Gp_get 3 hm279626 he279772 dr_cX17_stand_70 (gk_X15 D I) (Nat.le_of_ble_eq_true rfl) wr_9_190 rfl ?_
          refine G_iconst 1 dr_cX17_stand_73 (by decide +kernel) ?_
          refine Gp_zast 3 hm279623 he279773 dr_cX17_stand_74 rfl (gB_inr (by omega) (by omega)) (fun F279787 e279788 n279789 => ?_)
          obtain ⟨f279790, hf279790⟩ : ∃ z, z = upd f279770 p279631.toNatClampNeg (vp_nar .boolean 1) := ⟨_, rfl⟩
          rw [← hf279790] at e279788
          have he279791 : F279787 q279572 = .inr (22, [.ref (γ 9 0), .ref (γ 9 1), .ref (γ 9 2), .ref (γ 9 3), .ref (γ 9 4), .ref (γ 9 5), .ref (γ 9 6), .ref (γ 9 7), .ref (γ 9 8), .int p279580, .int p279581, .int p279582, .int p279583, .int p279584, .int p279585, .ref (γ 9 15), .ref (γ 9 16), .ref (γ 9 17), .ref (γ 9 18), .ref (γ 9 19), .ref (γ 9 20), .ref (γ 9 21), .ref (γ 9 22), .int p279586, .int p279587, .int p279588, .int p279589, .int p279590, .ref q279578, .ref (γ 9 29), .int p279591, .ref (γ 9 31), .int p279592, .int p279593, .int p279594, .ref q279579]) := (n279789 q279572 (rn_oa he279771 he279773)).trans he279771
          have he279792 : F279787 q279573 = .inr (20, [.int p279628, .int p279629, .int p279630, .int p279631, .int p279632, .int p279633, .int p279634]) := (n279789 q279573 (rn_oa he279772 he279773)).trans he279772
          have he279793 : F279787 (γ 9 3) = .inl (I .boolean, 2000, .inl f279790) := e279788
          have hs279794 : rStr γ [] F279571 F279787 := rStr_put hs279774 n279789 ht279600 (by decide)
          have kp279795 : F279787 q279572 = F279571 q279572 := (n279789 q279572 (rn_ty htq279572 ht279600 (by decide))).trans kp279775
          have bf279790 : gF f279790 0 1 := gF_upd hf279790 bf279770 (gB_w (gBl (show Int32.toInt 1 = 1 by decide)) (by decide) (by decide))
          have hT279796 : RS D I P279570 F279787 γ el := RS_set hT279776 n279789 ht279600 (by decide) ⟨f279790, he279793, bf279790⟩
          exact G_vretA dr_cX17_stand_75 rfl (Nat.le_of_ble_eq_true rfl) (Nat.le_of_ble_eq_true rfl) ⟨F279787, rfl, rfl, hT279796, hs279794, (Nat.le_of_ble_eq_true rfl), (Nat.le_of_ble_eq_true rfl), (fun _ n => by rw [cB_of he279793, cB_of he279624, nmS_of he279627]; exact nm_fin true true true (decide_eq_true (show (p279628.toInt ≤ 21) by omega)) (decide_eq_true (show (p279628.toInt ≠ 20 ∧ p279628.toInt ≠ 21 ∧ p279628.toInt ≠ 30 ∧ p279633.toInt = 1) by omega)) (decide_eq_true (show (0 < p279628.toInt ∧ p279628.toInt < 20 ∧ p279634.toInt = 1) by omega)) (by rw [sd_u hf279790 (by omega) (by omega), sd_u hf279770 (by omega) (by omega), sd_u hf279728 (by omega) (by omega), show o279644.toInt = p279629.toInt by omega]; simp)), kp279795⟩
    · have r279797 : p279574.toInt ≠ 0 := gj_neq hc279734 (show Int32.toInt 0 = 0 by decide)
      have bp279574' : gB p279574 1 1 := ⟨by omega, by omega⟩
      refine G_aload_n 2 dr_cX17_stand_21 rfl ?_
      refine Gp_get 0 hm279626 he279730 dr_cX17_stand_22 (gk_X15 D I) (Nat.le_of_ble_eq_true rfl) wr_9_177 rfl ?_
      refine G_bipush 21 dr_cX17_stand_25 (by decide +kernel) ?_
      refine G_icmp_ne 40 dr_cX17_stand_27 (by decide +kernel) (fun hc279798 => ?_) (fun hc279798 => ?_)
      · have r279799 : p279628.toInt ≠ 21 := gj_neq hc279798 (show Int32.toInt 21 = 21 by decide)
        have hT279800 : RS D I P279570 F279725 γ el := RS_set hT n279727 ht279600 (by decide) ⟨f279728, he279731, bf279728⟩
        exact G_vretA dr_cX17_stand_40 rfl (Nat.le_of_ble_eq_true rfl) (Nat.le_of_ble_eq_true rfl) ⟨F279725, rfl, rfl, hT279800, hs279732, (Nat.le_of_ble_eq_true rfl), (Nat.le_of_ble_eq_true rfl), (fun h => absurd h (by omega)), kp279733⟩
      · have r279801 : p279628.toInt = 21 := gj_eq hc279798 (show Int32.toInt 21 = 21 by decide)
        have bp279628' : gB p279628 21 21 := ⟨by omega, by omega⟩
        refine G_aload_n 1 dr_cX17_stand_30 rfl ?_
        refine Gp_get 3 hm279576 he279729 dr_cX17_stand_31 (gk_X17 D I) (Nat.le_of_ble_eq_true rfl) wr_7_77 rfl ?_
        refine G_aload_n 2 dr_cX17_stand_34 rfl ?_
        refine Gp_get 4 hm279626 he279730 dr_cX17_stand_35 (gk_X15 D I) (Nat.le_of_ble_eq_true rfl) wr_9_193 rfl ?_
        refine G_iconst 1 dr_cX17_stand_38 (by decide +kernel) ?_
        refine Gp_zast 3 hm279623 he279731 dr_cX17_stand_39 rfl (gB_in bp279632 (by decide) (by decide)) (fun F279802 e279803 n279804 => ?_)
        obtain ⟨f279805, hf279805⟩ : ∃ z, z = upd f279728 p279632.toNatClampNeg (vp_nar .boolean 1) := ⟨_, rfl⟩
        rw [← hf279805] at e279803
        have he279806 : F279802 q279572 = .inr (22, [.ref (γ 9 0), .ref (γ 9 1), .ref (γ 9 2), .ref (γ 9 3), .ref (γ 9 4), .ref (γ 9 5), .ref (γ 9 6), .ref (γ 9 7), .ref (γ 9 8), .int p279580, .int p279581, .int p279582, .int p279583, .int p279584, .int p279585, .ref (γ 9 15), .ref (γ 9 16), .ref (γ 9 17), .ref (γ 9 18), .ref (γ 9 19), .ref (γ 9 20), .ref (γ 9 21), .ref (γ 9 22), .int p279586, .int p279587, .int p279588, .int p279589, .int p279590, .ref q279578, .ref (γ 9 29), .int p279591, .ref (γ 9 31), .int p279592, .int p279593, .int p279594, .ref q279579]) := (n279804 q279572 (rn_oa he279729 he279731)).trans he279729
        have he279807 : F279802 q279573 = .inr (20, [.int p279628, .int p279629, .int p279630, .int p279631, .int p279632, .int p279633, .int p279634]) := (n279804 q279573 (rn_oa he279730 he279731)).trans he279730
        have he279808 : F279802 (γ 9 3) = .inl (I .boolean, 2000, .inl f279805) := e279803
        have hs279809 : rStr γ [] F279571 F279802 := rStr_put hs279732 n279804 ht279600 (by decide)
        have n279810 : ∀ b, b ≠ (γ 9 3) → F279802 b = F279571 b := fun b hb => (n279804 b hb).trans (n279727 b hb)
        have kp279811 : F279802 q279572 = F279571 q279572 := (n279804 q279572 (rn_ty htq279572 ht279600 (by decide))).trans kp279733
        have bf279805 : gF f279805 0 1 := gF_upd hf279805 bf279728 (gB_w (gBl (show Int32.toInt 1 = 1 by decide)) (by decide) (by decide))
        have hT279812 : RS D I P279570 F279802 γ el := RS_set hT n279810 ht279600 (by decide) ⟨f279805, he279808, bf279805⟩
        exact G_vretA dr_cX17_stand_40 rfl (Nat.le_of_ble_eq_true rfl) (Nat.le_of_ble_eq_true rfl) ⟨F279802, rfl, rfl, hT279812, hs279809, (Nat.le_of_ble_eq_true rfl), (Nat.le_of_ble_eq_true rfl), (fun h => absurd h (by omega)), kp279811⟩
