abbrev ky_278645_SpillForgeModel_behind : gKey := (cX17_behind, 4, "SpillForgeModel", none, [], "behind", fun _ _ => True)
def pt_278645_SpillForgeModel_behind (D : va_G) (I : FieldType → ClassId) (γ el : Nat → Nat → Nat) (P278641 : List Nat) (F278642 : Nat → va_E) (q278643 : Nat) (q278644 : Nat) : Option Value → va_W → Nat → Nat → Prop := fun r w dc ds => ∃ (F281320 : Nat → va_E), r = none ∧ w = va_pl P278641 F281320 ∧ RS D I P278641 F281320 γ el ∧ rStr γ [] F278642 F281320 ∧ dc ≤ 0 ∧ ds ≤ 0 ∧ (F281320 q278643 = F278642 q278643) ∧ (F281320 (γ 9 3) = F278642 (γ 9 3))
set_option maxRecDepth 100000 in
set_option maxHeartbeats 4000000 in
theorem ct_278645_SpillForgeModel_behind (l : Launch) (hl0 : l.stackTraces = false) (D : va_G) (I : FieldType → ClassId) (γ el : Nat → Nat → Nat) (P278641 : List Nat) (F278642 : Nat → va_E) (q278643 : Nat) (q278644 : Nat) (hT : RS D I P278641 F278642 γ el) (htq278643 : rKd γ q278643 10) (htq278644 : rKd γ q278644 2) : CtA (gV D I) l yX17_behind cX17_behind 4 none 1 21 0 0 [.ref q278643, .ref q278644] (va_pl P278641 F278642) (pt_278645_SpillForgeModel_behind D I γ el P278641 F278642 q278643 q278644) gNA := by
  refine CtA_of hl0 (by decide) (Nat.le_of_ble_eq_true rfl) ?_
  refine G_iconst 0 dr_cX17_behind_0 (by decide +kernel) ?_
  refine G_istore_n (L' := [(2, .int 0), (0, .ref q278643), (1, .ref q278644)]) dr_cX17_behind_1 (Nat.le_of_ble_eq_true rfl) rfl ?_
  have hlp2_280773 : ∀ (n2_280773 : Nat) (F280769 : Nat → va_E) (g280768 : Int32), gB g280768 0 32 → RS D I P278641 F280769 γ el → rStr γ [] F278642 F280769 → (F280769 q278643 = F278642 q278643) → (F280769 (γ 9 3) = F278642 (γ 9 3)) → ((33 : Int) - g280768.toInt).toNat < n2_280773 → G (gV D I) l (gRm 1 21 0 0) (gMA (gV D I) (pt_278645_SpillForgeModel_behind D I γ el P278641 F278642 q278643 q278644) gNA 0 0) ky_278645_SpillForgeModel_behind 2 [(2, .int g280768), (0, .ref q278643), (1, .ref q278644)] [] (va_pl P278641 F280769) 0 0 := by
    intro n2_280773
    induction n2_280773 with
    | zero => intro F280769 g280768 bg280768 hT280770 hs280771 x280772 x280773 hm2_280773; exact absurd hm2_280773 (Nat.not_lt_zero _)
    | succ n2_280773 ih2_280773 =>
      intro F280769 g280768 bg280768 hT280770 hs280771 x280772 x280773 hm2_280773
      have hs280775 : rStr γ [] F278642 F280769 := fun b h0 hb hw => (hs280771 b h0 hb hw).trans ((rStr_rf (γ := γ) (W := []) (F := F278642)) b h0 hb hw).symm
      have hs280776 : rStr γ [] F278642 F280769 := rStr_tr (rStr_rf (γ := γ) (W := []) (F := F278642)) hs280775
      refine G_iload_n 0 dr_cX17_behind_2 rfl ?_
      refine G_bipush 32 dr_cX17_behind_3 (by decide +kernel) ?_
      refine G_icmp_ge 21 dr_cX17_behind_5 (by decide +kernel) (fun hc280777 => ?_) (fun hc280777 => ?_)
      · have r280778 : 32 ≤ g280768.toInt := gj_leL hc280777 (show Int32.toInt 32 = 32 by decide)
        have bg280768' : gB g280768 32 32 := ⟨by omega, by omega⟩
        refine G_iconst 0 dr_cX17_behind_21 (by decide +kernel) ?_
        refine G_istore_n (L' := [(2, .int 0), (0, .ref q278643), (1, .ref q278644)]) dr_cX17_behind_22 (Nat.le_of_ble_eq_true rfl) rfl ?_
        have hlp23_281022 : ∀ (n23_281022 : Nat) (F281018 : Nat → va_E) (g281017 : Int32), gB g281017 0 2 → RS D I P278641 F281018 γ el → rStr γ [] F278642 F281018 → (F281018 q278643 = F278642 q278643) → (F281018 (γ 9 3) = F278642 (γ 9 3)) → ((3 : Int) - g281017.toInt).toNat < n23_281022 → G (gV D I) l (gRm 1 21 0 0) (gMA (gV D I) (pt_278645_SpillForgeModel_behind D I γ el P278641 F278642 q278643 q278644) gNA 0 0) ky_278645_SpillForgeModel_behind 23 [(2, .int g281017), (0, .ref q278643), (1, .ref q278644)] [] (va_pl P278641 F281018) 0 0 := by
          intro n23_281022
          induction n23_281022 with
          | zero => intro F281018 g281017 bg281017 hT281019 hs281020 x281021 x281022 hm23_281022; exact absurd hm23_281022 (Nat.not_lt_zero _)
          | succ n23_281022 ih23_281022 =>
            intro F281018 g281017 bg281017 hT281019 hs281020 x281021 x281022 hm23_281022
            have hs281024 : rStr γ [] F280769 F281018 := fun b h0 hb hw => (hs281020 b h0 hb hw).trans (hs280771 b h0 hb hw).symm
            have hs281025 : rStr γ [] F278642 F281018 := rStr_tr hs280771 hs281024
            refine G_iload_n 0 dr_cX17_behind_23 rfl ?_
            refine G_aload_n 2 dr_cX17_behind_24 rfl ?_
            have hm281026 : q278644 ∈ P278641 := RS_m hT281019 htq278644 (by decide)
            obtain ⟨q281028, q281029, p281030, p281031, he281027, ht281038, ht281032, ht281033, ht281034, ht281035, ht281036, bp281030, bp281031, r281037, r281039, r281040⟩ := show rk_2 γ q278644 (F281018 q278644) from RS_o hT281019 htq278644
            have hm281041 : q281029 ∈ P278641 := RS_m hT281019 ht281034 (by decide)
            obtain ⟨p281043, p281044, p281045, p281046, p281047, p281048, p281049, he281042, bp281043, bp281044, bp281047, bp281048, bp281049, r281050, r281051, r281052, r281053⟩ := show rk_1 γ q281029 (F281018 q281029) from RS_o hT281019 ht281034
            have bp281045 := gB_any p281045
            have bp281046 := gB_any p281046
            refine Gw_callV (As := []) (gV_ok D I) (cp_1809_Block_ways l hl0 D I P278641 F281018 q278644 q281029 q281028 p281030 p281031 p281043 p281044 p281045 p281046 p281047 p281048 p281049 hm281026 hm281041 he281027 he281042 bp281030 bp281031 bp281043 bp281044 bp281047 bp281048 bp281049) dr_cX17_behind_25 ⟨wr_10_166, wr_1_38, wr_10_169, by decide, rfl, (Nat.le_of_ble_eq_true rfl), (Nat.le_of_ble_eq_true rfl)⟩ wr_10_167 wr_10_168 hm281026 he281027 rfl (show 0 + 0 ≤ 0 by first | omega | decide) (show 0 + 0 ≤ 0 by first | omega | decide) (Nat.le_of_ble_eq_true rfl) (fun r281057 w281058 dc281054 ds281055 hp281056 => ?_) (fun _ _ _ _ _ z => z.elim)
            obtain ⟨o281059, rfl, rfl, hdc, hds, bo281059⟩ := hp281056
            change G _ _ _ _ _ _ _ (.int o281059 :: _) _ _ _
            refine G_widen (cs' := 0) (sl' := 0) (by omega) (by omega) ?_
            refine G_icmp_ge 72 dr_cX17_behind_28 (by decide +kernel) (fun hc281060 => ?_) (fun hc281060 => ?_)
            · have r281061 : o281059.toInt ≤ g281017.toInt := gC_le hc281060
              exact G_vretA dr_cX17_behind_72 rfl (Nat.le_of_ble_eq_true rfl) (Nat.le_of_ble_eq_true rfl) ⟨F281018, rfl, rfl, hT281019, hs281020, (Nat.le_of_ble_eq_true rfl), (Nat.le_of_ble_eq_true rfl), x281021, x281022⟩
            · have r281062 : g281017.toInt < o281059.toInt := gC_nle hc281060
              have bg281017' : gB g281017 0 1 := ⟨by omega, by omega⟩
              have bo281059' : gB o281059 1 2 := ⟨by omega, by omega⟩
              refine G_iconst 0 dr_cX17_behind_31 (by decide +kernel) ?_
              refine G_istore_n (L' := [(3, .int 0), (2, .int g281017), (0, .ref q278643), (1, .ref q278644)]) dr_cX17_behind_32 (Nat.le_of_ble_eq_true rfl) rfl ?_
              have hlp33_281164 : ∀ (n33_281164 : Nat) (F281160 : Nat → va_E) (g281159 : Int32), gB g281159 0 32 → RS D I P278641 F281160 γ el → rStr γ [] F278642 F281160 → (F281160 q278643 = F278642 q278643) → (F281160 (γ 9 3) = F278642 (γ 9 3)) → ((33 : Int) - g281159.toInt).toNat < n33_281164 → G (gV D I) l (gRm 1 21 0 0) (gMA (gV D I) (pt_278645_SpillForgeModel_behind D I γ el P278641 F278642 q278643 q278644) gNA 0 0) ky_278645_SpillForgeModel_behind 33 [(3, .int g281159), (2, .int g281017), (0, .ref q278643), (1, .ref q278644)] [] (va_pl P278641 F281160) 0 0 := by
                intro n33_281164
                induction n33_281164 with
                | zero => intro F281160 g281159 bg281159 hT281161 hs281162 x281163 x281164 hm33_281164; exact absurd hm33_281164 (Nat.not_lt_zero _)
                | succ n33_281164 ih33_281164 =>
                  intro F281160 g281159 bg281159 hT281161 hs281162 x281163 x281164 hm33_281164
                  have hs281166 : rStr γ [] F281018 F281160 := fun b h0 hb hw => (hs281162 b h0 hb hw).trans (hs281020 b h0 hb hw).symm
                  have he281167 : F281160 q278644 = .inr (17, [.ref q281028, .ref q281029, .int p281030, .int p281031]) := (hs281166 q278644 (rT0 htq278644 (by decide)) (rT1 htq278644 (by decide)) (rT2 htq278644 (by decide))).trans he281027
                  have he281168 : F281160 q281029 = .inr (20, [.int p281043, .int p281044, .int p281045, .int p281046, .int p281047, .int p281048, .int p281049]) := (hs281166 q281029 (rT0 ht281034 (by decide)) (rT1 ht281034 (by decide)) (rT2 ht281034 (by decide))).trans he281042
                  have hs281169 : rStr γ [] F278642 F281160 := rStr_tr hs281020 hs281166
                  refine G_iload_n 0 dr_cX17_behind_33 rfl ?_
                  refine G_bipush 32 dr_cX17_behind_34 (by decide +kernel) ?_
                  refine G_icmp_ge 66 dr_cX17_behind_36 (by decide +kernel) (fun hc281170 => ?_) (fun hc281170 => ?_)
                  · have r281171 : 32 ≤ g281159.toInt := gj_leL hc281170 (show Int32.toInt 32 = 32 by decide)
                    have bg281159' : gB g281159 32 32 := ⟨by omega, by omega⟩
                    obtain ⟨z281172, hz281172⟩ : ∃ z : Int32, z = g281017 + Int32.ofInt 1 := ⟨_, rfl⟩
                    have ez281172 : z281172.toInt = g281017.toInt + 1 := gI_inc hz281172 (by decide) bg281017' (by decide) (by decide)
                    have bz281172 : gB z281172 1 2 := ⟨by omega, by omega⟩
                    refine G_iinc (L' := [(2, .int z281172), (3, .int g281159), (0, .ref q278643), (1, .ref q278644)]) z281172 1 dr_cX17_behind_66 rfl hz281172.symm (Nat.le_of_ble_eq_true rfl) rfl ?_
                    refine G_goto 23 dr_cX17_behind_69 (by decide +kernel) ?_
                    refine G_lv (L' := [(2, .int z281172), (0, .ref q278643), (1, .ref q278644)]) [0, 2, 3] rfl ?_
                    exact ih23_281022 F281160 z281172 (gB_w bz281172 (by decide) (by decide)) hT281161 hs281162 x281163 x281164 (by omega)
                  · have r281173 : g281159.toInt < 32 := gj_nleL hc281170 (show Int32.toInt 32 = 32 by decide)
                    have bg281159' : gB g281159 0 31 := ⟨by omega, by omega⟩
                    refine G_aload_n 2 dr_cX17_behind_39 rfl ?_
                    have hm281174 : q278643 ∈ P278641 := RS_m hT281161 htq278643 (by decide)
                    obtain ⟨q281176, q281177, p281178, p281179, p281180, p281181, p281182, p281183, p281184, p281185, p281186, p281187, p281188, p281189, p281190, p281191, p281192, he281175, hB281219, ht281193, ht281194, ht281195, ht281196, ht281197, ht281198, ht281199, ht281200, ht281201, ht281202, ht281203, ht281204, ht281205, ht281206, ht281207, ht281208, ht281209, ht281210, ht281211, ht281212, ht281213, ht281214, ht281215, ht281216, hB281220⟩ := show rk_10 γ (F281160 q278643) from RS_o hT281161 htq278643
                    refine Gp_get 2 hm281174 he281175 dr_cX17_behind_40 (gk_X17 D I) (Nat.le_of_ble_eq_true rfl) wr_7_76 rfl ?_
                    refine G_iload_n 0 dr_cX17_behind_43 rfl ?_
                    refine G_dup2_11 dr_cX17_behind_44 rfl rfl ?_
                    have hm281221 : (γ 9 2) ∈ P278641 := RS_m hT281161 ht281197 (by decide)
                    obtain ⟨f281223, he281222, wf281223⟩ := show rk_35 I (F281160 (γ 9 2)) from RS_o hT281161 ht281197
                    refine Gp_lald 2 hm281221 he281222 dr_cX17_behind_45 rfl (gB_in bg281159' (by decide) (by decide)) (G_namL fun u281224 hu281224 => ?_)
                    have qu281224 : lb_Q u281224 (2000 - 64 * g281159.toInt) := lb_Wld hu281224 wf281223 (by omega) (by omega) (lb_Mod0 (by omega) (by omega))
                    refine G_aload_n 2 dr_cX17_behind_46 rfl ?_
                    refine Gp_get 0 hm281174 he281175 dr_cX17_behind_47 (gk_X17 D I) (Nat.le_of_ble_eq_true rfl) wr_7_74 rfl ?_
                    refine G_aload_n 3 dr_cX17_behind_50 rfl ?_
                    refine G_iload_n 1 dr_cX17_behind_51 rfl ?_
                    refine Gw_callV (As := [.int g281017]) (gV_ok D I) (cp_5047_Block_way l hl0 D I P278641 F281160 q278644 q281029 g281017 q281028 p281030 p281031 p281043 p281044 p281045 p281046 p281047 p281048 p281049 hm281026 hm281041 he281167 he281168 bp281030 bp281031 bp281043 bp281044 bp281047 bp281048 bp281049) dr_cX17_behind_52 ⟨wr_10_170, wr_1_38, wr_10_173, by decide, rfl, (Nat.le_of_ble_eq_true rfl), (Nat.le_of_ble_eq_true rfl)⟩ wr_10_171 wr_10_172 hm281026 he281167 rfl (show 0 + 0 ≤ 0 by first | omega | decide) (show 0 + 0 ≤ 0 by first | omega | decide) (Nat.le_of_ble_eq_true rfl) (fun r281228 w281229 dc281225 ds281226 hp281227 => ?_) (fun _ _ _ _ _ z => z.elim)
                    obtain ⟨o281230, rfl, rfl, hdc, hds, bo281230⟩ := hp281227
                    change G _ _ _ _ _ _ _ (.int o281230 :: _) _ _ _
                    refine G_widen (cs' := 0) (sl' := 0) (by omega) (by omega) ?_
                    have hm281231 : (γ 9 0) ∈ P278641 := RS_m hT281161 ht281195 (by decide)
                    obtain ⟨f281233, he281232, hg281234⟩ := show rk_12 I γ (F281160 (γ 9 0)) from RS_o hT281161 ht281195
                    obtain ⟨q281235, hx281237⟩ : ∃ x, x = γ 10 o281230.toInt.toNat := ⟨_, rfl⟩
                    have ht281236 : rKd γ q281235 11 := by rw [hx281237]; exact (hg281234 _ (show o281230.toInt.toNat < 40 by omega)).2.1
                    refine Gp_aald 5 hm281231 he281232 dr_cX17_behind_55 rfl rfl (gB_in bo281230 (by decide) (by decide)) ?_
                    rw [show f281233 o281230.toNatClampNeg = some q281235 from (hg281234 _ (show o281230.toInt.toNat < 40 by omega)).1.trans (by rw [hx281237])]
                    change G _ _ _ _ _ _ _ (.ref q281235 :: _) _ _ _
                    refine G_iload_n 0 dr_cX17_behind_56 rfl ?_
                    have hm281238 : q281235 ∈ P278641 := RS_m hT281161 ht281236 (by decide)
                    obtain ⟨f281240, he281239, wf281240⟩ := show rk_11 I (F281160 q281235) from RS_o hT281161 ht281236
                    refine Gp_lald 2 hm281238 he281239 dr_cX17_behind_57 rfl (gB_in bg281159' (by decide) (by decide)) (G_namL fun u281241 hu281241 => ?_)
                    have qu281241 : lb_Q u281241 (2000 - 64 * g281159.toInt) := lb_Wld hu281241 wf281240 (by omega) (by omega) (lb_Mod0 (by omega) (by omega))
                    refine G_lor dr_cX17_behind_58 (G_namL fun u281242 hu281242 => ?_)
                    have qu281242 : lb_Q u281242 (2000 - 64 * g281159.toInt) := lb_Qor hu281242 qu281224 qu281241
                    refine Gp_last 2 hm281221 he281222 dr_cX17_behind_59 rfl (gB_in bg281159' (by decide) (by decide)) (fun F281243 e281244 n281245 => ?_)
                    obtain ⟨f281246, hf281246⟩ : ∃ z, z = vp_updL f281223 g281159.toNatClampNeg u281242 := ⟨_, rfl⟩
                    rw [← hf281246] at e281244
                    have he281247 : F281243 q278644 = .inr (17, [.ref q281028, .ref q281029, .int p281030, .int p281031]) := (n281245 q278644 (rn_oa he281167 he281222)).trans he281167
                    have he281248 : F281243 q281029 = .inr (20, [.int p281043, .int p281044, .int p281045, .int p281046, .int p281047, .int p281048, .int p281049]) := (n281245 q281029 (rn_oa he281168 he281222)).trans he281168
                    have he281249 : F281243 q278643 = .inr (22, [.ref (γ 9 0), .ref (γ 9 1), .ref (γ 9 2), .ref (γ 9 3), .ref (γ 9 4), .ref (γ 9 5), .ref (γ 9 6), .ref (γ 9 7), .ref (γ 9 8), .int p281178, .int p281179, .int p281180, .int p281181, .int p281182, .int p281183, .ref (γ 9 15), .ref (γ 9 16), .ref (γ 9 17), .ref (γ 9 18), .ref (γ 9 19), .ref (γ 9 20), .ref (γ 9 21), .ref (γ 9 22), .int p281184, .int p281185, .int p281186, .int p281187, .int p281188, .ref q281176, .ref (γ 9 29), .int p281189, .ref (γ 9 31), .int p281190, .int p281191, .int p281192, .ref q281177]) := (n281245 q278643 (rn_oa he281175 he281222)).trans he281175
                    have he281250 : F281243 (γ 9 0) = .inl (I (.array .long), 40, .inr (.inr (.inr (.inr f281233)))) := (n281245 (γ 9 0) (rn_ref_long he281232 he281222)).trans he281232
                    have he281251 : F281243 q281235 = .inl (I .long, 32, .inr (.inl f281240)) := (n281245 q281235 (rn_ty ht281236 ht281197 (by decide))).trans he281239
                    have he281252 : F281243 (γ 9 2) = .inl (I .long, 32, .inr (.inl f281246)) := e281244
                    have hs281253 : rStr γ [] F278642 F281243 := rStr_put hs281162 n281245 ht281197 (by decide)
                    have kp281254 : F281243 q278643 = F278642 q278643 := (n281245 q278643 (rn_ty htq278643 ht281197 (by decide))).trans x281163
                    have kp281255 : F281243 (γ 9 3) = F278642 (γ 9 3) := (n281245 (γ 9 3) (rn_ty ht281198 ht281197 (by decide))).trans x281164
                    have wf281246 : lb_W f281246 (32) (32) (2000) := lb_Wst hf281246 wf281223 (by omega) (lb_Mod0 (by omega) (by omega)) qu281242
                    obtain ⟨z281256, hz281256⟩ : ∃ z : Int32, z = g281159 + Int32.ofInt 1 := ⟨_, rfl⟩
                    have ez281256 : z281256.toInt = g281159.toInt + 1 := gI_inc hz281256 (by decide) bg281159' (by decide) (by decide)
                    have bz281256 : gB z281256 1 32 := ⟨by omega, by omega⟩
                    refine G_iinc (L' := [(3, .int z281256), (2, .int g281017), (0, .ref q278643), (1, .ref q278644)]) z281256 0 dr_cX17_behind_60 rfl hz281256.symm (Nat.le_of_ble_eq_true rfl) rfl ?_
                    refine G_goto 33 dr_cX17_behind_63 (by decide +kernel) ?_
                    have hT281257 : RS D I P278641 F281243 γ el := RS_set hT281161 n281245 ht281197 (by decide) ⟨f281246, he281252, wf281246⟩
                    exact ih33_281164 F281243 z281256 (gB_w bz281256 (by decide) (by decide)) hT281257 hs281253 kp281254 kp281255 (by omega)
              exact hlp33_281164 (((33 : Int) - 0).toNat + 1) F281018 0 (gB_w (gBl (show Int32.toInt 0 = 0 by decide)) (by decide) (by decide)) hT281019 hs281020 x281021 x281022 (Nat.lt_succ_self _)
        exact hlp23_281022 (((3 : Int) - 0).toNat + 1) F280769 0 (gB_w (gBl (show Int32.toInt 0 = 0 by decide)) (by decide) (by decide)) hT280770 hs280771 x280772 x280773 (Nat.lt_succ_self _)
      · have r281258 : g280768.toInt < 32 := gj_nleL hc280777 (show Int32.toInt 32 = 32 by decide)
        have bg280768' : gB g280768 0 31 := ⟨by omega, by omega⟩
        refine G_aload_n 1 dr_cX17_behind_8 rfl ?_
        have hm281259 : q278643 ∈ P278641 := RS_m hT280770 htq278643 (by decide)
        obtain ⟨q281261, q281262, p281263, p281264, p281265, p281266, p281267, p281268, p281269, p281270, p281271, p281272, p281273, p281274, p281275, p281276, p281277, he281260, hB281304, ht281278, ht281279, ht281280, ht281281, ht281282, ht281283, ht281284, ht281285, ht281286, ht281287, ht281288, ht281289, ht281290, ht281291, ht281292, ht281293, ht281294, ht281295, ht281296, ht281297, ht281298, ht281299, ht281300, ht281301, hB281305⟩ := show rk_10 γ (F280769 q278643) from RS_o hT280770 htq278643
        refine Gp_get 2 hm281259 he281260 dr_cX17_behind_9 (gk_X17 D I) (Nat.le_of_ble_eq_true rfl) wr_7_76 rfl ?_
        refine G_iload_n 0 dr_cX17_behind_12 rfl ?_
        refine G_lconst 0 dr_cX17_behind_13 rfl ?_
        have hm281306 : (γ 9 2) ∈ P278641 := RS_m hT280770 ht281282 (by decide)
        obtain ⟨f281308, he281307, wf281308⟩ := show rk_35 I (F280769 (γ 9 2)) from RS_o hT280770 ht281282
        refine Gp_last 2 hm281306 he281307 dr_cX17_behind_14 rfl (gB_in bg280768' (by decide) (by decide)) (fun F281309 e281310 n281311 => ?_)
        obtain ⟨f281312, hf281312⟩ : ∃ z, z = vp_updL f281308 g280768.toNatClampNeg 0 := ⟨_, rfl⟩
        rw [← hf281312] at e281310
        have he281313 : F281309 q278643 = .inr (22, [.ref (γ 9 0), .ref (γ 9 1), .ref (γ 9 2), .ref (γ 9 3), .ref (γ 9 4), .ref (γ 9 5), .ref (γ 9 6), .ref (γ 9 7), .ref (γ 9 8), .int p281263, .int p281264, .int p281265, .int p281266, .int p281267, .int p281268, .ref (γ 9 15), .ref (γ 9 16), .ref (γ 9 17), .ref (γ 9 18), .ref (γ 9 19), .ref (γ 9 20), .ref (γ 9 21), .ref (γ 9 22), .int p281269, .int p281270, .int p281271, .int p281272, .int p281273, .ref q281261, .ref (γ 9 29), .int p281274, .ref (γ 9 31), .int p281275, .int p281276, .int p281277, .ref q281262]) := (n281311 q278643 (rn_oa he281260 he281307)).trans he281260
        have he281314 : F281309 (γ 9 2) = .inl (I .long, 32, .inr (.inl f281312)) := e281310
        have hs281315 : rStr γ [] F278642 F281309 := rStr_put hs280771 n281311 ht281282 (by decide)
        have kp281316 : F281309 q278643 = F278642 q278643 := (n281311 q278643 (rn_ty htq278643 ht281282 (by decide))).trans x280772
        have kp281317 : F281309 (γ 9 3) = F278642 (γ 9 3) := (n281311 (γ 9 3) (rn_ty ht281283 ht281282 (by decide))).trans x280773
        have wf281312 : lb_W f281312 (32) (32) (2000) := lb_Wst hf281312 wf281308 (by omega) (lb_Mod0 (by omega) (by omega)) lb_Q0
        obtain ⟨z281318, hz281318⟩ : ∃ z : Int32, z = g280768 + Int32.ofInt 1 := ⟨_, rfl⟩
        have ez281318 : z281318.toInt = g280768.toInt + 1 := gI_inc hz281318 (by decide) bg280768' (by decide) (by decide)
        have bz281318 : gB z281318 1 32 := ⟨by omega, by omega⟩
        refine G_iinc (L' := [(2, .int z281318), (0, .ref q278643), (1, .ref q278644)]) z281318 0 dr_cX17_behind_15 rfl hz281318.symm (Nat.le_of_ble_eq_true rfl) rfl ?_
        refine G_goto 2 dr_cX17_behind_18 (by decide +kernel) ?_
        have hT281319 : RS D I P278641 F281309 γ el := RS_set hT280770 n281311 ht281282 (by decide) ⟨f281312, he281314, wf281312⟩
        exact ih2_280773 F281309 z281318 (gB_w bz281318 (by decide) (by decide)) hT281319 hs281315 kp281316 kp281317 (by omega)
  exact hlp2_280773 (((33 : Int) - 0).toNat + 1) F278642 0 (gB_w (gBl (show Int32.toInt 0 = 0 by decide)) (by decide) (by decide)) hT (rStr_rf (γ := γ) (W := []) (F := F278642)) rfl rfl (Nat.lt_succ_self _)
abbrev ky_281390_SpillForgeModel_stand : gKey := (cX17_stand, 4, "SpillForgeModel", none, [], "stand", fun _ _ => True)
def pt_281390_SpillForgeModel_stand (D : va_G) (I : FieldType → ClassId) (γ el : Nat → Nat → Nat) (P281385 : List Nat) (F281386 : Nat → va_E) (q281387 : Nat) (q281388 : Nat) (p281389 : Int32) : Option Value → va_W → Nat → Nat → Prop := fun r w dc ds => ∃ (F281628 : Nat → va_E), r = none ∧ w = va_pl P281385 F281628 ∧ RS D I P281385 F281628 γ el ∧ rStr γ [] F281386 F281628 ∧ dc ≤ 0 ∧ ds ≤ 0 ∧ (p281389.toInt = 0 → ∀ n : Nat, rSd (cB (F281628 (γ 9 3))) n ↔ (rSd (cB (F281386 (γ 9 3))) n ∨ nmS (F281386 q281388) n)) ∧ (F281628 q281387 = F281386 q281387)
set_option maxRecDepth 100000 in
set_option maxHeartbeats 4000000 in
theorem ct_281390_SpillForgeModel_stand (l : Launch) (hl0 : l.stackTraces = false) (D : va_G) (I : FieldType → ClassId) (γ el : Nat → Nat → Nat) (P281385 : List Nat) (F281386 : Nat → va_E) (q281387 : Nat) (q281388 : Nat) (p281389 : Int32) (hT : RS D I P281385 F281386 γ el) (htq281387 : rKd γ q281387 10) (htq281388 : rKd γ q281388 1) (bp281389 : gB p281389 0 1) : CtA (gV D I) l yX17_stand cX17_stand 4 none 2 41 0 0 [.ref q281387, .ref q281388, .int p281389] (va_pl P281385 F281386) (pt_281390_SpillForgeModel_stand D I γ el P281385 F281386 q281387 q281388 p281389) gNA := by
  refine CtA_of hl0 (by decide) (Nat.le_of_ble_eq_true rfl) ?_
  have hm281391 : q281387 ∈ P281385 := RS_m hT htq281387 (by decide)
  obtain ⟨q281393, q281394, p281395, p281396, p281397, p281398, p281399, p281400, p281401, p281402, p281403, p281404, p281405, p281406, p281407, p281408, p281409, he281392, hB281436, ht281410, ht281411, ht281412, ht281413, ht281414, ht281415, ht281416, ht281417, ht281418, ht281419, ht281420, ht281421, ht281422, ht281423, ht281424, ht281425, ht281426, ht281427, ht281428, ht281429, ht281430, ht281431, ht281432, ht281433, hB281437⟩ := show rk_10 γ (F281386 q281387) from RS_o hT htq281387
  have hm281438 : (γ 9 3) ∈ P281385 := RS_m hT ht281415 (by decide)
  obtain ⟨f281440, he281439, bf281440⟩ := show rk_14 I (F281386 (γ 9 3)) from RS_o hT ht281415
  have hm281441 : q281388 ∈ P281385 := RS_m hT htq281388 (by decide)
  obtain ⟨p281443, p281444, p281445, p281446, p281447, p281448, p281449, he281442, bp281443, bp281444, bp281447, bp281448, bp281449, r281450, r281451, r281452, r281453⟩ := show rk_1 γ q281388 (F281386 q281388) from RS_o hT htq281388
  have bp281445 := gB_any p281445
  have bp281446 := gB_any p281446
  refine G_aload_n 1 dr_cX17_stand_0 rfl ?_
  refine G_iload_n 2 dr_cX17_stand_1 rfl ?_
  refine Gw_callS (As := [.ref q281388, .int p281389]) (gV_ok D I) (cp_214590_SpillForgeModel_setOf l hl0 D I P281385 F281386 q281388 p281389 p281443 p281444 p281445 p281446 p281447 p281448 p281449 hm281441 he281442 bp281389 bp281443 bp281444 bp281447 bp281448 bp281449) dr_cX17_stand_2 ⟨wr_10_178, wr_1_14, wr_10_180, by decide, rfl, (Nat.le_of_ble_eq_true rfl), (Nat.le_of_ble_eq_true rfl)⟩ wr_10_179 (show 0 + 0 ≤ 0 by first | omega | decide) (show 0 + 0 ≤ 0 by first | omega | decide) (Nat.le_of_ble_eq_true rfl) (fun r281457 w281458 dc281454 ds281455 hp281456 => ?_) (fun _ _ _ _ _ z => z.elim)
  obtain ⟨o281459, rfl, rfl, hdc, hds, bo281459, x281460⟩ := hp281456
  change G _ _ _ _ _ _ _ (.int o281459 :: _) _ _ _
  refine G_widen (cs' := 0) (sl' := 0) (by omega) (by omega) ?_
  refine G_istore_n (L' := [(3, .int o281459), (0, .ref q281387), (1, .ref q281388), (2, .int p281389)]) dr_cX17_stand_5 (Nat.le_of_ble_eq_true rfl) rfl ?_
  refine G_iload_n 0 dr_cX17_stand_6 rfl ?_
  refine G_if_lt 17 dr_cX17_stand_7 (by decide +kernel) (fun hc281461 => ?_) (fun hc281461 => ?_)
  · have r281462 : o281459.toInt < 0 := gj_lt hc281461 (show Int32.toInt 0 = 0 by decide)
    have bo281459' : gB o281459 (-1) (-1) := ⟨by omega, by omega⟩
    refine G_iload_n 3 dr_cX17_stand_17 rfl ?_
    refine G_if_eq 41 dr_cX17_stand_18 (by decide +kernel) (fun hc281463 => ?_) (fun hc281463 => ?_)
    · have r281464 : p281389.toInt = 0 := gj_eq hc281463 (show Int32.toInt 0 = 0 by decide)
      have bp281389' : gB p281389 0 0 := ⟨by omega, by omega⟩
      refine G_aload_n 2 dr_cX17_stand_41 rfl ?_
      refine Gw_callV (As := []) (gV_ok D I) (cp_214529_Row_usesA l hl0 D I P281385 F281386 q281388 p281443 p281444 p281445 p281446 p281447 p281448 p281449 hm281441 he281442 bp281443 bp281444 bp281447 bp281448 bp281449) dr_cX17_stand_42 ⟨wr_10_192, wr_1_39, wr_10_195, by decide, rfl, (Nat.le_of_ble_eq_true rfl), (Nat.le_of_ble_eq_true rfl)⟩ wr_10_193 wr_10_194 hm281441 he281442 rfl (show 0 + 0 ≤ 0 by first | omega | decide) (show 0 + 0 ≤ 0 by first | omega | decide) (Nat.le_of_ble_eq_true rfl) (fun r281468 w281469 dc281465 ds281466 hp281467 => ?_) (fun _ _ _ _ _ z => z.elim)
      obtain ⟨o281470, rfl, rfl, hdc, hds, bo281470, x281471⟩ := hp281467
      change G _ _ _ _ _ _ _ (.int o281470 :: _) _ _ _
      refine G_widen (cs' := 0) (sl' := 0) (by omega) (by omega) ?_
      refine G_if_eq 58 dr_cX17_stand_45 (by decide +kernel) (fun hc281472 => ?_) (fun hc281472 => ?_)
      · have r281473 : o281470.toInt = 0 := gj_eq hc281472 (show Int32.toInt 0 = 0 by decide)
        have bo281470' : gB o281470 0 0 := ⟨by omega, by omega⟩
        refine G_aload_n 2 dr_cX17_stand_58 rfl ?_
        refine Gw_callV (As := []) (gV_ok D I) (cp_214553_Row_usesB l hl0 D I P281385 F281386 q281388 p281443 p281444 p281445 p281446 p281447 p281448 p281449 hm281441 he281442 bp281443 bp281444 bp281447 bp281448 bp281449) dr_cX17_stand_59 ⟨wr_10_196, wr_1_39, wr_10_199, by decide, rfl, (Nat.le_of_ble_eq_true rfl), (Nat.le_of_ble_eq_true rfl)⟩ wr_10_197 wr_10_198 hm281441 he281442 rfl (show 0 + 0 ≤ 0 by first | omega | decide) (show 0 + 0 ≤ 0 by first | omega | decide) (Nat.le_of_ble_eq_true rfl) (fun r281477 w281478 dc281474 ds281475 hp281476 => ?_) (fun _ _ _ _ _ z => z.elim)
        obtain ⟨o281479, rfl, rfl, hdc, hds, bo281479, x281480⟩ := hp281476
        change G _ _ _ _ _ _ _ (.int o281479 :: _) _ _ _
        refine G_widen (cs' := 0) (sl' := 0) (by omega) (by omega) ?_
        refine G_if_eq 75 dr_cX17_stand_62 (by decide +kernel) (fun hc281481 => ?_) (fun hc281481 => ?_)
        · have r281482 : o281479.toInt = 0 := gj_eq hc281481 (show Int32.toInt 0 = 0 by decide)
          have bo281479' : gB o281479 0 0 := ⟨by omega, by omega⟩
          exact G_vretA dr_cX17_stand_75 rfl (Nat.le_of_ble_eq_true rfl) (Nat.le_of_ble_eq_true rfl) ⟨F281386, rfl, rfl, hT, (rStr_rf (γ := γ) (W := []) (F := F281386)), (Nat.le_of_ble_eq_true rfl), (Nat.le_of_ble_eq_true rfl), (fun _ n => by rw [cB_of he281439, nmS_of he281442]; exact nm_fin false false false (decide_eq_false (show ¬ (p281443.toInt ≤ 21) by omega)) (decide_eq_false (show ¬ (p281443.toInt ≠ 20 ∧ p281443.toInt ≠ 21 ∧ p281443.toInt ≠ 30 ∧ p281448.toInt = 1) by omega)) (decide_eq_false (show ¬ (0 < p281443.toInt ∧ p281443.toInt < 20 ∧ p281449.toInt = 1) by omega)) (by simp)), rfl⟩
        · have r281483 : o281479.toInt ≠ 0 := gj_neq hc281481 (show Int32.toInt 0 = 0 by decide)
          have bo281479' : gB o281479 1 1 := ⟨by omega, by omega⟩
          refine G_aload_n 1 dr_cX17_stand_65 rfl ?_
          refine Gp_get 3 hm281391 he281392 dr_cX17_stand_66 (gk_X17 D I) (Nat.le_of_ble_eq_true rfl) wr_7_77 rfl ?_
          refine G_aload_n 2 dr_cX17_stand_69 rfl ?_
          refine Gp_get 3 hm281441 he281442 dr_cX17_stand_70 (gk_X15 D I) (Nat.le_of_ble_eq_true rfl) wr_9_190 rfl ?_
          refine G_iconst 1 dr_cX17_stand_73 (by decide +kernel) ?_
          refine Gp_zast 3 hm281438 he281439 dr_cX17_stand_74 rfl (gB_inr (by omega) (by omega)) (fun F281484 e281485 n281486 => ?_)
          obtain ⟨f281487, hf281487⟩ : ∃ z, z = upd f281440 p281446.toNatClampNeg (vp_nar .boolean 1) := ⟨_, rfl⟩
          rw [← hf281487] at e281485
          have he281488 : F281484 q281387 = .inr (22, [.ref (γ 9 0), .ref (γ 9 1), .ref (γ 9 2), .ref (γ 9 3), .ref (γ 9 4), .ref (γ 9 5), .ref (γ 9 6), .ref (γ 9 7), .ref (γ 9 8), .int p281395, .int p281396, .int p281397, .int p281398, .int p281399, .int p281400, .ref (γ 9 15), .ref (γ 9 16), .ref (γ 9 17), .ref (γ 9 18), .ref (γ 9 19), .ref (γ 9 20), .ref (γ 9 21), .ref (γ 9 22), .int p281401, .int p281402, .int p281403, .int p281404, .int p281405, .ref q281393, .ref (γ 9 29), .int p281406, .ref (γ 9 31), .int p281407, .int p281408, .int p281409, .ref q281394]) := (n281486 q281387 (rn_oa he281392 he281439)).trans he281392
          have he281489 : F281484 q281388 = .inr (20, [.int p281443, .int p281444, .int p281445, .int p281446, .int p281447, .int p281448, .int p281449]) := (n281486 q281388 (rn_oa he281442 he281439)).trans he281442
          have he281490 : F281484 (γ 9 3) = .inl (I .boolean, 2000, .inl f281487) := e281485
          have hs281491 : rStr γ [] F281386 F281484 := rStr_put (rStr_rf (γ := γ) (W := []) (F := F281386)) n281486 ht281415 (by decide)
          have kp281492 : F281484 q281387 = F281386 q281387 := n281486 q281387 (rn_ty htq281387 ht281415 (by decide))
          have bf281487 : gF f281487 0 1 := gF_upd hf281487 bf281440 (gB_w (gBl (show Int32.toInt 1 = 1 by decide)) (by decide) (by decide))
          have hT281493 : RS D I P281385 F281484 γ el := RS_set hT n281486 ht281415 (by decide) ⟨f281487, he281490, bf281487⟩
          exact G_vretA dr_cX17_stand_75 rfl (Nat.le_of_ble_eq_true rfl) (Nat.le_of_ble_eq_true rfl) ⟨F281484, rfl, rfl, hT281493, hs281491, (Nat.le_of_ble_eq_true rfl), (Nat.le_of_ble_eq_true rfl), (fun _ n => by rw [cB_of he281490, cB_of he281439, nmS_of he281442]; exact nm_fin false false true (decide_eq_false (show ¬ (p281443.toInt ≤ 21) by omega)) (decide_eq_false (show ¬ (p281443.toInt ≠ 20 ∧ p281443.toInt ≠ 21 ∧ p281443.toInt ≠ 30 ∧ p281448.toInt = 1) by omega)) (decide_eq_true (show (0 < p281443.toInt ∧ p281443.toInt < 20 ∧ p281449.toInt = 1) by omega)) (by rw [sd_u hf281487 (by omega) (by omega)]; simp)), kp281492⟩
      · have r281494 : o281470.toInt ≠ 0 := gj_neq hc281472 (show Int32.toInt 0 = 0 by decide)
        have bo281470' : gB o281470 1 1 := ⟨by omega, by omega⟩
        refine G_aload_n 1 dr_cX17_stand_48 rfl ?_
        refine Gp_get 3 hm281391 he281392 dr_cX17_stand_49 (gk_X17 D I) (Nat.le_of_ble_eq_true rfl) wr_7_77 rfl ?_
        refine G_aload_n 2 dr_cX17_stand_52 rfl ?_
        refine Gp_get 2 hm281441 he281442 dr_cX17_stand_53 (gk_X15 D I) (Nat.le_of_ble_eq_true rfl) wr_9_186 rfl ?_
        refine G_iconst 1 dr_cX17_stand_56 (by decide +kernel) ?_
        refine Gp_zast 3 hm281438 he281439 dr_cX17_stand_57 rfl (gB_inr (by omega) (by omega)) (fun F281495 e281496 n281497 => ?_)
        obtain ⟨f281498, hf281498⟩ : ∃ z, z = upd f281440 p281445.toNatClampNeg (vp_nar .boolean 1) := ⟨_, rfl⟩
        rw [← hf281498] at e281496
        have he281499 : F281495 q281387 = .inr (22, [.ref (γ 9 0), .ref (γ 9 1), .ref (γ 9 2), .ref (γ 9 3), .ref (γ 9 4), .ref (γ 9 5), .ref (γ 9 6), .ref (γ 9 7), .ref (γ 9 8), .int p281395, .int p281396, .int p281397, .int p281398, .int p281399, .int p281400, .ref (γ 9 15), .ref (γ 9 16), .ref (γ 9 17), .ref (γ 9 18), .ref (γ 9 19), .ref (γ 9 20), .ref (γ 9 21), .ref (γ 9 22), .int p281401, .int p281402, .int p281403, .int p281404, .int p281405, .ref q281393, .ref (γ 9 29), .int p281406, .ref (γ 9 31), .int p281407, .int p281408, .int p281409, .ref q281394]) := (n281497 q281387 (rn_oa he281392 he281439)).trans he281392
        have he281500 : F281495 q281388 = .inr (20, [.int p281443, .int p281444, .int p281445, .int p281446, .int p281447, .int p281448, .int p281449]) := (n281497 q281388 (rn_oa he281442 he281439)).trans he281442
        have he281501 : F281495 (γ 9 3) = .inl (I .boolean, 2000, .inl f281498) := e281496
        have hs281502 : rStr γ [] F281386 F281495 := rStr_put (rStr_rf (γ := γ) (W := []) (F := F281386)) n281497 ht281415 (by decide)
        have kp281503 : F281495 q281387 = F281386 q281387 := n281497 q281387 (rn_ty htq281387 ht281415 (by decide))
        have bf281498 : gF f281498 0 1 := gF_upd hf281498 bf281440 (gB_w (gBl (show Int32.toInt 1 = 1 by decide)) (by decide) (by decide))
        refine G_aload_n 2 dr_cX17_stand_58 rfl ?_
        have hT281504 : RS D I P281385 F281495 γ el := RS_set hT n281497 ht281415 (by decide) ⟨f281498, he281501, bf281498⟩
        refine Gw_callV (As := []) (gV_ok D I) (cp_214553_Row_usesB l hl0 D I P281385 F281495 q281388 p281443 p281444 p281445 p281446 p281447 p281448 p281449 hm281441 he281500 bp281443 bp281444 bp281447 bp281448 bp281449) dr_cX17_stand_59 ⟨wr_10_196, wr_1_39, wr_10_199, by decide, rfl, (Nat.le_of_ble_eq_true rfl), (Nat.le_of_ble_eq_true rfl)⟩ wr_10_197 wr_10_198 hm281441 he281500 rfl (show 0 + 0 ≤ 0 by first | omega | decide) (show 0 + 0 ≤ 0 by first | omega | decide) (Nat.le_of_ble_eq_true rfl) (fun r281508 w281509 dc281505 ds281506 hp281507 => ?_) (fun _ _ _ _ _ z => z.elim)
        obtain ⟨o281510, rfl, rfl, hdc, hds, bo281510, x281511⟩ := hp281507
        change G _ _ _ _ _ _ _ (.int o281510 :: _) _ _ _
        refine G_widen (cs' := 0) (sl' := 0) (by omega) (by omega) ?_
        refine G_if_eq 75 dr_cX17_stand_62 (by decide +kernel) (fun hc281512 => ?_) (fun hc281512 => ?_)
        · have r281513 : o281510.toInt = 0 := gj_eq hc281512 (show Int32.toInt 0 = 0 by decide)
          have bo281510' : gB o281510 0 0 := ⟨by omega, by omega⟩
          exact G_vretA dr_cX17_stand_75 rfl (Nat.le_of_ble_eq_true rfl) (Nat.le_of_ble_eq_true rfl) ⟨F281495, rfl, rfl, hT281504, hs281502, (Nat.le_of_ble_eq_true rfl), (Nat.le_of_ble_eq_true rfl), (fun _ n => by rw [cB_of he281501, cB_of he281439, nmS_of he281442]; exact nm_fin false true false (decide_eq_false (show ¬ (p281443.toInt ≤ 21) by omega)) (decide_eq_true (show (p281443.toInt ≠ 20 ∧ p281443.toInt ≠ 21 ∧ p281443.toInt ≠ 30 ∧ p281448.toInt = 1) by omega)) (decide_eq_false (show ¬ (0 < p281443.toInt ∧ p281443.toInt < 20 ∧ p281449.toInt = 1) by omega)) (by rw [sd_u hf281498 (by omega) (by omega)]; simp)), kp281503⟩
        · have r281514 : o281510.toInt ≠ 0 := gj_neq hc281512 (show Int32.toInt 0 = 0 by decide)
          have bo281510' : gB o281510 1 1 := ⟨by omega, by omega⟩
          refine G_aload_n 1 dr_cX17_stand_65 rfl ?_
          refine Gp_get 3 hm281391 he281499 dr_cX17_stand_66 (gk_X17 D I) (Nat.le_of_ble_eq_true rfl) wr_7_77 rfl ?_
          refine G_aload_n 2 dr_cX17_stand_69 rfl ?_
          refine Gp_get 3 hm281441 he281500 dr_cX17_stand_70 (gk_X15 D I) (Nat.le_of_ble_eq_true rfl) wr_9_190 rfl ?_
          refine G_iconst 1 dr_cX17_stand_73 (by decide +kernel) ?_
          refine Gp_zast 3 hm281438 he281501 dr_cX17_stand_74 rfl (gB_inr (by omega) (by omega)) (fun F281515 e281516 n281517 => ?_)
          obtain ⟨f281518, hf281518⟩ : ∃ z, z = upd f281498 p281446.toNatClampNeg (vp_nar .boolean 1) := ⟨_, rfl⟩
          rw [← hf281518] at e281516
          have he281519 : F281515 q281387 = .inr (22, [.ref (γ 9 0), .ref (γ 9 1), .ref (γ 9 2), .ref (γ 9 3), .ref (γ 9 4), .ref (γ 9 5), .ref (γ 9 6), .ref (γ 9 7), .ref (γ 9 8), .int p281395, .int p281396, .int p281397, .int p281398, .int p281399, .int p281400, .ref (γ 9 15), .ref (γ 9 16), .ref (γ 9 17), .ref (γ 9 18), .ref (γ 9 19), .ref (γ 9 20), .ref (γ 9 21), .ref (γ 9 22), .int p281401, .int p281402, .int p281403, .int p281404, .int p281405, .ref q281393, .ref (γ 9 29), .int p281406, .ref (γ 9 31), .int p281407, .int p281408, .int p281409, .ref q281394]) := (n281517 q281387 (rn_oa he281499 he281501)).trans he281499
          have he281520 : F281515 q281388 = .inr (20, [.int p281443, .int p281444, .int p281445, .int p281446, .int p281447, .int p281448, .int p281449]) := (n281517 q281388 (rn_oa he281500 he281501)).trans he281500
          have he281521 : F281515 (γ 9 3) = .inl (I .boolean, 2000, .inl f281518) := e281516
          have hs281522 : rStr γ [] F281386 F281515 := rStr_put hs281502 n281517 ht281415 (by decide)
          have kp281523 : F281515 q281387 = F281386 q281387 := (n281517 q281387 (rn_ty htq281387 ht281415 (by decide))).trans kp281503
          have bf281518 : gF f281518 0 1 := gF_upd hf281518 bf281498 (gB_w (gBl (show Int32.toInt 1 = 1 by decide)) (by decide) (by decide))
          have hT281524 : RS D I P281385 F281515 γ el := RS_set hT281504 n281517 ht281415 (by decide) ⟨f281518, he281521, bf281518⟩
          exact G_vretA dr_cX17_stand_75 rfl (Nat.le_of_ble_eq_true rfl) (Nat.le_of_ble_eq_true rfl) ⟨F281515, rfl, rfl, hT281524, hs281522, (Nat.le_of_ble_eq_true rfl), (Nat.le_of_ble_eq_true rfl), (fun _ n => by rw [cB_of he281521, cB_of he281439, nmS_of he281442]; exact nm_fin false true true (decide_eq_false (show ¬ (p281443.toInt ≤ 21) by omega)) (decide_eq_true (show (p281443.toInt ≠ 20 ∧ p281443.toInt ≠ 21 ∧ p281443.toInt ≠ 30 ∧ p281448.toInt = 1) by omega)) (decide_eq_true (show (0 < p281443.toInt ∧ p281443.toInt < 20 ∧ p281449.toInt = 1) by omega)) (by rw [sd_u hf281518 (by omega) (by omega), sd_u hf281498 (by omega) (by omega)]; simp)), kp281523⟩
    · have r281525 : p281389.toInt ≠ 0 := gj_neq hc281463 (show Int32.toInt 0 = 0 by decide)
      have bp281389' : gB p281389 1 1 := ⟨by omega, by omega⟩
      refine G_aload_n 2 dr_cX17_stand_21 rfl ?_
      refine Gp_get 0 hm281441 he281442 dr_cX17_stand_22 (gk_X15 D I) (Nat.le_of_ble_eq_true rfl) wr_9_177 rfl ?_
      refine G_bipush 21 dr_cX17_stand_25 (by decide +kernel) ?_
      refine G_icmp_ne 40 dr_cX17_stand_27 (by decide +kernel) (fun hc281526 => ?_) (fun hc281526 => ?_)
      · have r281527 : p281443.toInt ≠ 21 := gj_neq hc281526 (show Int32.toInt 21 = 21 by decide)
        exact G_vretA dr_cX17_stand_40 rfl (Nat.le_of_ble_eq_true rfl) (Nat.le_of_ble_eq_true rfl) ⟨F281386, rfl, rfl, hT, (rStr_rf (γ := γ) (W := []) (F := F281386)), (Nat.le_of_ble_eq_true rfl), (Nat.le_of_ble_eq_true rfl), (fun h => absurd h (by omega)), rfl⟩
      · have r281528 : p281443.toInt = 21 := gj_eq hc281526 (show Int32.toInt 21 = 21 by decide)
        have bp281443' : gB p281443 21 21 := ⟨by omega, by omega⟩
        refine G_aload_n 1 dr_cX17_stand_30 rfl ?_
        refine Gp_get 3 hm281391 he281392 dr_cX17_stand_31 (gk_X17 D I) (Nat.le_of_ble_eq_true rfl) wr_7_77 rfl ?_
        refine G_aload_n 2 dr_cX17_stand_34 rfl ?_
        refine Gp_get 4 hm281441 he281442 dr_cX17_stand_35 (gk_X15 D I) (Nat.le_of_ble_eq_true rfl) wr_9_193 rfl ?_
        refine G_iconst 1 dr_cX17_stand_38 (by decide +kernel) ?_
        refine Gp_zast 3 hm281438 he281439 dr_cX17_stand_39 rfl (gB_in bp281447 (by decide) (by decide)) (fun F281529 e281530 n281531 => ?_)
        obtain ⟨f281532, hf281532⟩ : ∃ z, z = upd f281440 p281447.toNatClampNeg (vp_nar .boolean 1) := ⟨_, rfl⟩
        rw [← hf281532] at e281530
        have he281533 : F281529 q281387 = .inr (22, [.ref (γ 9 0), .ref (γ 9 1), .ref (γ 9 2), .ref (γ 9 3), .ref (γ 9 4), .ref (γ 9 5), .ref (γ 9 6), .ref (γ 9 7), .ref (γ 9 8), .int p281395, .int p281396, .int p281397, .int p281398, .int p281399, .int p281400, .ref (γ 9 15), .ref (γ 9 16), .ref (γ 9 17), .ref (γ 9 18), .ref (γ 9 19), .ref (γ 9 20), .ref (γ 9 21), .ref (γ 9 22), .int p281401, .int p281402, .int p281403, .int p281404, .int p281405, .ref q281393, .ref (γ 9 29), .int p281406, .ref (γ 9 31), .int p281407, .int p281408, .int p281409, .ref q281394]) := (n281531 q281387 (rn_oa he281392 he281439)).trans he281392
        have he281534 : F281529 q281388 = .inr (20, [.int p281443, .int p281444, .int p281445, .int p281446, .int p281447, .int p281448, .int p281449]) := (n281531 q281388 (rn_oa he281442 he281439)).trans he281442
        have he281535 : F281529 (γ 9 3) = .inl (I .boolean, 2000, .inl f281532) := e281530
        have hs281536 : rStr γ [] F281386 F281529 := rStr_put (rStr_rf (γ := γ) (W := []) (F := F281386)) n281531 ht281415 (by decide)
        have kp281537 : F281529 q281387 = F281386 q281387 := n281531 q281387 (rn_ty htq281387 ht281415 (by decide))
        have bf281532 : gF f281532 0 1 := gF_upd hf281532 bf281440 (gB_w (gBl (show Int32.toInt 1 = 1 by decide)) (by decide) (by decide))
        have hT281538 : RS D I P281385 F281529 γ el := RS_set hT n281531 ht281415 (by decide) ⟨f281532, he281535, bf281532⟩
        exact G_vretA dr_cX17_stand_40 rfl (Nat.le_of_ble_eq_true rfl) (Nat.le_of_ble_eq_true rfl) ⟨F281529, rfl, rfl, hT281538, hs281536, (Nat.le_of_ble_eq_true rfl), (Nat.le_of_ble_eq_true rfl), (fun h => absurd h (by omega)), kp281537⟩
  · have r281539 : 0 ≤ o281459.toInt := gj_nlt hc281461 (show Int32.toInt 0 = 0 by decide)
    have bo281459' : gB o281459 0 1999 := ⟨by omega, by omega⟩
    refine G_aload_n 1 dr_cX17_stand_10 rfl ?_
    refine Gp_get 3 hm281391 he281392 dr_cX17_stand_11 (gk_X17 D I) (Nat.le_of_ble_eq_true rfl) wr_7_77 rfl ?_
    refine G_iload_n 0 dr_cX17_stand_14 rfl ?_
    refine G_iconst 1 dr_cX17_stand_15 (by decide +kernel) ?_
    refine Gp_zast 3 hm281438 he281439 dr_cX17_stand_16 rfl (gB_in bo281459' (by decide) (by decide)) (fun F281540 e281541 n281542 => ?_)
    obtain ⟨f281543, hf281543⟩ : ∃ z, z = upd f281440 o281459.toNatClampNeg (vp_nar .boolean 1) := ⟨_, rfl⟩
    rw [← hf281543] at e281541
    have he281544 : F281540 q281387 = .inr (22, [.ref (γ 9 0), .ref (γ 9 1), .ref (γ 9 2), .ref (γ 9 3), .ref (γ 9 4), .ref (γ 9 5), .ref (γ 9 6), .ref (γ 9 7), .ref (γ 9 8), .int p281395, .int p281396, .int p281397, .int p281398, .int p281399, .int p281400, .ref (γ 9 15), .ref (γ 9 16), .ref (γ 9 17), .ref (γ 9 18), .ref (γ 9 19), .ref (γ 9 20), .ref (γ 9 21), .ref (γ 9 22), .int p281401, .int p281402, .int p281403, .int p281404, .int p281405, .ref q281393, .ref (γ 9 29), .int p281406, .ref (γ 9 31), .int p281407, .int p281408, .int p281409, .ref q281394]) := (n281542 q281387 (rn_oa he281392 he281439)).trans he281392
    have he281545 : F281540 q281388 = .inr (20, [.int p281443, .int p281444, .int p281445, .int p281446, .int p281447, .int p281448, .int p281449]) := (n281542 q281388 (rn_oa he281442 he281439)).trans he281442
    have he281546 : F281540 (γ 9 3) = .inl (I .boolean, 2000, .inl f281543) := e281541
    have hs281547 : rStr γ [] F281386 F281540 := rStr_put (rStr_rf (γ := γ) (W := []) (F := F281386)) n281542 ht281415 (by decide)
    have kp281548 : F281540 q281387 = F281386 q281387 := n281542 q281387 (rn_ty htq281387 ht281415 (by decide))
    have bf281543 : gF f281543 0 1 := gF_upd hf281543 bf281440 (gB_w (gBl (show Int32.toInt 1 = 1 by decide)) (by decide) (by decide))
    refine G_iload_n 3 dr_cX17_stand_17 rfl ?_
    refine G_if_eq 41 dr_cX17_stand_18 (by decide +kernel) (fun hc281549 => ?_) (fun hc281549 => ?_)
    · have r281550 : p281389.toInt = 0 := gj_eq hc281549 (show Int32.toInt 0 = 0 by decide)
      have bp281389' : gB p281389 0 0 := ⟨by omega, by omega⟩
      refine G_aload_n 2 dr_cX17_stand_41 rfl ?_
      have hT281551 : RS D I P281385 F281540 γ el := RS_set hT n281542 ht281415 (by decide) ⟨f281543, he281546, bf281543⟩
      refine Gw_callV (As := []) (gV_ok D I) (cp_214529_Row_usesA l hl0 D I P281385 F281540 q281388 p281443 p281444 p281445 p281446 p281447 p281448 p281449 hm281441 he281545 bp281443 bp281444 bp281447 bp281448 bp281449) dr_cX17_stand_42 ⟨wr_10_192, wr_1_39, wr_10_195, by decide, rfl, (Nat.le_of_ble_eq_true rfl), (Nat.le_of_ble_eq_true rfl)⟩ wr_10_193 wr_10_194 hm281441 he281545 rfl (show 0 + 0 ≤ 0 by first | omega | decide) (show 0 + 0 ≤ 0 by first | omega | decide) (Nat.le_of_ble_eq_true rfl) (fun r281555 w281556 dc281552 ds281553 hp281554 => ?_) (fun _ _ _ _ _ z => z.elim)
      obtain ⟨o281557, rfl, rfl, hdc, hds, bo281557, x281558⟩ := hp281554
      change G _ _ _ _ _ _ _ (.int o281557 :: _) _ _ _
      refine G_widen (cs' := 0) (sl' := 0) (by omega) (by omega) ?_
      refine G_if_eq 58 dr_cX17_stand_45 (by decide +kernel) (fun hc281559 => ?_) (fun hc281559 => ?_)
      · have r281560 : o281557.toInt = 0 := gj_eq hc281559 (show Int32.toInt 0 = 0 by decide)
        have bo281557' : gB o281557 0 0 := ⟨by omega, by omega⟩
        refine G_aload_n 2 dr_cX17_stand_58 rfl ?_
        refine Gw_callV (As := []) (gV_ok D I) (cp_214553_Row_usesB l hl0 D I P281385 F281540 q281388 p281443 p281444 p281445 p281446 p281447 p281448 p281449 hm281441 he281545 bp281443 bp281444 bp281447 bp281448 bp281449) dr_cX17_stand_59 ⟨wr_10_196, wr_1_39, wr_10_199, by decide, rfl, (Nat.le_of_ble_eq_true rfl), (Nat.le_of_ble_eq_true rfl)⟩ wr_10_197 wr_10_198 hm281441 he281545 rfl (show 0 + 0 ≤ 0 by first | omega | decide) (show 0 + 0 ≤ 0 by first | omega | decide) (Nat.le_of_ble_eq_true rfl) (fun r281564 w281565 dc281561 ds281562 hp281563 => ?_) (fun _ _ _ _ _ z => z.elim)
        obtain ⟨o281566, rfl, rfl, hdc, hds, bo281566, x281567⟩ := hp281563
        change G _ _ _ _ _ _ _ (.int o281566 :: _) _ _ _
        refine G_widen (cs' := 0) (sl' := 0) (by omega) (by omega) ?_
        refine G_if_eq 75 dr_cX17_stand_62 (by decide +kernel) (fun hc281568 => ?_) (fun hc281568 => ?_)
        · have r281569 : o281566.toInt = 0 := gj_eq hc281568 (show Int32.toInt 0 = 0 by decide)
          have bo281566' : gB o281566 0 0 := ⟨by omega, by omega⟩
          exact G_vretA dr_cX17_stand_75 rfl (Nat.le_of_ble_eq_true rfl) (Nat.le_of_ble_eq_true rfl) ⟨F281540, rfl, rfl, hT281551, hs281547, (Nat.le_of_ble_eq_true rfl), (Nat.le_of_ble_eq_true rfl), (fun _ n => by rw [cB_of he281546, cB_of he281439, nmS_of he281442]; exact nm_fin true false false (decide_eq_true (show (p281443.toInt ≤ 21) by omega)) (decide_eq_false (show ¬ (p281443.toInt ≠ 20 ∧ p281443.toInt ≠ 21 ∧ p281443.toInt ≠ 30 ∧ p281448.toInt = 1) by omega)) (decide_eq_false (show ¬ (0 < p281443.toInt ∧ p281443.toInt < 20 ∧ p281449.toInt = 1) by omega)) (by rw [sd_u hf281543 (by omega) (by omega), show o281459.toInt = p281444.toInt by omega]; simp)), kp281548⟩
        · have r281570 : o281566.toInt ≠ 0 := gj_neq hc281568 (show Int32.toInt 0 = 0 by decide)
          have bo281566' : gB o281566 1 1 := ⟨by omega, by omega⟩
          refine G_aload_n 1 dr_cX17_stand_65 rfl ?_
          refine Gp_get 3 hm281391 he281544 dr_cX17_stand_66 (gk_X17 D I) (Nat.le_of_ble_eq_true rfl) wr_7_77 rfl ?_
          refine G_aload_n 2 dr_cX17_stand_69 rfl ?_
          refine Gp_get 3 hm281441 he281545 dr_cX17_stand_70 (gk_X15 D I) (Nat.le_of_ble_eq_true rfl) wr_9_190 rfl ?_
          refine G_iconst 1 dr_cX17_stand_73 (by decide +kernel) ?_
          refine Gp_zast 3 hm281438 he281546 dr_cX17_stand_74 rfl (gB_inr (by omega) (by omega)) (fun F281571 e281572 n281573 => ?_)
          obtain ⟨f281574, hf281574⟩ : ∃ z, z = upd f281543 p281446.toNatClampNeg (vp_nar .boolean 1) := ⟨_, rfl⟩
          rw [← hf281574] at e281572
          have he281575 : F281571 q281387 = .inr (22, [.ref (γ 9 0), .ref (γ 9 1), .ref (γ 9 2), .ref (γ 9 3), .ref (γ 9 4), .ref (γ 9 5), .ref (γ 9 6), .ref (γ 9 7), .ref (γ 9 8), .int p281395, .int p281396, .int p281397, .int p281398, .int p281399, .int p281400, .ref (γ 9 15), .ref (γ 9 16), .ref (γ 9 17), .ref (γ 9 18), .ref (γ 9 19), .ref (γ 9 20), .ref (γ 9 21), .ref (γ 9 22), .int p281401, .int p281402, .int p281403, .int p281404, .int p281405, .ref q281393, .ref (γ 9 29), .int p281406, .ref (γ 9 31), .int p281407, .int p281408, .int p281409, .ref q281394]) := (n281573 q281387 (rn_oa he281544 he281546)).trans he281544
          have he281576 : F281571 q281388 = .inr (20, [.int p281443, .int p281444, .int p281445, .int p281446, .int p281447, .int p281448, .int p281449]) := (n281573 q281388 (rn_oa he281545 he281546)).trans he281545
          have he281577 : F281571 (γ 9 3) = .inl (I .boolean, 2000, .inl f281574) := e281572
          have hs281578 : rStr γ [] F281386 F281571 := rStr_put hs281547 n281573 ht281415 (by decide)
          have kp281579 : F281571 q281387 = F281386 q281387 := (n281573 q281387 (rn_ty htq281387 ht281415 (by decide))).trans kp281548
          have bf281574 : gF f281574 0 1 := gF_upd hf281574 bf281543 (gB_w (gBl (show Int32.toInt 1 = 1 by decide)) (by decide) (by decide))
          have hT281580 : RS D I P281385 F281571 γ el := RS_set hT281551 n281573 ht281415 (by decide) ⟨f281574, he281577, bf281574⟩
          exact G_vretA dr_cX17_stand_75 rfl (Nat.le_of_ble_eq_true rfl) (Nat.le_of_ble_eq_true rfl) ⟨F281571, rfl, rfl, hT281580, hs281578, (Nat.le_of_ble_eq_true rfl), (Nat.le_of_ble_eq_true rfl), (fun _ n => by rw [cB_of he281577, cB_of he281439, nmS_of he281442]; exact nm_fin true false true (decide_eq_true (show (p281443.toInt ≤ 21) by omega)) (decide_eq_false (show ¬ (p281443.toInt ≠ 20 ∧ p281443.toInt ≠ 21 ∧ p281443.toInt ≠ 30 ∧ p281448.toInt = 1) by omega)) (decide_eq_true (show (0 < p281443.toInt ∧ p281443.toInt < 20 ∧ p281449.toInt = 1) by omega)) (by rw [sd_u hf281574 (by omega) (by omega), sd_u hf281543 (by omega) (by omega), show o281459.toInt = p281444.toInt by omega]; simp)), kp281579⟩
      · have r281581 : o281557.toInt ≠ 0 := gj_neq hc281559 (show Int32.toInt 0 = 0 by decide)
        have bo281557' : gB o281557 1 1 := ⟨by omega, by omega⟩
        refine G_aload_n 1 dr_cX17_stand_48 rfl ?_
        refine Gp_get 3 hm281391 he281544 dr_cX17_stand_49 (gk_X17 D I) (Nat.le_of_ble_eq_true rfl) wr_7_77 rfl ?_
        refine G_aload_n 2 dr_cX17_stand_52 rfl ?_
        refine Gp_get 2 hm281441 he281545 dr_cX17_stand_53 (gk_X15 D I) (Nat.le_of_ble_eq_true rfl) wr_9_186 rfl ?_
        refine G_iconst 1 dr_cX17_stand_56 (by decide +kernel) ?_
        refine Gp_zast 3 hm281438 he281546 dr_cX17_stand_57 rfl (gB_inr (by omega) (by omega)) (fun F281582 e281583 n281584 => ?_)
        obtain ⟨f281585, hf281585⟩ : ∃ z, z = upd f281543 p281445.toNatClampNeg (vp_nar .boolean 1) := ⟨_, rfl⟩
        rw [← hf281585] at e281583
        have he281586 : F281582 q281387 = .inr (22, [.ref (γ 9 0), .ref (γ 9 1), .ref (γ 9 2), .ref (γ 9 3), .ref (γ 9 4), .ref (γ 9 5), .ref (γ 9 6), .ref (γ 9 7), .ref (γ 9 8), .int p281395, .int p281396, .int p281397, .int p281398, .int p281399, .int p281400, .ref (γ 9 15), .ref (γ 9 16), .ref (γ 9 17), .ref (γ 9 18), .ref (γ 9 19), .ref (γ 9 20), .ref (γ 9 21), .ref (γ 9 22), .int p281401, .int p281402, .int p281403, .int p281404, .int p281405, .ref q281393, .ref (γ 9 29), .int p281406, .ref (γ 9 31), .int p281407, .int p281408, .int p281409, .ref q281394]) := (n281584 q281387 (rn_oa he281544 he281546)).trans he281544
        have he281587 : F281582 q281388 = .inr (20, [.int p281443, .int p281444, .int p281445, .int p281446, .int p281447, .int p281448, .int p281449]) := (n281584 q281388 (rn_oa he281545 he281546)).trans he281545
        have he281588 : F281582 (γ 9 3) = .inl (I .boolean, 2000, .inl f281585) := e281583
        have hs281589 : rStr γ [] F281386 F281582 := rStr_put hs281547 n281584 ht281415 (by decide)
        have kp281590 : F281582 q281387 = F281386 q281387 := (n281584 q281387 (rn_ty htq281387 ht281415 (by decide))).trans kp281548
        have bf281585 : gF f281585 0 1 := gF_upd hf281585 bf281543 (gB_w (gBl (show Int32.toInt 1 = 1 by decide)) (by decide) (by decide))
        refine G_aload_n 2 dr_cX17_stand_58 rfl ?_
        have hT281591 : RS D I P281385 F281582 γ el := RS_set hT281551 n281584 ht281415 (by decide) ⟨f281585, he281588, bf281585⟩
        refine Gw_callV (As := []) (gV_ok D I) (cp_214553_Row_usesB l hl0 D I P281385 F281582 q281388 p281443 p281444 p281445 p281446 p281447 p281448 p281449 hm281441 he281587 bp281443 bp281444 bp281447 bp281448 bp281449) dr_cX17_stand_59 ⟨wr_10_196, wr_1_39, wr_10_199, by decide, rfl, (Nat.le_of_ble_eq_true rfl), (Nat.le_of_ble_eq_true rfl)⟩ wr_10_197 wr_10_198 hm281441 he281587 rfl (show 0 + 0 ≤ 0 by first | omega | decide) (show 0 + 0 ≤ 0 by first | omega | decide) (Nat.le_of_ble_eq_true rfl) (fun r281595 w281596 dc281592 ds281593 hp281594 => ?_) (fun _ _ _ _ _ z => z.elim)
        obtain ⟨o281597, rfl, rfl, hdc, hds, bo281597, x281598⟩ := hp281594
        change G _ _ _ _ _ _ _ (.int o281597 :: _) _ _ _
        refine G_widen (cs' := 0) (sl' := 0) (by omega) (by omega) ?_
        refine G_if_eq 75 dr_cX17_stand_62 (by decide +kernel) (fun hc281599 => ?_) (fun hc281599 => ?_)
        · have r281600 : o281597.toInt = 0 := gj_eq hc281599 (show Int32.toInt 0 = 0 by decide)
          have bo281597' : gB o281597 0 0 := ⟨by omega, by omega⟩
          exact G_vretA dr_cX17_stand_75 rfl (Nat.le_of_ble_eq_true rfl) (Nat.le_of_ble_eq_true rfl) ⟨F281582, rfl, rfl, hT281591, hs281589, (Nat.le_of_ble_eq_true rfl), (Nat.le_of_ble_eq_true rfl), (fun _ n => by rw [cB_of he281588, cB_of he281439, nmS_of he281442]; exact nm_fin true true false (decide_eq_true (show (p281443.toInt ≤ 21) by omega)) (decide_eq_true (show (p281443.toInt ≠ 20 ∧ p281443.toInt ≠ 21 ∧ p281443.toInt ≠ 30 ∧ p281448.toInt = 1) by omega)) (decide_eq_false (show ¬ (0 < p281443.toInt ∧ p281443.toInt < 20 ∧ p281449.toInt = 1) by omega)) (by rw [sd_u hf281585 (by omega) (by omega), sd_u hf281543 (by omega) (by omega), show o281459.toInt = p281444.toInt by omega]; simp)), kp281590⟩
        · have r281601 : o281597.toInt ≠ 0 := gj_neq hc281599 (show Int32.toInt 0 = 0 by decide)
          have bo281597' : gB o281597 1 1 := ⟨by omega, by omega⟩
          refine G_aload_n 1 dr_cX17_stand_65 rfl ?_
          refine Gp_get 3 hm281391 he281586 dr_cX17_stand_66 (gk_X17 D I) (Nat.le_of_ble_eq_true rfl) wr_7_77 rfl ?_
          refine G_aload_n 2 dr_cX17_stand_69 rfl ?_
          refine Gp_get 3 hm281441 he281587 dr_cX17_stand_70 (gk_X15 D I) (Nat.le_of_ble_eq_true rfl) wr_9_190 rfl ?_
          refine G_iconst 1 dr_cX17_stand_73 (by decide +kernel) ?_
          refine Gp_zast 3 hm281438 he281588 dr_cX17_stand_74 rfl (gB_inr (by omega) (by omega)) (fun F281602 e281603 n281604 => ?_)
          obtain ⟨f281605, hf281605⟩ : ∃ z, z = upd f281585 p281446.toNatClampNeg (vp_nar .boolean 1) := ⟨_, rfl⟩
          rw [← hf281605] at e281603
          have he281606 : F281602 q281387 = .inr (22, [.ref (γ 9 0), .ref (γ 9 1), .ref (γ 9 2), .ref (γ 9 3), .ref (γ 9 4), .ref (γ 9 5), .ref (γ 9 6), .ref (γ 9 7), .ref (γ 9 8), .int p281395, .int p281396, .int p281397, .int p281398, .int p281399, .int p281400, .ref (γ 9 15), .ref (γ 9 16), .ref (γ 9 17), .ref (γ 9 18), .ref (γ 9 19), .ref (γ 9 20), .ref (γ 9 21), .ref (γ 9 22), .int p281401, .int p281402, .int p281403, .int p281404, .int p281405, .ref q281393, .ref (γ 9 29), .int p281406, .ref (γ 9 31), .int p281407, .int p281408, .int p281409, .ref q281394]) := (n281604 q281387 (rn_oa he281586 he281588)).trans he281586
          have he281607 : F281602 q281388 = .inr (20, [.int p281443, .int p281444, .int p281445, .int p281446, .int p281447, .int p281448, .int p281449]) := (n281604 q281388 (rn_oa he281587 he281588)).trans he281587
          have he281608 : F281602 (γ 9 3) = .inl (I .boolean, 2000, .inl f281605) := e281603
          have hs281609 : rStr γ [] F281386 F281602 := rStr_put hs281589 n281604 ht281415 (by decide)
          have kp281610 : F281602 q281387 = F281386 q281387 := (n281604 q281387 (rn_ty htq281387 ht281415 (by decide))).trans kp281590
          have bf281605 : gF f281605 0 1 := gF_upd hf281605 bf281585 (gB_w (gBl (show Int32.toInt 1 = 1 by decide)) (by decide) (by decide))
          have hT281611 : RS D I P281385 F281602 γ el := RS_set hT281591 n281604 ht281415 (by decide) ⟨f281605, he281608, bf281605⟩
          exact G_vretA dr_cX17_stand_75 rfl (Nat.le_of_ble_eq_true rfl) (Nat.le_of_ble_eq_true rfl) ⟨F281602, rfl, rfl, hT281611, hs281609, (Nat.le_of_ble_eq_true rfl), (Nat.le_of_ble_eq_true rfl), (fun _ n => by rw [cB_of he281608, cB_of he281439, nmS_of he281442]; exact nm_fin true true true (decide_eq_true (show (p281443.toInt ≤ 21) by omega)) (decide_eq_true (show (p281443.toInt ≠ 20 ∧ p281443.toInt ≠ 21 ∧ p281443.toInt ≠ 30 ∧ p281448.toInt = 1) by omega)) (decide_eq_true (show (0 < p281443.toInt ∧ p281443.toInt < 20 ∧ p281449.toInt = 1) by omega)) (by rw [sd_u hf281605 (by omega) (by omega), sd_u hf281585 (by omega) (by omega), sd_u hf281543 (by omega) (by omega), show o281459.toInt = p281444.toInt by omega]; simp)), kp281610⟩
    · have r281612 : p281389.toInt ≠ 0 := gj_neq hc281549 (show Int32.toInt 0 = 0 by decide)
      have bp281389' : gB p281389 1 1 := ⟨by omega, by omega⟩
      refine G_aload_n 2 dr_cX17_stand_21 rfl ?_
      refine Gp_get 0 hm281441 he281545 dr_cX17_stand_22 (gk_X15 D I) (Nat.le_of_ble_eq_true rfl) wr_9_177 rfl ?_
      refine G_bipush 21 dr_cX17_stand_25 (by decide +kernel) ?_
      refine G_icmp_ne 40 dr_cX17_stand_27 (by decide +kernel) (fun hc281613 => ?_) (fun hc281613 => ?_)
      · have r281614 : p281443.toInt ≠ 21 := gj_neq hc281613 (show Int32.toInt 21 = 21 by decide)
        have hT281615 : RS D I P281385 F281540 γ el := RS_set hT n281542 ht281415 (by decide) ⟨f281543, he281546, bf281543⟩
        exact G_vretA dr_cX17_stand_40 rfl (Nat.le_of_ble_eq_true rfl) (Nat.le_of_ble_eq_true rfl) ⟨F281540, rfl, rfl, hT281615, hs281547, (Nat.le_of_ble_eq_true rfl), (Nat.le_of_ble_eq_true rfl), (fun h => absurd h (by omega)), kp281548⟩
      · have r281616 : p281443.toInt = 21 := gj_eq hc281613 (show Int32.toInt 21 = 21 by decide)
        have bp281443' : gB p281443 21 21 := ⟨by omega, by omega⟩
        refine G_aload_n 1 dr_cX17_stand_30 rfl ?_
        refine Gp_get 3 hm281391 he281544 dr_cX17_stand_31 (gk_X17 D I) (Nat.le_of_ble_eq_true rfl) wr_7_77 rfl ?_
        refine G_aload_n 2 dr_cX17_stand_34 rfl ?_
        refine Gp_get 4 hm281441 he281545 dr_cX17_stand_35 (gk_X15 D I) (Nat.le_of_ble_eq_true rfl) wr_9_193 rfl ?_
        refine G_iconst 1 dr_cX17_stand_38 (by decide +kernel) ?_
        refine Gp_zast 3 hm281438 he281546 dr_cX17_stand_39 rfl (gB_in bp281447 (by decide) (by decide)) (fun F281617 e281618 n281619 => ?_)
        obtain ⟨f281620, hf281620⟩ : ∃ z, z = upd f281543 p281447.toNatClampNeg (vp_nar .boolean 1) := ⟨_, rfl⟩
        rw [← hf281620] at e281618
        have he281621 : F281617 q281387 = .inr (22, [.ref (γ 9 0), .ref (γ 9 1), .ref (γ 9 2), .ref (γ 9 3), .ref (γ 9 4), .ref (γ 9 5), .ref (γ 9 6), .ref (γ 9 7), .ref (γ 9 8), .int p281395, .int p281396, .int p281397, .int p281398, .int p281399, .int p281400, .ref (γ 9 15), .ref (γ 9 16), .ref (γ 9 17), .ref (γ 9 18), .ref (γ 9 19), .ref (γ 9 20), .ref (γ 9 21), .ref (γ 9 22), .int p281401, .int p281402, .int p281403, .int p281404, .int p281405, .ref q281393, .ref (γ 9 29), .int p281406, .ref (γ 9 31), .int p281407, .int p281408, .int p281409, .ref q281394]) := (n281619 q281387 (rn_oa he281544 he281546)).trans he281544
        have he281622 : F281617 q281388 = .inr (20, [.int p281443, .int p281444, .int p281445, .int p281446, .int p281447, .int p281448, .int p281449]) := (n281619 q281388 (rn_oa he281545 he281546)).trans he281545
        have he281623 : F281617 (γ 9 3) = .inl (I .boolean, 2000, .inl f281620) := e281618
        have hs281624 : rStr γ [] F281386 F281617 := rStr_put hs281547 n281619 ht281415 (by decide)
        have n281625 : ∀ b, b ≠ (γ 9 3) → F281617 b = F281386 b := fun b hb => (n281619 b hb).trans (n281542 b hb)
        have kp281626 : F281617 q281387 = F281386 q281387 := (n281619 q281387 (rn_ty htq281387 ht281415 (by decide))).trans kp281548
        have bf281620 : gF f281620 0 1 := gF_upd hf281620 bf281543 (gB_w (gBl (show Int32.toInt 1 = 1 by decide)) (by decide) (by decide))
        have hT281627 : RS D I P281385 F281617 γ el := RS_set hT n281625 ht281415 (by decide) ⟨f281620, he281623, bf281620⟩
        exact G_vretA dr_cX17_stand_40 rfl (Nat.le_of_ble_eq_true rfl) (Nat.le_of_ble_eq_true rfl) ⟨F281617, rfl, rfl, hT281627, hs281624, (Nat.le_of_ble_eq_true rfl), (Nat.le_of_ble_eq_true rfl), (fun h => absurd h (by omega)), kp281626⟩
