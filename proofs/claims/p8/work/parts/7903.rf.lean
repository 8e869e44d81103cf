abbrev ky_280777_SpillForgeModel_behind : gKey := (cX17_behind, 4, "SpillForgeModel", none, [], "behind", fun _ _ => True)
def pt_280777_SpillForgeModel_behind (D : va_G) (I : FieldType → ClassId) (γ el : Nat → Nat → Nat) (P280773 : List Nat) (F280774 : Nat → va_E) (q280775 : Nat) (q280776 : Nat) : Option Value → va_W → Nat → Nat → Prop := fun r w dc ds => ∃ (F283501 : Nat → va_E), r = none ∧ w = va_pl P280773 F283501 ∧ RS D I P280773 F283501 γ el ∧ rStr γ [] F280774 F283501 ∧ dc ≤ 0 ∧ ds ≤ 0 ∧ (F283501 q280775 = F280774 q280775) ∧ (F283501 (γ 9 3) = F280774 (γ 9 3)) ∧ tr_RModel_behind3 D I γ el P280773 F280774 q280775 q280776 F283501
set_option maxRecDepth 100000 in
set_option maxHeartbeats 4000000 in
theorem ct_280777_SpillForgeModel_behind (l : Launch) (hl0 : l.stackTraces = false) (D : va_G) (I : FieldType → ClassId) (γ el : Nat → Nat → Nat) (P280773 : List Nat) (F280774 : Nat → va_E) (q280775 : Nat) (q280776 : Nat) (hT : RS D I P280773 F280774 γ el) (htq280775 : rKd γ q280775 10) (htq280776 : rKd γ q280776 2) : CtA (gV D I) l yX17_behind cX17_behind 4 none 1 21 0 0 [.ref q280775, .ref q280776] (va_pl P280773 F280774) (pt_280777_SpillForgeModel_behind D I γ el P280773 F280774 q280775 q280776) gNA := by
  refine CtA_of hl0 (by decide) (Nat.le_of_ble_eq_true rfl) ?_
  refine G_iconst 0 dr_cX17_behind_0 (by decide +kernel) ?_
  refine G_istore_n (L' := [(2, .int 0), (0, .ref q280775), (1, .ref q280776)]) dr_cX17_behind_1 (Nat.le_of_ble_eq_true rfl) rfl ?_
  have hlp2_282933 : ∀ (n2_282933 : Nat) (F282929 : Nat → va_E) (g282928 : Int32), gB g282928 0 32 → RS D I P280773 F282929 γ el → rStr γ [] F280774 F282929 → (F282929 q280775 = F280774 q280775) → (F282929 (γ 9 3) = F280774 (γ 9 3)) → (∀ (k : Nat) (e1 : Nat → va_E), tl_RModel_behind3_2 D I γ el P280773 F280774 q280775 F282929 g282928 k e1 → tl_RModel_behind3_2 D I γ el P280773 F280774 q280775 F280774 (0 : Int32) k e1) → ((33 : Int) - g282928.toInt).toNat < n2_282933 → G (gV D I) l (gRm 1 21 0 0) (gMA (gV D I) (pt_280777_SpillForgeModel_behind D I γ el P280773 F280774 q280775 q280776) gNA 0 0) ky_280777_SpillForgeModel_behind 2 [(2, .int g282928), (0, .ref q280775), (1, .ref q280776)] [] (va_pl P280773 F282929) 0 0 := by
    intro n2_282933
    induction n2_282933 with
    | zero => intro F282929 g282928 bg282928 hT282930 hs282931 x282932 x282933 kt2_282934 hm2_282933; exact absurd hm2_282933 (Nat.not_lt_zero _)
    | succ n2_282933 ih2_282933 =>
      intro F282929 g282928 bg282928 hT282930 hs282931 x282932 x282933 kt2_282934 hm2_282933
      have hs282935 : rStr γ [] F280774 F282929 := fun b h0 hb hw => (hs282931 b h0 hb hw).trans ((rStr_rf (γ := γ) (W := []) (F := F280774)) b h0 hb hw).symm
      have hs282936 : rStr γ [] F280774 F282929 := rStr_tr (rStr_rf (γ := γ) (W := []) (F := F280774)) hs282935
      refine G_iload_n 0 dr_cX17_behind_2 rfl ?_
      refine G_bipush 32 dr_cX17_behind_3 (by decide +kernel) ?_
      refine G_icmp_ge 21 dr_cX17_behind_5 (by decide +kernel) (fun hc282937 => ?_) (fun hc282937 => ?_)
      · have r282938 : 32 ≤ g282928.toInt := gj_leL hc282937 (show Int32.toInt 32 = 32 by decide)
        have bg282928' : gB g282928 32 32 := ⟨by omega, by omega⟩
        have hx282939 : tl_RModel_behind3_2 D I γ el P280773 F280774 q280775 F280774 (0 : Int32) 21 F282929 := kt2_282934 21 F282929 (fun R c1 c2 => c1 F282929 g282928 bg282928 hT282930 hs282931 x282932 x282933 r282938)
        refine G_iconst 0 dr_cX17_behind_21 (by decide +kernel) ?_
        refine G_istore_n (L' := [(2, .int 0), (0, .ref q280775), (1, .ref q280776)]) dr_cX17_behind_22 (Nat.le_of_ble_eq_true rfl) rfl ?_
        have hlp23_283187 : ∀ (n23_283187 : Nat) (F283183 : Nat → va_E) (g283182 : Int32), gB g283182 0 2 → RS D I P280773 F283183 γ el → rStr γ [] F280774 F283183 → (F283183 q280775 = F280774 q280775) → (F283183 (γ 9 3) = F280774 (γ 9 3)) → (∀ (k : Nat) (e1 : Nat → va_E), tl_RModel_behind3_23 D I γ el P280773 F280774 q280775 q280776 F283183 g283182 k e1 → tl_RModel_behind3_23 D I γ el P280773 F280774 q280775 q280776 F282929 (0 : Int32) k e1) → ((3 : Int) - g283182.toInt).toNat < n23_283187 → G (gV D I) l (gRm 1 21 0 0) (gMA (gV D I) (pt_280777_SpillForgeModel_behind D I γ el P280773 F280774 q280775 q280776) gNA 0 0) ky_280777_SpillForgeModel_behind 23 [(2, .int g283182), (0, .ref q280775), (1, .ref q280776)] [] (va_pl P280773 F283183) 0 0 := by
          intro n23_283187
          induction n23_283187 with
          | zero => intro F283183 g283182 bg283182 hT283184 hs283185 x283186 x283187 kt23_283188 hm23_283187; exact absurd hm23_283187 (Nat.not_lt_zero _)
          | succ n23_283187 ih23_283187 =>
            intro F283183 g283182 bg283182 hT283184 hs283185 x283186 x283187 kt23_283188 hm23_283187
            have hs283189 : rStr γ [] F282929 F283183 := fun b h0 hb hw => (hs283185 b h0 hb hw).trans (hs282931 b h0 hb hw).symm
            have hs283190 : rStr γ [] F280774 F283183 := rStr_tr hs282931 hs283189
            refine G_iload_n 0 dr_cX17_behind_23 rfl ?_
            refine G_aload_n 2 dr_cX17_behind_24 rfl ?_
            have hm283191 : q280776 ∈ P280773 := RS_m hT283184 htq280776 (by decide)
            obtain ⟨q283193, q283194, p283195, p283196, he283192, ht283203, ht283197, ht283198, ht283199, ht283200, ht283201, bp283195, bp283196, r283202, r283204, r283205⟩ := show rk_2 γ q280776 (F283183 q280776) from RS_o hT283184 htq280776
            have hm283206 : q283194 ∈ P280773 := RS_m hT283184 ht283199 (by decide)
            obtain ⟨p283208, p283209, p283210, p283211, p283212, p283213, p283214, he283207, bp283208, bp283209, bp283212, bp283213, bp283214, r283215, r283216, r283217, r283218, r283219⟩ := show rk_1 γ q283194 (F283183 q283194) from RS_o hT283184 ht283199
            have bp283210 := gB_any p283210
            have bp283211 := gB_any p283211
            have fq283220 : fI (F283183 q280776) 2 = p283195 := by rw [he283192]; rfl
            have fq283221 : fI (F283183 q280776) 3 = p283196 := by rw [he283192]; rfl
            have fq283222 : fR (F283183 q280776) 1 = q283194 := by rw [he283192]; rfl
            have fq283223 : fI (F283183 q283194) 0 = p283208 := by rw [he283207]; rfl
            refine Gw_callV (As := []) (gV_ok D I) (cp_1816_Block_ways l hl0 D I P280773 F283183 q280776 q283194 q283193 p283195 p283196 p283208 p283209 p283210 p283211 p283212 p283213 p283214 hm283191 hm283206 he283192 he283207 bp283195 bp283196 bp283208 bp283209 bp283212 bp283213 bp283214) dr_cX17_behind_25 ⟨wr_10_166, wr_1_38, wr_10_169, by decide, rfl, (Nat.le_of_ble_eq_true rfl), (Nat.le_of_ble_eq_true rfl)⟩ wr_10_167 wr_10_168 hm283191 he283192 rfl (show 0 + 0 ≤ 0 by first | omega | decide) (show 0 + 0 ≤ 0 by first | omega | decide) (Nat.le_of_ble_eq_true rfl) (fun r283227 w283228 dc283224 ds283225 hp283226 => ?_) (fun _ _ _ _ _ z => z.elim)
            obtain ⟨o283229, rfl, rfl, hdc, hds, bo283229, ht283230⟩ := hp283226
            change G _ _ _ _ _ _ _ (.int o283229 :: _) _ _ _
            refine G_widen (cs' := 0) (sl' := 0) (by omega) (by omega) ?_
            refine G_icmp_ge 72 dr_cX17_behind_28 (by decide +kernel) (fun hc283231 => ?_) (fun hc283231 => ?_)
            · have r283232 : o283229.toInt ≤ g283182.toInt := gC_le hc283231
              have hx283233 : tl_RModel_behind3_23 D I γ el P280773 F280774 q280775 q280776 F282929 (0 : Int32) 72 F283183 := kt23_283188 72 F283183 (fun R c1 c2 => c1 F283183 g283182 p283195 p283196 q283194 p283208 o283229 bg283182 hT283184 hs283185 x283186 x283187 fq283220 fq283221 fq283222 fq283223 bo283229 ht283230 r283232)
              exact G_vretA dr_cX17_behind_72 rfl (Nat.le_of_ble_eq_true rfl) (Nat.le_of_ble_eq_true rfl) ⟨F283183, rfl, rfl, hT283184, hs283185, (Nat.le_of_ble_eq_true rfl), (Nat.le_of_ble_eq_true rfl), x283186, x283187, (fun R c1 => c1 F282929 F283183 hx282939 hx283233)⟩
            · have r283234 : g283182.toInt < o283229.toInt := gC_nle hc283231
              have bg283182' : gB g283182 0 1 := ⟨by omega, by omega⟩
              have bo283229' : gB o283229 1 2 := ⟨by omega, by omega⟩
              refine G_iconst 0 dr_cX17_behind_31 (by decide +kernel) ?_
              refine G_istore_n (L' := [(3, .int 0), (2, .int g283182), (0, .ref q280775), (1, .ref q280776)]) dr_cX17_behind_32 (Nat.le_of_ble_eq_true rfl) rfl ?_
              have hlp33_283337 : ∀ (n33_283337 : Nat) (F283333 : Nat → va_E) (g283332 : Int32), gB g283332 0 32 → RS D I P280773 F283333 γ el → rStr γ [] F280774 F283333 → (F283333 q280775 = F280774 q280775) → (F283333 (γ 9 3) = F280774 (γ 9 3)) → (∀ (k : Nat) (e1 : Nat → va_E), tl_RModel_behind3_33 D I γ el P280773 F280774 q280775 q280776 g283182 F283333 g283332 k e1 → tl_RModel_behind3_33 D I γ el P280773 F280774 q280775 q280776 g283182 F283183 (0 : Int32) k e1) → ((33 : Int) - g283332.toInt).toNat < n33_283337 → G (gV D I) l (gRm 1 21 0 0) (gMA (gV D I) (pt_280777_SpillForgeModel_behind D I γ el P280773 F280774 q280775 q280776) gNA 0 0) ky_280777_SpillForgeModel_behind 33 [(3, .int g283332), (2, .int g283182), (0, .ref q280775), (1, .ref q280776)] [] (va_pl P280773 F283333) 0 0 := by
                intro n33_283337
                induction n33_283337 with
                | zero => intro F283333 g283332 bg283332 hT283334 hs283335 x283336 x283337 kt33_283338 hm33_283337; exact absurd hm33_283337 (Nat.not_lt_zero _)
                | succ n33_283337 ih33_283337 =>
                  intro F283333 g283332 bg283332 hT283334 hs283335 x283336 x283337 kt33_283338 hm33_283337
                  have hs283339 : rStr γ [] F283183 F283333 := fun b h0 hb hw => (hs283335 b h0 hb hw).trans (hs283185 b h0 hb hw).symm
                  have he283340 : F283333 q280776 = .inr (17, [.ref q283193, .ref q283194, .int p283195, .int p283196]) := (hs283339 q280776 (rT0 htq280776 (by decide)) (rT1 htq280776 (by decide)) (rT2 htq280776 (by decide))).trans he283192
                  have he283341 : F283333 q283194 = .inr (20, [.int p283208, .int p283209, .int p283210, .int p283211, .int p283212, .int p283213, .int p283214]) := (hs283339 q283194 (rT0 ht283199 (by decide)) (rT1 ht283199 (by decide)) (rT2 ht283199 (by decide))).trans he283207
                  have hs283342 : rStr γ [] F280774 F283333 := rStr_tr hs283185 hs283339
                  refine G_iload_n 0 dr_cX17_behind_33 rfl ?_
                  refine G_bipush 32 dr_cX17_behind_34 (by decide +kernel) ?_
                  refine G_icmp_ge 66 dr_cX17_behind_36 (by decide +kernel) (fun hc283343 => ?_) (fun hc283343 => ?_)
                  · have r283344 : 32 ≤ g283332.toInt := gj_leL hc283343 (show Int32.toInt 32 = 32 by decide)
                    have bg283332' : gB g283332 32 32 := ⟨by omega, by omega⟩
                    have hx283345 : tl_RModel_behind3_33 D I γ el P280773 F280774 q280775 q280776 g283182 F283183 (0 : Int32) 66 F283333 := kt33_283338 66 F283333 (fun R c1 c2 => c1 F283333 g283332 bg283332 hT283334 hs283335 x283336 x283337 r283344)
                    obtain ⟨z283346, hz283346⟩ : ∃ z : Int32, z = g283182 + Int32.ofInt 1 := ⟨_, rfl⟩
                    have ez283346 : z283346.toInt = g283182.toInt + 1 := gI_inc hz283346 (by decide) bg283182' (by decide) (by decide)
                    have bz283346 : gB z283346 1 2 := ⟨by omega, by omega⟩
                    refine G_iinc (L' := [(2, .int z283346), (3, .int g283332), (0, .ref q280775), (1, .ref q280776)]) z283346 1 dr_cX17_behind_66 rfl hz283346.symm (Nat.le_of_ble_eq_true rfl) rfl ?_
                    refine G_goto 23 dr_cX17_behind_69 (by decide +kernel) ?_
                    refine G_lv (L' := [(2, .int z283346), (0, .ref q280775), (1, .ref q280776)]) [0, 2, 3] rfl ?_
                    exact ih23_283187 F283333 z283346 (gB_w bz283346 (by decide) (by decide)) hT283334 hs283335 x283336 x283337 (fun k e1 ht => kt23_283188 k e1 (fun R c1 c2 => c2 F283183 g283182 p283195 p283196 q283194 p283208 o283229 F283333 z283346 k e1 bg283182 hT283184 hs283185 x283186 x283187 fq283220 fq283221 fq283222 fq283223 bo283229 ht283230 r283234 hx283345 ez283346 (ht R c1 c2))) (mz_up ez283346 (Int.le_trans bg283182'.2 (by decide)) hm23_283187)
                  · have r283347 : g283332.toInt < 32 := gj_nleL hc283343 (show Int32.toInt 32 = 32 by decide)
                    have bg283332' : gB g283332 0 31 := ⟨by omega, by omega⟩
                    refine G_aload_n 2 dr_cX17_behind_39 rfl ?_
                    have hm283348 : q280775 ∈ P280773 := RS_m hT283334 htq280775 (by decide)
                    refine rk10_e (show rk_10 γ (F283333 q280775) from RS_o hT283334 htq280775) (fun q283350 q283351 p283352 p283353 p283354 p283355 p283356 p283357 p283358 p283359 p283360 p283361 p283362 p283363 p283364 p283365 p283366 he283349 hB283393 ht283367 ht283368 ht283369 ht283370 ht283371 ht283372 ht283373 ht283374 ht283375 ht283376 ht283377 ht283378 ht283379 ht283380 ht283381 ht283382 ht283383 ht283384 ht283385 ht283386 ht283387 ht283388 ht283389 ht283390 hB283394 => ?_)
                    have fq283395 : fR (F283333 q280775) 2 = (γ 9 2) := by rw [he283349]; rfl
                    refine Gp_get 2 hm283348 he283349 dr_cX17_behind_40 (gk_X17 D I) (Nat.le_of_ble_eq_true rfl) wr_7_76 rfl ?_
                    refine G_iload_n 0 dr_cX17_behind_43 rfl ?_
                    refine G_dup2_11 dr_cX17_behind_44 rfl rfl ?_
                    have hm283396 : (γ 9 2) ∈ P280773 := RS_m hT283334 ht283371 (by decide)
                    obtain ⟨f283398, he283397, wf283398⟩ := show rk_35 I (F283333 (γ 9 2)) from RS_o hT283334 ht283371
                    refine Gp_lald 2 hm283396 he283397 dr_cX17_behind_45 rfl (gB_in bg283332' (by decide) (by decide)) (G_namL fun u283399 hu283399 => ?_)
                    have qu283399 : lb_Q u283399 (2000 - 64 * g283332.toInt) := lb_Wld hu283399 wf283398 (by omega) (by omega) (lb_Mod0 (by omega) (by omega))
                    refine G_aload_n 2 dr_cX17_behind_46 rfl ?_
                    have fq283400 : fR (F283333 q280775) 0 = (γ 9 0) := by rw [he283349]; rfl
                    refine Gp_get 0 hm283348 he283349 dr_cX17_behind_47 (gk_X17 D I) (Nat.le_of_ble_eq_true rfl) wr_7_74 rfl ?_
                    refine G_aload_n 3 dr_cX17_behind_50 rfl ?_
                    refine G_iload_n 1 dr_cX17_behind_51 rfl ?_
                    have fq283401 : fI (F283333 q280776) 2 = p283195 := by rw [he283340]; rfl
                    have fq283402 : fI (F283333 q280776) 3 = p283196 := by rw [he283340]; rfl
                    have fq283403 : fR (F283333 q280776) 1 = q283194 := by rw [he283340]; rfl
                    refine Gw_callV (As := [.int g283182]) (gV_ok D I) (cp_5159_Block_way l hl0 D I P280773 F283333 q280776 q283194 g283182 q283193 p283195 p283196 p283208 p283209 p283210 p283211 p283212 p283213 p283214 hm283191 hm283206 he283340 he283341 bp283195 bp283196 bp283208 bp283209 bp283212 bp283213 bp283214) dr_cX17_behind_52 ⟨wr_10_170, wr_1_38, wr_10_173, by decide, rfl, (Nat.le_of_ble_eq_true rfl), (Nat.le_of_ble_eq_true rfl)⟩ wr_10_171 wr_10_172 hm283191 he283340 rfl (show 0 + 0 ≤ 0 by first | omega | decide) (show 0 + 0 ≤ 0 by first | omega | decide) (Nat.le_of_ble_eq_true rfl) (fun r283407 w283408 dc283404 ds283405 hp283406 => ?_) (fun _ _ _ _ _ z => z.elim)
                    obtain ⟨o283409, rfl, rfl, hdc, hds, bo283409, ht283410⟩ := hp283406
                    change G _ _ _ _ _ _ _ (.int o283409 :: _) _ _ _
                    refine G_widen (cs' := 0) (sl' := 0) (by omega) (by omega) ?_
                    have hm283411 : (γ 9 0) ∈ P280773 := RS_m hT283334 ht283369 (by decide)
                    obtain ⟨f283413, he283412, hg283414⟩ := show rk_12 I γ (F283333 (γ 9 0)) from RS_o hT283334 ht283369
                    obtain ⟨q283415, hx283417⟩ : ∃ x, x = γ 10 o283409.toInt.toNat := ⟨_, rfl⟩
                    have ht283416 : rKd γ q283415 11 := by rw [hx283417]; exact (hg283414 _ (show o283409.toInt.toNat < 40 by omega)).2.1
                    refine Gp_aald 5 hm283411 he283412 dr_cX17_behind_55 rfl rfl (gB_in bo283409 (by decide) (by decide)) ?_
                    rw [show f283413 o283409.toNatClampNeg = some q283415 from (hg283414 _ (show o283409.toInt.toNat < 40 by omega)).1.trans (by rw [hx283417])]
                    change G _ _ _ _ _ _ _ (.ref q283415 :: _) _ _ _
                    refine G_iload_n 0 dr_cX17_behind_56 rfl ?_
                    have hm283418 : q283415 ∈ P280773 := RS_m hT283334 ht283416 (by decide)
                    obtain ⟨f283420, he283419, wf283420⟩ := show rk_11 I (F283333 q283415) from RS_o hT283334 ht283416
                    refine Gp_lald 2 hm283418 he283419 dr_cX17_behind_57 rfl (gB_in bg283332' (by decide) (by decide)) (G_namL fun u283421 hu283421 => ?_)
                    have qu283421 : lb_Q u283421 (2000 - 64 * g283332.toInt) := lb_Wld hu283421 wf283420 (by omega) (by omega) (lb_Mod0 (by omega) (by omega))
                    refine G_lor dr_cX17_behind_58 (G_namL fun u283422 hu283422 => ?_)
                    have qu283422 : lb_Q u283422 (2000 - 64 * g283332.toInt) := lb_Qor hu283422 qu283399 qu283421
                    refine Gp_last 2 hm283396 he283397 dr_cX17_behind_59 rfl (gB_in bg283332' (by decide) (by decide)) (fun F283423 e283424 n283425 => ?_)
                    obtain ⟨f283426, hf283426⟩ : ∃ z, z = vp_updL f283398 g283332.toNatClampNeg u283422 := ⟨_, rfl⟩
                    rw [← hf283426] at e283424
                    have he283427 : F283423 q280776 = .inr (17, [.ref q283193, .ref q283194, .int p283195, .int p283196]) := (n283425 q280776 (rn_oa he283340 he283397)).trans he283340
                    have he283428 : F283423 q283194 = .inr (20, [.int p283208, .int p283209, .int p283210, .int p283211, .int p283212, .int p283213, .int p283214]) := (n283425 q283194 (rn_oa he283341 he283397)).trans he283341
                    have he283429 : F283423 q280775 = .inr (22, [.ref (γ 9 0), .ref (γ 9 1), .ref (γ 9 2), .ref (γ 9 3), .ref (γ 9 4), .ref (γ 9 5), .ref (γ 9 6), .ref (γ 9 7), .ref (γ 9 8), .int p283352, .int p283353, .int p283354, .int p283355, .int p283356, .int p283357, .ref (γ 9 15), .ref (γ 9 16), .ref (γ 9 17), .ref (γ 9 18), .ref (γ 9 19), .ref (γ 9 20), .ref (γ 9 21), .ref (γ 9 22), .int p283358, .int p283359, .int p283360, .int p283361, .int p283362, .ref q283350, .ref (γ 9 29), .int p283363, .ref (γ 9 31), .int p283364, .int p283365, .int p283366, .ref q283351]) := (n283425 q280775 (rn_oa he283349 he283397)).trans he283349
                    have he283430 : F283423 (γ 9 0) = .inl (I (.array .long), 40, .inr (.inr (.inr (.inr f283413)))) := (n283425 (γ 9 0) (rn_ref_long he283412 he283397)).trans he283412
                    have he283431 : F283423 q283415 = .inl (I .long, 32, .inr (.inl f283420)) := (n283425 q283415 (rn_ty ht283416 ht283371 (by decide))).trans he283419
                    have he283432 : F283423 (γ 9 2) = .inl (I .long, 32, .inr (.inl f283426)) := e283424
                    have hs283433 : rStr γ [] F280774 F283423 := rStr_put hs283335 n283425 ht283371 (by decide)
                    have kp283434 : F283423 q280775 = F280774 q280775 := (n283425 q280775 (rn_ty htq280775 ht283371 (by decide))).trans x283336
                    have kp283435 : F283423 (γ 9 3) = F280774 (γ 9 3) := (n283425 (γ 9 3) (rn_ty ht283372 ht283371 (by decide))).trans x283337
                    have wf283426 : lb_W f283426 (32) (32) (2000) := lb_Wst hf283426 wf283398 (by omega) (lb_Mod0 (by omega) (by omega)) qu283422
                    obtain ⟨z283436, hz283436⟩ : ∃ z : Int32, z = g283332 + Int32.ofInt 1 := ⟨_, rfl⟩
                    have ez283436 : z283436.toInt = g283332.toInt + 1 := gI_inc hz283436 (by decide) bg283332' (by decide) (by decide)
                    have bz283436 : gB z283436 1 32 := ⟨by omega, by omega⟩
                    refine G_iinc (L' := [(3, .int z283436), (2, .int g283182), (0, .ref q280775), (1, .ref q280776)]) z283436 0 dr_cX17_behind_60 rfl hz283436.symm (Nat.le_of_ble_eq_true rfl) rfl ?_
                    refine G_goto 33 dr_cX17_behind_63 (by decide +kernel) ?_
                    have hT283437 : RS D I P280773 F283423 γ el := RS_set hT283334 n283425 ht283371 (by decide) ⟨f283426, he283432, wf283426⟩
                    exact ih33_283337 F283423 z283436 (gB_w bz283436 (by decide) (by decide)) hT283437 hs283433 kp283434 kp283435 (fun k e1 ht => kt33_283338 k e1 (fun R c1 c2 => c2 F283333 g283332 f283398 u283399 p283195 p283196 o283409 q283415 f283420 u283421 u283422 f283426 F283423 z283436 k e1 bg283332 hT283334 hs283335 x283336 x283337 r283347 fq283395 he283397 hu283399 fq283400 fq283401 fq283402 bo283409 ht283410 hx283417 he283419 hu283421 hu283422 hf283426 n283425 he283432 ez283436 (ht R c1 c2))) (mz_up ez283436 (Int.le_trans bg283332'.2 (by decide)) hm33_283337)
              exact hlp33_283337 (((33 : Int) - 0).toNat + 1) F283183 0 (gB_w (gBl (show Int32.toInt 0 = 0 by decide)) (by decide) (by decide)) hT283184 hs283185 x283186 x283187 (fun k e1 ht => ht) (Nat.lt_succ_self _)
        exact hlp23_283187 (((3 : Int) - 0).toNat + 1) F282929 0 (gB_w (gBl (show Int32.toInt 0 = 0 by decide)) (by decide) (by decide)) hT282930 hs282931 x282932 x282933 (fun k e1 ht => ht) (Nat.lt_succ_self _)
      · have r283438 : g282928.toInt < 32 := gj_nleL hc282937 (show Int32.toInt 32 = 32 by decide)
        have bg282928' : gB g282928 0 31 := ⟨by omega, by omega⟩
        refine G_aload_n 1 dr_cX17_behind_8 rfl ?_
        have hm283439 : q280775 ∈ P280773 := RS_m hT282930 htq280775 (by decide)
        refine rk10_e (show rk_10 γ (F282929 q280775) from RS_o hT282930 htq280775) (fun q283441 q283442 p283443 p283444 p283445 p283446 p283447 p283448 p283449 p283450 p283451 p283452 p283453 p283454 p283455 p283456 p283457 he283440 hB283484 ht283458 ht283459 ht283460 ht283461 ht283462 ht283463 ht283464 ht283465 ht283466 ht283467 ht283468 ht283469 ht283470 ht283471 ht283472 ht283473 ht283474 ht283475 ht283476 ht283477 ht283478 ht283479 ht283480 ht283481 hB283485 => ?_)
        have fq283486 : fR (F282929 q280775) 2 = (γ 9 2) := by rw [he283440]; rfl
        refine Gp_get 2 hm283439 he283440 dr_cX17_behind_9 (gk_X17 D I) (Nat.le_of_ble_eq_true rfl) wr_7_76 rfl ?_
        refine G_iload_n 0 dr_cX17_behind_12 rfl ?_
        refine G_lconst 0 dr_cX17_behind_13 rfl ?_
        have hm283487 : (γ 9 2) ∈ P280773 := RS_m hT282930 ht283462 (by decide)
        obtain ⟨f283489, he283488, wf283489⟩ := show rk_35 I (F282929 (γ 9 2)) from RS_o hT282930 ht283462
        refine Gp_last 2 hm283487 he283488 dr_cX17_behind_14 rfl (gB_in bg282928' (by decide) (by decide)) (fun F283490 e283491 n283492 => ?_)
        obtain ⟨f283493, hf283493⟩ : ∃ z, z = vp_updL f283489 g282928.toNatClampNeg 0 := ⟨_, rfl⟩
        rw [← hf283493] at e283491
        have he283494 : F283490 q280775 = .inr (22, [.ref (γ 9 0), .ref (γ 9 1), .ref (γ 9 2), .ref (γ 9 3), .ref (γ 9 4), .ref (γ 9 5), .ref (γ 9 6), .ref (γ 9 7), .ref (γ 9 8), .int p283443, .int p283444, .int p283445, .int p283446, .int p283447, .int p283448, .ref (γ 9 15), .ref (γ 9 16), .ref (γ 9 17), .ref (γ 9 18), .ref (γ 9 19), .ref (γ 9 20), .ref (γ 9 21), .ref (γ 9 22), .int p283449, .int p283450, .int p283451, .int p283452, .int p283453, .ref q283441, .ref (γ 9 29), .int p283454, .ref (γ 9 31), .int p283455, .int p283456, .int p283457, .ref q283442]) := (n283492 q280775 (rn_oa he283440 he283488)).trans he283440
        have he283495 : F283490 (γ 9 2) = .inl (I .long, 32, .inr (.inl f283493)) := e283491
        have hs283496 : rStr γ [] F280774 F283490 := rStr_put hs282931 n283492 ht283462 (by decide)
        have kp283497 : F283490 q280775 = F280774 q280775 := (n283492 q280775 (rn_ty htq280775 ht283462 (by decide))).trans x282932
        have kp283498 : F283490 (γ 9 3) = F280774 (γ 9 3) := (n283492 (γ 9 3) (rn_ty ht283463 ht283462 (by decide))).trans x282933
        have wf283493 : lb_W f283493 (32) (32) (2000) := lb_Wst hf283493 wf283489 (by omega) (lb_Mod0 (by omega) (by omega)) lb_Q0
        obtain ⟨z283499, hz283499⟩ : ∃ z : Int32, z = g282928 + Int32.ofInt 1 := ⟨_, rfl⟩
        have ez283499 : z283499.toInt = g282928.toInt + 1 := gI_inc hz283499 (by decide) bg282928' (by decide) (by decide)
        have bz283499 : gB z283499 1 32 := ⟨by omega, by omega⟩
        refine G_iinc (L' := [(2, .int z283499), (0, .ref q280775), (1, .ref q280776)]) z283499 0 dr_cX17_behind_15 rfl hz283499.symm (Nat.le_of_ble_eq_true rfl) rfl ?_
        refine G_goto 2 dr_cX17_behind_18 (by decide +kernel) ?_
        have hT283500 : RS D I P280773 F283490 γ el := RS_set hT282930 n283492 ht283462 (by decide) ⟨f283493, he283495, wf283493⟩
        exact ih2_282933 F283490 z283499 (gB_w bz283499 (by decide) (by decide)) hT283500 hs283496 kp283497 kp283498 (fun k e1 ht => kt2_282934 k e1 (fun R c1 c2 => c2 F282929 g282928 f283489 f283493 F283490 z283499 k e1 bg282928 hT282930 hs282931 x282932 x282933 r283438 fq283486 he283488 hf283493 n283492 he283495 ez283499 (ht R c1 c2))) (mz_up ez283499 (Int.le_trans bg282928'.2 (by decide)) hm2_282933)
  exact hlp2_282933 (((33 : Int) - 0).toNat + 1) F280774 0 (gB_w (gBl (show Int32.toInt 0 = 0 by decide)) (by decide) (by decide)) hT (rStr_rf (γ := γ) (W := []) (F := F280774)) rfl rfl (fun k e1 ht => ht) (Nat.lt_succ_self _)
/- tr_RModel_stand2: F -/
def tr_RModel_stand2 (D : va_G) (I : FieldType → ClassId) (γ el : Nat → Nat → Nat) (F : Nat → va_E) (q0 : Nat) (q1 : Nat) (a2 : Int32) (o1 : Nat → va_E) : Prop := ∀ R : (Nat → va_E) → Prop,
  (∀ (x1 : Int32) (x2 : Int32) (x3 : Int32) (x4 : Int32) (x5 : Int32) (x6 : Int32) (x7 : Int32) (x8 : Int32), fI (F q1) 0 = x1 → fI (F q1) 1 = x2 → fI (F q1) 4 = x3 → gB x4 (-1) 1999 → tr_RModel_setOf2 a2 x1 x2 x3 x4 → x4.toInt < 0 → a2.toInt = 0 → fI (F q1) 5 = x5 → gB x6 0 1 → tr_RRow_usesA2 x1 x5 x6 → x6.toInt = 0 → fI (F q1) 6 = x7 → gB x8 0 1 → tr_RRow_usesB2 x1 x7 x8 → x8.toInt = 0 → R F) →
  (∀ (x1 : Int32) (x2 : Int32) (x3 : Int32) (x4 : Int32) (x5 : Int32) (x6 : Int32) (x7 : Int32) (x8 : Int32) (x9 : Int32) (x10 : Nat → Int32) (x11 : Nat → Int32) (x12 : Nat → va_E), fI (F q1) 0 = x1 → fI (F q1) 1 = x2 → fI (F q1) 4 = x3 → gB x4 (-1) 1999 → tr_RModel_setOf2 a2 x1 x2 x3 x4 → x4.toInt < 0 → a2.toInt = 0 → fI (F q1) 5 = x5 → gB x6 0 1 → tr_RRow_usesA2 x1 x5 x6 → x6.toInt = 0 → fI (F q1) 6 = x7 → gB x8 0 1 → tr_RRow_usesB2 x1 x7 x8 → x8.toInt ≠ 0 → fR (F q0) 3 = (γ 9 3) → fI (F q1) 3 = x9 → F (γ 9 3) = .inl (I .boolean, 2000, .inl x10) → x11 = upd x10 x9.toNatClampNeg (vp_nar .boolean 1) → (∀ b, b ≠ (γ 9 3) → x12 b = F b) → x12 (γ 9 3) = .inl (I .boolean, 2000, .inl x11) → R x12) →
  (∀ (x1 : Int32) (x2 : Int32) (x3 : Int32) (x4 : Int32) (x5 : Int32) (x6 : Int32) (x7 : Int32) (x8 : Nat → Int32) (x9 : Nat → Int32) (x10 : Nat → va_E) (x11 : Int32) (x12 : Int32), fI (F q1) 0 = x1 → fI (F q1) 1 = x2 → fI (F q1) 4 = x3 → gB x4 (-1) 1999 → tr_RModel_setOf2 a2 x1 x2 x3 x4 → x4.toInt < 0 → a2.toInt = 0 → fI (F q1) 5 = x5 → gB x6 0 1 → tr_RRow_usesA2 x1 x5 x6 → x6.toInt ≠ 0 → fR (F q0) 3 = (γ 9 3) → fI (F q1) 2 = x7 → F (γ 9 3) = .inl (I .boolean, 2000, .inl x8) → x9 = upd x8 x7.toNatClampNeg (vp_nar .boolean 1) → (∀ b, b ≠ (γ 9 3) → x10 b = F b) → x10 (γ 9 3) = .inl (I .boolean, 2000, .inl x9) → fI (x10 q1) 0 = x1 → fI (x10 q1) 6 = x11 → gB x12 0 1 → tr_RRow_usesB2 x1 x11 x12 → x12.toInt = 0 → R x10) →
  (∀ (x1 : Int32) (x2 : Int32) (x3 : Int32) (x4 : Int32) (x5 : Int32) (x6 : Int32) (x7 : Int32) (x8 : Nat → Int32) (x9 : Nat → Int32) (x10 : Nat → va_E) (x11 : Int32) (x12 : Int32) (x13 : Int32) (x14 : Nat → Int32) (x15 : Nat → va_E), fI (F q1) 0 = x1 → fI (F q1) 1 = x2 → fI (F q1) 4 = x3 → gB x4 (-1) 1999 → tr_RModel_setOf2 a2 x1 x2 x3 x4 → x4.toInt < 0 → a2.toInt = 0 → fI (F q1) 5 = x5 → gB x6 0 1 → tr_RRow_usesA2 x1 x5 x6 → x6.toInt ≠ 0 → fR (F q0) 3 = (γ 9 3) → fI (F q1) 2 = x7 → F (γ 9 3) = .inl (I .boolean, 2000, .inl x8) → x9 = upd x8 x7.toNatClampNeg (vp_nar .boolean 1) → (∀ b, b ≠ (γ 9 3) → x10 b = F b) → x10 (γ 9 3) = .inl (I .boolean, 2000, .inl x9) → fI (x10 q1) 0 = x1 → fI (x10 q1) 6 = x11 → gB x12 0 1 → tr_RRow_usesB2 x1 x11 x12 → x12.toInt ≠ 0 → fR (x10 q0) 3 = (γ 9 3) → fI (x10 q1) 3 = x13 → x10 (γ 9 3) = .inl (I .boolean, 2000, .inl x9) → x14 = upd x9 x13.toNatClampNeg (vp_nar .boolean 1) → (∀ b, b ≠ (γ 9 3) → x15 b = x10 b) → x15 (γ 9 3) = .inl (I .boolean, 2000, .inl x14) → R x15) →
  (∀ (x1 : Int32) (x2 : Int32) (x3 : Int32) (x4 : Int32), fI (F q1) 0 = x1 → fI (F q1) 1 = x2 → fI (F q1) 4 = x3 → gB x4 (-1) 1999 → tr_RModel_setOf2 a2 x1 x2 x3 x4 → x4.toInt < 0 → a2.toInt ≠ 0 → x1.toInt ≠ 21 → R F) →
  (∀ (x1 : Int32) (x2 : Int32) (x3 : Int32) (x4 : Int32) (x5 : Nat → Int32) (x6 : Nat → Int32) (x7 : Nat → va_E), fI (F q1) 0 = x1 → fI (F q1) 1 = x2 → fI (F q1) 4 = x3 → gB x4 (-1) 1999 → tr_RModel_setOf2 a2 x1 x2 x3 x4 → x4.toInt < 0 → a2.toInt ≠ 0 → x1.toInt = 21 → fR (F q0) 3 = (γ 9 3) → F (γ 9 3) = .inl (I .boolean, 2000, .inl x5) → x6 = upd x5 x3.toNatClampNeg (vp_nar .boolean 1) → (∀ b, b ≠ (γ 9 3) → x7 b = F b) → x7 (γ 9 3) = .inl (I .boolean, 2000, .inl x6) → R x7) →
  (∀ (x1 : Int32) (x2 : Int32) (x3 : Int32) (x4 : Int32) (x5 : Nat → Int32) (x6 : Nat → Int32) (x7 : Nat → va_E) (x8 : Int32) (x9 : Int32) (x10 : Int32) (x11 : Int32), fI (F q1) 0 = x1 → fI (F q1) 1 = x2 → fI (F q1) 4 = x3 → gB x4 (-1) 1999 → tr_RModel_setOf2 a2 x1 x2 x3 x4 → 0 ≤ x4.toInt → fR (F q0) 3 = (γ 9 3) → F (γ 9 3) = .inl (I .boolean, 2000, .inl x5) → x6 = upd x5 x4.toNatClampNeg (vp_nar .boolean 1) → (∀ b, b ≠ (γ 9 3) → x7 b = F b) → x7 (γ 9 3) = .inl (I .boolean, 2000, .inl x6) → a2.toInt = 0 → fI (x7 q1) 0 = x1 → fI (x7 q1) 5 = x8 → gB x9 0 1 → tr_RRow_usesA2 x1 x8 x9 → x9.toInt = 0 → fI (x7 q1) 6 = x10 → gB x11 0 1 → tr_RRow_usesB2 x1 x10 x11 → x11.toInt = 0 → R x7) →
  (∀ (x1 : Int32) (x2 : Int32) (x3 : Int32) (x4 : Int32) (x5 : Nat → Int32) (x6 : Nat → Int32) (x7 : Nat → va_E) (x8 : Int32) (x9 : Int32) (x10 : Int32) (x11 : Int32) (x12 : Int32) (x13 : Nat → Int32) (x14 : Nat → va_E), fI (F q1) 0 = x1 → fI (F q1) 1 = x2 → fI (F q1) 4 = x3 → gB x4 (-1) 1999 → tr_RModel_setOf2 a2 x1 x2 x3 x4 → 0 ≤ x4.toInt → fR (F q0) 3 = (γ 9 3) → F (γ 9 3) = .inl (I .boolean, 2000, .inl x5) → x6 = upd x5 x4.toNatClampNeg (vp_nar .boolean 1) → (∀ b, b ≠ (γ 9 3) → x7 b = F b) → x7 (γ 9 3) = .inl (I .boolean, 2000, .inl x6) → a2.toInt = 0 → fI (x7 q1) 0 = x1 → fI (x7 q1) 5 = x8 → gB x9 0 1 → tr_RRow_usesA2 x1 x8 x9 → x9.toInt = 0 → fI (x7 q1) 6 = x10 → gB x11 0 1 → tr_RRow_usesB2 x1 x10 x11 → x11.toInt ≠ 0 → fR (x7 q0) 3 = (γ 9 3) → fI (x7 q1) 3 = x12 → x7 (γ 9 3) = .inl (I .boolean, 2000, .inl x6) → x13 = upd x6 x12.toNatClampNeg (vp_nar .boolean 1) → (∀ b, b ≠ (γ 9 3) → x14 b = x7 b) → x14 (γ 9 3) = .inl (I .boolean, 2000, .inl x13) → R x14) →
  (∀ (x1 : Int32) (x2 : Int32) (x3 : Int32) (x4 : Int32) (x5 : Nat → Int32) (x6 : Nat → Int32) (x7 : Nat → va_E) (x8 : Int32) (x9 : Int32) (x10 : Int32) (x11 : Nat → Int32) (x12 : Nat → va_E) (x13 : Int32) (x14 : Int32), fI (F q1) 0 = x1 → fI (F q1) 1 = x2 → fI (F q1) 4 = x3 → gB x4 (-1) 1999 → tr_RModel_setOf2 a2 x1 x2 x3 x4 → 0 ≤ x4.toInt → fR (F q0) 3 = (γ 9 3) → F (γ 9 3) = .inl (I .boolean, 2000, .inl x5) → x6 = upd x5 x4.toNatClampNeg (vp_nar .boolean 1) → (∀ b, b ≠ (γ 9 3) → x7 b = F b) → x7 (γ 9 3) = .inl (I .boolean, 2000, .inl x6) → a2.toInt = 0 → fI (x7 q1) 0 = x1 → fI (x7 q1) 5 = x8 → gB x9 0 1 → tr_RRow_usesA2 x1 x8 x9 → x9.toInt ≠ 0 → fR (x7 q0) 3 = (γ 9 3) → fI (x7 q1) 2 = x10 → x7 (γ 9 3) = .inl (I .boolean, 2000, .inl x6) → x11 = upd x6 x10.toNatClampNeg (vp_nar .boolean 1) → (∀ b, b ≠ (γ 9 3) → x12 b = x7 b) → x12 (γ 9 3) = .inl (I .boolean, 2000, .inl x11) → fI (x12 q1) 0 = x1 → fI (x12 q1) 6 = x13 → gB x14 0 1 → tr_RRow_usesB2 x1 x13 x14 → x14.toInt = 0 → R x12) →
  (∀ (x1 : Int32) (x2 : Int32) (x3 : Int32) (x4 : Int32) (x5 : Nat → Int32) (x6 : Nat → Int32) (x7 : Nat → va_E) (x8 : Int32) (x9 : Int32) (x10 : Int32) (x11 : Nat → Int32) (x12 : Nat → va_E) (x13 : Int32) (x14 : Int32) (x15 : Int32) (x16 : Nat → Int32) (x17 : Nat → va_E), fI (F q1) 0 = x1 → fI (F q1) 1 = x2 → fI (F q1) 4 = x3 → gB x4 (-1) 1999 → tr_RModel_setOf2 a2 x1 x2 x3 x4 → 0 ≤ x4.toInt → fR (F q0) 3 = (γ 9 3) → F (γ 9 3) = .inl (I .boolean, 2000, .inl x5) → x6 = upd x5 x4.toNatClampNeg (vp_nar .boolean 1) → (∀ b, b ≠ (γ 9 3) → x7 b = F b) → x7 (γ 9 3) = .inl (I .boolean, 2000, .inl x6) → a2.toInt = 0 → fI (x7 q1) 0 = x1 → fI (x7 q1) 5 = x8 → gB x9 0 1 → tr_RRow_usesA2 x1 x8 x9 → x9.toInt ≠ 0 → fR (x7 q0) 3 = (γ 9 3) → fI (x7 q1) 2 = x10 → x7 (γ 9 3) = .inl (I .boolean, 2000, .inl x6) → x11 = upd x6 x10.toNatClampNeg (vp_nar .boolean 1) → (∀ b, b ≠ (γ 9 3) → x12 b = x7 b) → x12 (γ 9 3) = .inl (I .boolean, 2000, .inl x11) → fI (x12 q1) 0 = x1 → fI (x12 q1) 6 = x13 → gB x14 0 1 → tr_RRow_usesB2 x1 x13 x14 → x14.toInt ≠ 0 → fR (x12 q0) 3 = (γ 9 3) → fI (x12 q1) 3 = x15 → x12 (γ 9 3) = .inl (I .boolean, 2000, .inl x11) → x16 = upd x11 x15.toNatClampNeg (vp_nar .boolean 1) → (∀ b, b ≠ (γ 9 3) → x17 b = x12 b) → x17 (γ 9 3) = .inl (I .boolean, 2000, .inl x16) → R x17) →
  (∀ (x1 : Int32) (x2 : Int32) (x3 : Int32) (x4 : Int32) (x5 : Nat → Int32) (x6 : Nat → Int32) (x7 : Nat → va_E), fI (F q1) 0 = x1 → fI (F q1) 1 = x2 → fI (F q1) 4 = x3 → gB x4 (-1) 1999 → tr_RModel_setOf2 a2 x1 x2 x3 x4 → 0 ≤ x4.toInt → fR (F q0) 3 = (γ 9 3) → F (γ 9 3) = .inl (I .boolean, 2000, .inl x5) → x6 = upd x5 x4.toNatClampNeg (vp_nar .boolean 1) → (∀ b, b ≠ (γ 9 3) → x7 b = F b) → x7 (γ 9 3) = .inl (I .boolean, 2000, .inl x6) → a2.toInt ≠ 0 → fI (x7 q1) 0 = x1 → x1.toInt ≠ 21 → R x7) →
  (∀ (x1 : Int32) (x2 : Int32) (x3 : Int32) (x4 : Int32) (x5 : Nat → Int32) (x6 : Nat → Int32) (x7 : Nat → va_E) (x8 : Nat → Int32) (x9 : Nat → va_E), fI (F q1) 0 = x1 → fI (F q1) 1 = x2 → fI (F q1) 4 = x3 → gB x4 (-1) 1999 → tr_RModel_setOf2 a2 x1 x2 x3 x4 → 0 ≤ x4.toInt → fR (F q0) 3 = (γ 9 3) → F (γ 9 3) = .inl (I .boolean, 2000, .inl x5) → x6 = upd x5 x4.toNatClampNeg (vp_nar .boolean 1) → (∀ b, b ≠ (γ 9 3) → x7 b = F b) → x7 (γ 9 3) = .inl (I .boolean, 2000, .inl x6) → a2.toInt ≠ 0 → fI (x7 q1) 0 = x1 → x1.toInt = 21 → fR (x7 q0) 3 = (γ 9 3) → fI (x7 q1) 4 = x3 → x7 (γ 9 3) = .inl (I .boolean, 2000, .inl x6) → x8 = upd x6 x3.toNatClampNeg (vp_nar .boolean 1) → (∀ b, b ≠ (γ 9 3) → x9 b = x7 b) → x9 (γ 9 3) = .inl (I .boolean, 2000, .inl x8) → R x9) →
  R o1
abbrev ky_283526_SpillForgeModel_stand : gKey := (cX17_stand, 4, "SpillForgeModel", none, [], "stand", fun _ _ => True)
def pt_283526_SpillForgeModel_stand (D : va_G) (I : FieldType → ClassId) (γ el : Nat → Nat → Nat) (P283521 : List Nat) (F283522 : Nat → va_E) (q283523 : Nat) (q283524 : Nat) (p283525 : Int32) : Option Value → va_W → Nat → Nat → Prop := fun r w dc ds => ∃ (F283801 : Nat → va_E), r = none ∧ w = va_pl P283521 F283801 ∧ RS D I P283521 F283801 γ el ∧ rStr γ [] F283522 F283801 ∧ dc ≤ 0 ∧ ds ≤ 0 ∧ (gIp (p283525.toInt = 0) (∀ n : Nat, rSd (cB (F283801 (γ 9 3))) n ↔ (rSd (cB (F283522 (γ 9 3))) n ∨ nmS (F283522 q283524) n))) ∧ (F283801 q283523 = F283522 q283523) ∧ tr_RModel_stand2 D I γ el F283522 q283523 q283524 p283525 F283801
set_option maxRecDepth 100000 in
set_option maxHeartbeats 4000000 in
theorem ct_283526_SpillForgeModel_stand (l : Launch) (hl0 : l.stackTraces = false) (D : va_G) (I : FieldType → ClassId) (γ el : Nat → Nat → Nat) (P283521 : List Nat) (F283522 : Nat → va_E) (q283523 : Nat) (q283524 : Nat) (p283525 : Int32) (hT : RS D I P283521 F283522 γ el) (htq283523 : rKd γ q283523 10) (htq283524 : rKd γ q283524 1) (bp283525 : gB p283525 0 1) : CtA (gV D I) l yX17_stand cX17_stand 4 none 2 41 0 0 [.ref q283523, .ref q283524, .int p283525] (va_pl P283521 F283522) (pt_283526_SpillForgeModel_stand D I γ el P283521 F283522 q283523 q283524 p283525) gNA := by
  refine CtA_of hl0 (by decide) (Nat.le_of_ble_eq_true rfl) ?_
  have hm283527 : q283523 ∈ P283521 := RS_m hT htq283523 (by decide)
  refine rk10_e (show rk_10 γ (F283522 q283523) from RS_o hT htq283523) (fun q283529 q283530 p283531 p283532 p283533 p283534 p283535 p283536 p283537 p283538 p283539 p283540 p283541 p283542 p283543 p283544 p283545 he283528 hB283572 ht283546 ht283547 ht283548 ht283549 ht283550 ht283551 ht283552 ht283553 ht283554 ht283555 ht283556 ht283557 ht283558 ht283559 ht283560 ht283561 ht283562 ht283563 ht283564 ht283565 ht283566 ht283567 ht283568 ht283569 hB283573 => ?_)
  have hm283574 : (γ 9 3) ∈ P283521 := RS_m hT ht283551 (by decide)
  obtain ⟨f283576, he283575, bf283576⟩ := show rk_14 I (F283522 (γ 9 3)) from RS_o hT ht283551
  have hm283577 : q283524 ∈ P283521 := RS_m hT htq283524 (by decide)
  obtain ⟨p283579, p283580, p283581, p283582, p283583, p283584, p283585, he283578, bp283579, bp283580, bp283583, bp283584, bp283585, r283586, r283587, r283588, r283589, r283590⟩ := show rk_1 γ q283524 (F283522 q283524) from RS_o hT htq283524
  have bp283581 := gB_any p283581
  have bp283582 := gB_any p283582
  refine G_aload_n 1 dr_cX17_stand_0 rfl ?_
  refine G_iload_n 2 dr_cX17_stand_1 rfl ?_
  have fq283591 : fI (F283522 q283524) 0 = p283579 := by rw [he283578]; rfl
  have fq283592 : fI (F283522 q283524) 1 = p283580 := by rw [he283578]; rfl
  have fq283593 : fI (F283522 q283524) 4 = p283583 := by rw [he283578]; rfl
  refine Gw_callS (As := [.ref q283524, .int p283525]) (gV_ok D I) (cp_221946_SpillForgeModel_setOf l hl0 D I P283521 F283522 q283524 p283525 p283579 p283580 p283581 p283582 p283583 p283584 p283585 hm283577 he283578 bp283525 bp283579 bp283580 bp283583 bp283584 bp283585) dr_cX17_stand_2 ⟨wr_10_178, wr_1_14, wr_10_180, by decide, rfl, (Nat.le_of_ble_eq_true rfl), (Nat.le_of_ble_eq_true rfl)⟩ wr_10_179 (show 0 + 0 ≤ 0 by first | omega | decide) (show 0 + 0 ≤ 0 by first | omega | decide) (Nat.le_of_ble_eq_true rfl) (fun r283597 w283598 dc283594 ds283595 hp283596 => ?_) (fun _ _ _ _ _ z => z.elim)
  obtain ⟨o283599, rfl, rfl, hdc, hds, bo283599, x283600, ht283601⟩ := hp283596
  change G _ _ _ _ _ _ _ (.int o283599 :: _) _ _ _
  refine G_widen (cs' := 0) (sl' := 0) (by omega) (by omega) ?_
  refine G_istore_n (L' := [(3, .int o283599), (0, .ref q283523), (1, .ref q283524), (2, .int p283525)]) dr_cX17_stand_5 (Nat.le_of_ble_eq_true rfl) rfl ?_
  refine G_iload_n 0 dr_cX17_stand_6 rfl ?_
  refine G_if_lt 17 dr_cX17_stand_7 (by decide +kernel) (fun hc283602 => ?_) (fun hc283602 => ?_)
  · have r283603 : o283599.toInt < 0 := gj_lt hc283602 (show Int32.toInt 0 = 0 by decide)
    have bo283599' : gB o283599 (-1) (-1) := ⟨by omega, by omega⟩
    refine G_iload_n 3 dr_cX17_stand_17 rfl ?_
    refine G_if_eq 41 dr_cX17_stand_18 (by decide +kernel) (fun hc283604 => ?_) (fun hc283604 => ?_)
    · have r283605 : p283525.toInt = 0 := gj_eq hc283604 (show Int32.toInt 0 = 0 by decide)
      have bp283525' : gB p283525 0 0 := gB_t0 r283605
      refine G_aload_n 2 dr_cX17_stand_41 rfl ?_
      have fq283606 : fI (F283522 q283524) 5 = p283584 := by rw [he283578]; rfl
      refine Gw_callV (As := []) (gV_ok D I) (cp_221885_Row_usesA l hl0 D I P283521 F283522 q283524 p283579 p283580 p283581 p283582 p283583 p283584 p283585 hm283577 he283578 bp283579 bp283580 bp283583 bp283584 bp283585) dr_cX17_stand_42 ⟨wr_10_192, wr_1_39, wr_10_195, by decide, rfl, (Nat.le_of_ble_eq_true rfl), (Nat.le_of_ble_eq_true rfl)⟩ wr_10_193 wr_10_194 hm283577 he283578 rfl (show 0 + 0 ≤ 0 by first | omega | decide) (show 0 + 0 ≤ 0 by first | omega | decide) (Nat.le_of_ble_eq_true rfl) (fun r283610 w283611 dc283607 ds283608 hp283609 => ?_) (fun _ _ _ _ _ z => z.elim)
      obtain ⟨o283612, rfl, rfl, hdc, hds, bo283612, x283613, ht283614⟩ := hp283609
      change G _ _ _ _ _ _ _ (.int o283612 :: _) _ _ _
      refine G_widen (cs' := 0) (sl' := 0) (by omega) (by omega) ?_
      refine G_if_eq 58 dr_cX17_stand_45 (by decide +kernel) (fun hc283615 => ?_) (fun hc283615 => ?_)
      · have r283616 : o283612.toInt = 0 := gj_eq hc283615 (show Int32.toInt 0 = 0 by decide)
        have bo283612' : gB o283612 0 0 := gB_t0 r283616
        refine G_aload_n 2 dr_cX17_stand_58 rfl ?_
        have fq283617 : fI (F283522 q283524) 6 = p283585 := by rw [he283578]; rfl
        refine Gw_callV (As := []) (gV_ok D I) (cp_221909_Row_usesB l hl0 D I P283521 F283522 q283524 p283579 p283580 p283581 p283582 p283583 p283584 p283585 hm283577 he283578 bp283579 bp283580 bp283583 bp283584 bp283585) dr_cX17_stand_59 ⟨wr_10_196, wr_1_39, wr_10_199, by decide, rfl, (Nat.le_of_ble_eq_true rfl), (Nat.le_of_ble_eq_true rfl)⟩ wr_10_197 wr_10_198 hm283577 he283578 rfl (show 0 + 0 ≤ 0 by first | omega | decide) (show 0 + 0 ≤ 0 by first | omega | decide) (Nat.le_of_ble_eq_true rfl) (fun r283621 w283622 dc283618 ds283619 hp283620 => ?_) (fun _ _ _ _ _ z => z.elim)
        obtain ⟨o283623, rfl, rfl, hdc, hds, bo283623, x283624, ht283625⟩ := hp283620
        change G _ _ _ _ _ _ _ (.int o283623 :: _) _ _ _
        refine G_widen (cs' := 0) (sl' := 0) (by omega) (by omega) ?_
        refine G_if_eq 75 dr_cX17_stand_62 (by decide +kernel) (fun hc283626 => ?_) (fun hc283626 => ?_)
        · have r283627 : o283623.toInt = 0 := gj_eq hc283626 (show Int32.toInt 0 = 0 by decide)
          have bo283623' : gB o283623 0 0 := gB_t0 r283627
          exact G_vretA dr_cX17_stand_75 rfl (Nat.le_of_ble_eq_true rfl) (Nat.le_of_ble_eq_true rfl) ⟨F283522, rfl, rfl, hT, (rStr_rf (γ := γ) (W := []) (F := F283522)), (Nat.le_of_ble_eq_true rfl), (Nat.le_of_ble_eq_true rfl), (fun _ n => by rw [cB_of he283575, nmS_of he283578]; exact nm_fin false false false (decide_eq_false (show ¬ (p283579.toInt ≤ 21) by omega)) (decide_eq_false (show ¬ (p283579.toInt ≠ 20 ∧ p283579.toInt ≠ 21 ∧ p283579.toInt ≠ 30 ∧ p283584.toInt = 1) by omega)) (decide_eq_false (show ¬ (0 < p283579.toInt ∧ p283579.toInt < 20 ∧ p283585.toInt = 1) by omega)) (by simp)), rfl, (fun R c1 c2 c3 c4 c5 c6 c7 c8 c9 c10 c11 c12 => c1 p283579 p283580 p283583 o283599 p283584 o283612 p283585 o283623 fq283591 fq283592 fq283593 bo283599 ht283601 r283603 r283605 fq283606 bo283612 ht283614 r283616 fq283617 bo283623 ht283625 r283627)⟩
        · have r283628 : o283623.toInt ≠ 0 := gj_neq hc283626 (show Int32.toInt 0 = 0 by decide)
          have bo283623' : gB o283623 1 1 := gB_t1 bo283623 r283628
          refine G_aload_n 1 dr_cX17_stand_65 rfl ?_
          have fq283629 : fR (F283522 q283523) 3 = (γ 9 3) := by rw [he283528]; rfl
          refine Gp_get 3 hm283527 he283528 dr_cX17_stand_66 (gk_X17 D I) (Nat.le_of_ble_eq_true rfl) wr_7_77 rfl ?_
          refine G_aload_n 2 dr_cX17_stand_69 rfl ?_
          have fq283630 : fI (F283522 q283524) 3 = p283582 := by rw [he283578]; rfl
          refine Gp_get 3 hm283577 he283578 dr_cX17_stand_70 (gk_X15 D I) (Nat.le_of_ble_eq_true rfl) wr_9_190 rfl ?_
          refine G_iconst 1 dr_cX17_stand_73 (by decide +kernel) ?_
          refine Gp_zast 3 hm283574 he283575 dr_cX17_stand_74 rfl (gB_inr (by omega) (by omega)) (fun F283631 e283632 n283633 => ?_)
          obtain ⟨f283634, hf283634⟩ : ∃ z, z = upd f283576 p283582.toNatClampNeg (vp_nar .boolean 1) := ⟨_, rfl⟩
          rw [← hf283634] at e283632
          have he283635 : F283631 q283523 = .inr (22, [.ref (γ 9 0), .ref (γ 9 1), .ref (γ 9 2), .ref (γ 9 3), .ref (γ 9 4), .ref (γ 9 5), .ref (γ 9 6), .ref (γ 9 7), .ref (γ 9 8), .int p283531, .int p283532, .int p283533, .int p283534, .int p283535, .int p283536, .ref (γ 9 15), .ref (γ 9 16), .ref (γ 9 17), .ref (γ 9 18), .ref (γ 9 19), .ref (γ 9 20), .ref (γ 9 21), .ref (γ 9 22), .int p283537, .int p283538, .int p283539, .int p283540, .int p283541, .ref q283529, .ref (γ 9 29), .int p283542, .ref (γ 9 31), .int p283543, .int p283544, .int p283545, .ref q283530]) := (n283633 q283523 (rn_oa he283528 he283575)).trans he283528
          have he283636 : F283631 q283524 = .inr (20, [.int p283579, .int p283580, .int p283581, .int p283582, .int p283583, .int p283584, .int p283585]) := (n283633 q283524 (rn_oa he283578 he283575)).trans he283578
          have he283637 : F283631 (γ 9 3) = .inl (I .boolean, 2000, .inl f283634) := e283632
          have hs283638 : rStr γ [] F283522 F283631 := rStr_put (rStr_rf (γ := γ) (W := []) (F := F283522)) n283633 ht283551 (by decide)
          have kp283639 : F283631 q283523 = F283522 q283523 := n283633 q283523 (rn_ty htq283523 ht283551 (by decide))
          have bf283634 : gF f283634 0 1 := gF_upd hf283634 bf283576 (gB_w (gBl (show Int32.toInt 1 = 1 by decide)) (by decide) (by decide))
          have hT283640 : RS D I P283521 F283631 γ el := RS_set hT n283633 ht283551 (by decide) ⟨f283634, he283637, bf283634⟩
          exact G_vretA dr_cX17_stand_75 rfl (Nat.le_of_ble_eq_true rfl) (Nat.le_of_ble_eq_true rfl) ⟨F283631, rfl, rfl, hT283640, hs283638, (Nat.le_of_ble_eq_true rfl), (Nat.le_of_ble_eq_true rfl), (fun _ n => by rw [cB_of he283637, cB_of he283575, nmS_of he283578]; exact nm_fin false false true (decide_eq_false (show ¬ (p283579.toInt ≤ 21) by omega)) (decide_eq_false (show ¬ (p283579.toInt ≠ 20 ∧ p283579.toInt ≠ 21 ∧ p283579.toInt ≠ 30 ∧ p283584.toInt = 1) by omega)) (decide_eq_true (show (0 < p283579.toInt ∧ p283579.toInt < 20 ∧ p283585.toInt = 1) by omega)) (by rw [sd_u hf283634 (by omega) (by omega)]; simp)), kp283639, (fun R c1 c2 c3 c4 c5 c6 c7 c8 c9 c10 c11 c12 => c2 p283579 p283580 p283583 o283599 p283584 o283612 p283585 o283623 p283582 f283576 f283634 F283631 fq283591 fq283592 fq283593 bo283599 ht283601 r283603 r283605 fq283606 bo283612 ht283614 r283616 fq283617 bo283623 ht283625 r283628 fq283629 fq283630 he283575 hf283634 n283633 he283637)⟩
      · have r283641 : o283612.toInt ≠ 0 := gj_neq hc283615 (show Int32.toInt 0 = 0 by decide)
        have bo283612' : gB o283612 1 1 := gB_t1 bo283612 r283641
        refine G_aload_n 1 dr_cX17_stand_48 rfl ?_
        have fq283642 : fR (F283522 q283523) 3 = (γ 9 3) := by rw [he283528]; rfl
        refine Gp_get 3 hm283527 he283528 dr_cX17_stand_49 (gk_X17 D I) (Nat.le_of_ble_eq_true rfl) wr_7_77 rfl ?_
        refine G_aload_n 2 dr_cX17_stand_52 rfl ?_
        have fq283643 : fI (F283522 q283524) 2 = p283581 := by rw [he283578]; rfl
        refine Gp_get 2 hm283577 he283578 dr_cX17_stand_53 (gk_X15 D I) (Nat.le_of_ble_eq_true rfl) wr_9_186 rfl ?_
        refine G_iconst 1 dr_cX17_stand_56 (by decide +kernel) ?_
        refine Gp_zast 3 hm283574 he283575 dr_cX17_stand_57 rfl (gB_inr (by omega) (by omega)) (fun F283644 e283645 n283646 => ?_)
        obtain ⟨f283647, hf283647⟩ : ∃ z, z = upd f283576 p283581.toNatClampNeg (vp_nar .boolean 1) := ⟨_, rfl⟩
        rw [← hf283647] at e283645
        have he283648 : F283644 q283523 = .inr (22, [.ref (γ 9 0), .ref (γ 9 1), .ref (γ 9 2), .ref (γ 9 3), .ref (γ 9 4), .ref (γ 9 5), .ref (γ 9 6), .ref (γ 9 7), .ref (γ 9 8), .int p283531, .int p283532, .int p283533, .int p283534, .int p283535, .int p283536, .ref (γ 9 15), .ref (γ 9 16), .ref (γ 9 17), .ref (γ 9 18), .ref (γ 9 19), .ref (γ 9 20), .ref (γ 9 21), .ref (γ 9 22), .int p283537, .int p283538, .int p283539, .int p283540, .int p283541, .ref q283529, .ref (γ 9 29), .int p283542, .ref (γ 9 31), .int p283543, .int p283544, .int p283545, .ref q283530]) := (n283646 q283523 (rn_oa he283528 he283575)).trans he283528
        have he283649 : F283644 q283524 = .inr (20, [.int p283579, .int p283580, .int p283581, .int p283582, .int p283583, .int p283584, .int p283585]) := (n283646 q283524 (rn_oa he283578 he283575)).trans he283578
        have he283650 : F283644 (γ 9 3) = .inl (I .boolean, 2000, .inl f283647) := e283645
        have hs283651 : rStr γ [] F283522 F283644 := rStr_put (rStr_rf (γ := γ) (W := []) (F := F283522)) n283646 ht283551 (by decide)
        have kp283652 : F283644 q283523 = F283522 q283523 := n283646 q283523 (rn_ty htq283523 ht283551 (by decide))
        have bf283647 : gF f283647 0 1 := gF_upd hf283647 bf283576 (gB_w (gBl (show Int32.toInt 1 = 1 by decide)) (by decide) (by decide))
        refine G_aload_n 2 dr_cX17_stand_58 rfl ?_
        have hT283653 : RS D I P283521 F283644 γ el := RS_set hT n283646 ht283551 (by decide) ⟨f283647, he283650, bf283647⟩
        have fq283654 : fI (F283644 q283524) 0 = p283579 := by rw [he283649]; rfl
        have fq283655 : fI (F283644 q283524) 6 = p283585 := by rw [he283649]; rfl
        refine Gw_callV (As := []) (gV_ok D I) (cp_221909_Row_usesB l hl0 D I P283521 F283644 q283524 p283579 p283580 p283581 p283582 p283583 p283584 p283585 hm283577 he283649 bp283579 bp283580 bp283583 bp283584 bp283585) dr_cX17_stand_59 ⟨wr_10_196, wr_1_39, wr_10_199, by decide, rfl, (Nat.le_of_ble_eq_true rfl), (Nat.le_of_ble_eq_true rfl)⟩ wr_10_197 wr_10_198 hm283577 he283649 rfl (show 0 + 0 ≤ 0 by first | omega | decide) (show 0 + 0 ≤ 0 by first | omega | decide) (Nat.le_of_ble_eq_true rfl) (fun r283659 w283660 dc283656 ds283657 hp283658 => ?_) (fun _ _ _ _ _ z => z.elim)
        obtain ⟨o283661, rfl, rfl, hdc, hds, bo283661, x283662, ht283663⟩ := hp283658
        change G _ _ _ _ _ _ _ (.int o283661 :: _) _ _ _
        refine G_widen (cs' := 0) (sl' := 0) (by omega) (by omega) ?_
        refine G_if_eq 75 dr_cX17_stand_62 (by decide +kernel) (fun hc283664 => ?_) (fun hc283664 => ?_)
        · have r283665 : o283661.toInt = 0 := gj_eq hc283664 (show Int32.toInt 0 = 0 by decide)
          have bo283661' : gB o283661 0 0 := gB_t0 r283665
          exact G_vretA dr_cX17_stand_75 rfl (Nat.le_of_ble_eq_true rfl) (Nat.le_of_ble_eq_true rfl) ⟨F283644, rfl, rfl, hT283653, hs283651, (Nat.le_of_ble_eq_true rfl), (Nat.le_of_ble_eq_true rfl), (fun _ n => by rw [cB_of he283650, cB_of he283575, nmS_of he283578]; exact nm_fin false true false (decide_eq_false (show ¬ (p283579.toInt ≤ 21) by omega)) (decide_eq_true (show (p283579.toInt ≠ 20 ∧ p283579.toInt ≠ 21 ∧ p283579.toInt ≠ 30 ∧ p283584.toInt = 1) by omega)) (decide_eq_false (show ¬ (0 < p283579.toInt ∧ p283579.toInt < 20 ∧ p283585.toInt = 1) by omega)) (by rw [sd_u hf283647 (by omega) (by omega)]; simp)), kp283652, (fun R c1 c2 c3 c4 c5 c6 c7 c8 c9 c10 c11 c12 => c3 p283579 p283580 p283583 o283599 p283584 o283612 p283581 f283576 f283647 F283644 p283585 o283661 fq283591 fq283592 fq283593 bo283599 ht283601 r283603 r283605 fq283606 bo283612 ht283614 r283641 fq283642 fq283643 he283575 hf283647 n283646 he283650 fq283654 fq283655 bo283661 ht283663 r283665)⟩
        · have r283666 : o283661.toInt ≠ 0 := gj_neq hc283664 (show Int32.toInt 0 = 0 by decide)
          have bo283661' : gB o283661 1 1 := gB_t1 bo283661 r283666
          refine G_aload_n 1 dr_cX17_stand_65 rfl ?_
          have fq283667 : fR (F283644 q283523) 3 = (γ 9 3) := by rw [he283648]; rfl
          refine Gp_get 3 hm283527 he283648 dr_cX17_stand_66 (gk_X17 D I) (Nat.le_of_ble_eq_true rfl) wr_7_77 rfl ?_
          refine G_aload_n 2 dr_cX17_stand_69 rfl ?_
          have fq283668 : fI (F283644 q283524) 3 = p283582 := by rw [he283649]; rfl
          refine Gp_get 3 hm283577 he283649 dr_cX17_stand_70 (gk_X15 D I) (Nat.le_of_ble_eq_true rfl) wr_9_190 rfl ?_
          refine G_iconst 1 dr_cX17_stand_73 (by decide +kernel) ?_
          refine Gp_zast 3 hm283574 he283650 dr_cX17_stand_74 rfl (gB_inr (by omega) (by omega)) (fun F283669 e283670 n283671 => ?_)
          obtain ⟨f283672, hf283672⟩ : ∃ z, z = upd f283647 p283582.toNatClampNeg (vp_nar .boolean 1) := ⟨_, rfl⟩
          rw [← hf283672] at e283670
          have he283673 : F283669 q283523 = .inr (22, [.ref (γ 9 0), .ref (γ 9 1), .ref (γ 9 2), .ref (γ 9 3), .ref (γ 9 4), .ref (γ 9 5), .ref (γ 9 6), .ref (γ 9 7), .ref (γ 9 8), .int p283531, .int p283532, .int p283533, .int p283534, .int p283535, .int p283536, .ref (γ 9 15), .ref (γ 9 16), .ref (γ 9 17), .ref (γ 9 18), .ref (γ 9 19), .ref (γ 9 20), .ref (γ 9 21), .ref (γ 9 22), .int p283537, .int p283538, .int p283539, .int p283540, .int p283541, .ref q283529, .ref (γ 9 29), .int p283542, .ref (γ 9 31), .int p283543, .int p283544, .int p283545, .ref q283530]) := (n283671 q283523 (rn_oa he283648 he283650)).trans he283648
          have he283674 : F283669 q283524 = .inr (20, [.int p283579, .int p283580, .int p283581, .int p283582, .int p283583, .int p283584, .int p283585]) := (n283671 q283524 (rn_oa he283649 he283650)).trans he283649
          have he283675 : F283669 (γ 9 3) = .inl (I .boolean, 2000, .inl f283672) := e283670
          have hs283676 : rStr γ [] F283522 F283669 := rStr_put hs283651 n283671 ht283551 (by decide)
          have kp283677 : F283669 q283523 = F283522 q283523 := (n283671 q283523 (rn_ty htq283523 ht283551 (by decide))).trans kp283652
          have bf283672 : gF f283672 0 1 := gF_upd hf283672 bf283647 (gB_w (gBl (show Int32.toInt 1 = 1 by decide)) (by decide) (by decide))
          have hT283678 : RS D I P283521 F283669 γ el := RS_set hT283653 n283671 ht283551 (by decide) ⟨f283672, he283675, bf283672⟩
          exact G_vretA dr_cX17_stand_75 rfl (Nat.le_of_ble_eq_true rfl) (Nat.le_of_ble_eq_true rfl) ⟨F283669, rfl, rfl, hT283678, hs283676, (Nat.le_of_ble_eq_true rfl), (Nat.le_of_ble_eq_true rfl), (fun _ n => by rw [cB_of he283675, cB_of he283575, nmS_of he283578]; exact nm_fin false true true (decide_eq_false (show ¬ (p283579.toInt ≤ 21) by omega)) (decide_eq_true (show (p283579.toInt ≠ 20 ∧ p283579.toInt ≠ 21 ∧ p283579.toInt ≠ 30 ∧ p283584.toInt = 1) by omega)) (decide_eq_true (show (0 < p283579.toInt ∧ p283579.toInt < 20 ∧ p283585.toInt = 1) by omega)) (by rw [sd_u hf283672 (by omega) (by omega), sd_u hf283647 (by omega) (by omega)]; simp)), kp283677, (fun R c1 c2 c3 c4 c5 c6 c7 c8 c9 c10 c11 c12 => c4 p283579 p283580 p283583 o283599 p283584 o283612 p283581 f283576 f283647 F283644 p283585 o283661 p283582 f283672 F283669 fq283591 fq283592 fq283593 bo283599 ht283601 r283603 r283605 fq283606 bo283612 ht283614 r283641 fq283642 fq283643 he283575 hf283647 n283646 he283650 fq283654 fq283655 bo283661 ht283663 r283666 fq283667 fq283668 he283650 hf283672 n283671 he283675)⟩
    · have r283679 : p283525.toInt ≠ 0 := gj_neq hc283604 (show Int32.toInt 0 = 0 by decide)
      have bp283525' : gB p283525 1 1 := gB_t1 bp283525 r283679
      refine G_aload_n 2 dr_cX17_stand_21 rfl ?_
      refine Gp_get 0 hm283577 he283578 dr_cX17_stand_22 (gk_X15 D I) (Nat.le_of_ble_eq_true rfl) wr_9_177 rfl ?_
      refine G_bipush 21 dr_cX17_stand_25 (by decide +kernel) ?_
      refine G_icmp_ne 40 dr_cX17_stand_27 (by decide +kernel) (fun hc283680 => ?_) (fun hc283680 => ?_)
      · have r283681 : p283579.toInt ≠ 21 := gj_neq hc283680 (show Int32.toInt 21 = 21 by decide)
        exact G_vretA dr_cX17_stand_40 rfl (Nat.le_of_ble_eq_true rfl) (Nat.le_of_ble_eq_true rfl) ⟨F283522, rfl, rfl, hT, (rStr_rf (γ := γ) (W := []) (F := F283522)), (Nat.le_of_ble_eq_true rfl), (Nat.le_of_ble_eq_true rfl), (fun h => absurd h (by omega)), rfl, (fun R c1 c2 c3 c4 c5 c6 c7 c8 c9 c10 c11 c12 => c5 p283579 p283580 p283583 o283599 fq283591 fq283592 fq283593 bo283599 ht283601 r283603 r283679 r283681)⟩
      · have r283682 : p283579.toInt = 21 := gj_eq hc283680 (show Int32.toInt 21 = 21 by decide)
        have bp283579' : gB p283579 21 21 := ⟨by omega, by omega⟩
        refine G_aload_n 1 dr_cX17_stand_30 rfl ?_
        have fq283683 : fR (F283522 q283523) 3 = (γ 9 3) := by rw [he283528]; rfl
        refine Gp_get 3 hm283527 he283528 dr_cX17_stand_31 (gk_X17 D I) (Nat.le_of_ble_eq_true rfl) wr_7_77 rfl ?_
        refine G_aload_n 2 dr_cX17_stand_34 rfl ?_
        refine Gp_get 4 hm283577 he283578 dr_cX17_stand_35 (gk_X15 D I) (Nat.le_of_ble_eq_true rfl) wr_9_193 rfl ?_
        refine G_iconst 1 dr_cX17_stand_38 (by decide +kernel) ?_
        refine Gp_zast 3 hm283574 he283575 dr_cX17_stand_39 rfl (gB_in bp283583 (by decide) (by decide)) (fun F283684 e283685 n283686 => ?_)
        obtain ⟨f283687, hf283687⟩ : ∃ z, z = upd f283576 p283583.toNatClampNeg (vp_nar .boolean 1) := ⟨_, rfl⟩
        rw [← hf283687] at e283685
        have he283688 : F283684 q283523 = .inr (22, [.ref (γ 9 0), .ref (γ 9 1), .ref (γ 9 2), .ref (γ 9 3), .ref (γ 9 4), .ref (γ 9 5), .ref (γ 9 6), .ref (γ 9 7), .ref (γ 9 8), .int p283531, .int p283532, .int p283533, .int p283534, .int p283535, .int p283536, .ref (γ 9 15), .ref (γ 9 16), .ref (γ 9 17), .ref (γ 9 18), .ref (γ 9 19), .ref (γ 9 20), .ref (γ 9 21), .ref (γ 9 22), .int p283537, .int p283538, .int p283539, .int p283540, .int p283541, .ref q283529, .ref (γ 9 29), .int p283542, .ref (γ 9 31), .int p283543, .int p283544, .int p283545, .ref q283530]) := (n283686 q283523 (rn_oa he283528 he283575)).trans he283528
        have he283689 : F283684 q283524 = .inr (20, [.int p283579, .int p283580, .int p283581, .int p283582, .int p283583, .int p283584, .int p283585]) := (n283686 q283524 (rn_oa he283578 he283575)).trans he283578
        have he283690 : F283684 (γ 9 3) = .inl (I .boolean, 2000, .inl f283687) := e283685
        have hs283691 : rStr γ [] F283522 F283684 := rStr_put (rStr_rf (γ := γ) (W := []) (F := F283522)) n283686 ht283551 (by decide)
        have kp283692 : F283684 q283523 = F283522 q283523 := n283686 q283523 (rn_ty htq283523 ht283551 (by decide))
        have bf283687 : gF f283687 0 1 := gF_upd hf283687 bf283576 (gB_w (gBl (show Int32.toInt 1 = 1 by decide)) (by decide) (by decide))
        have hT283693 : RS D I P283521 F283684 γ el := RS_set hT n283686 ht283551 (by decide) ⟨f283687, he283690, bf283687⟩
        exact G_vretA dr_cX17_stand_40 rfl (Nat.le_of_ble_eq_true rfl) (Nat.le_of_ble_eq_true rfl) ⟨F283684, rfl, rfl, hT283693, hs283691, (Nat.le_of_ble_eq_true rfl), (Nat.le_of_ble_eq_true rfl), (fun h => absurd h (by omega)), kp283692, (fun R c1 c2 c3 c4 c5 c6 c7 c8 c9 c10 c11 c12 => c6 p283579 p283580 p283583 o283599 f283576 f283687 F283684 fq283591 fq283592 fq283593 bo283599 ht283601 r283603 r283679 r283682 fq283683 he283575 hf283687 n283686 he283690)⟩
  · have r283694 : 0 ≤ o283599.toInt := gj_nlt hc283602 (show Int32.toInt 0 = 0 by decide)
    have bo283599' : gB o283599 0 1999 := ⟨by omega, by omega⟩
    refine G_aload_n 1 dr_cX17_stand_10 rfl ?_
    have fq283695 : fR (F283522 q283523) 3 = (γ 9 3) := by rw [he283528]; rfl
    refine Gp_get 3 hm283527 he283528 dr_cX17_stand_11 (gk_X17 D I) (Nat.le_of_ble_eq_true rfl) wr_7_77 rfl ?_
    refine G_iload_n 0 dr_cX17_stand_14 rfl ?_
    refine G_iconst 1 dr_cX17_stand_15 (by decide +kernel) ?_
    refine Gp_zast 3 hm283574 he283575 dr_cX17_stand_16 rfl (gB_in bo283599' (by decide) (by decide)) (fun F283696 e283697 n283698 => ?_)
    obtain ⟨f283699, hf283699⟩ : ∃ z, z = upd f283576 o283599.toNatClampNeg (vp_nar .boolean 1) := ⟨_, rfl⟩
    rw [← hf283699] at e283697
    have he283700 : F283696 q283523 = .inr (22, [.ref (γ 9 0), .ref (γ 9 1), .ref (γ 9 2), .ref (γ 9 3), .ref (γ 9 4), .ref (γ 9 5), .ref (γ 9 6), .ref (γ 9 7), .ref (γ 9 8), .int p283531, .int p283532, .int p283533, .int p283534, .int p283535, .int p283536, .ref (γ 9 15), .ref (γ 9 16), .ref (γ 9 17), .ref (γ 9 18), .ref (γ 9 19), .ref (γ 9 20), .ref (γ 9 21), .ref (γ 9 22), .int p283537, .int p283538, .int p283539, .int p283540, .int p283541, .ref q283529, .ref (γ 9 29), .int p283542, .ref (γ 9 31), .int p283543, .int p283544, .int p283545, .ref q283530]) := (n283698 q283523 (rn_oa he283528 he283575)).trans he283528
    have he283701 : F283696 q283524 = .inr (20, [.int p283579, .int p283580, .int p283581, .int p283582, .int p283583, .int p283584, .int p283585]) := (n283698 q283524 (rn_oa he283578 he283575)).trans he283578
    have he283702 : F283696 (γ 9 3) = .inl (I .boolean, 2000, .inl f283699) := e283697
    have hs283703 : rStr γ [] F283522 F283696 := rStr_put (rStr_rf (γ := γ) (W := []) (F := F283522)) n283698 ht283551 (by decide)
    have kp283704 : F283696 q283523 = F283522 q283523 := n283698 q283523 (rn_ty htq283523 ht283551 (by decide))
    have bf283699 : gF f283699 0 1 := gF_upd hf283699 bf283576 (gB_w (gBl (show Int32.toInt 1 = 1 by decide)) (by decide) (by decide))
    refine G_iload_n 3 dr_cX17_stand_17 rfl ?_
    refine G_if_eq 41 dr_cX17_stand_18 (by decide +kernel) (fun hc283705 => ?_) (fun hc283705 => ?_)
    · have r283706 : p283525.toInt = 0 := gj_eq hc283705 (show Int32.toInt 0 = 0 by decide)
      have bp283525' : gB p283525 0 0 := gB_t0 r283706
      refine G_aload_n 2 dr_cX17_stand_41 rfl ?_
      have hT283707 : RS D I P283521 F283696 γ el := RS_set hT n283698 ht283551 (by decide) ⟨f283699, he283702, bf283699⟩
      have fq283708 : fI (F283696 q283524) 0 = p283579 := by rw [he283701]; rfl
      have fq283709 : fI (F283696 q283524) 5 = p283584 := by rw [he283701]; rfl
      refine Gw_callV (As := []) (gV_ok D I) (cp_221885_Row_usesA l hl0 D I P283521 F283696 q283524 p283579 p283580 p283581 p283582 p283583 p283584 p283585 hm283577 he283701 bp283579 bp283580 bp283583 bp283584 bp283585) dr_cX17_stand_42 ⟨wr_10_192, wr_1_39, wr_10_195, by decide, rfl, (Nat.le_of_ble_eq_true rfl), (Nat.le_of_ble_eq_true rfl)⟩ wr_10_193 wr_10_194 hm283577 he283701 rfl (show 0 + 0 ≤ 0 by first | omega | decide) (show 0 + 0 ≤ 0 by first | omega | decide) (Nat.le_of_ble_eq_true rfl) (fun r283713 w283714 dc283710 ds283711 hp283712 => ?_) (fun _ _ _ _ _ z => z.elim)
      obtain ⟨o283715, rfl, rfl, hdc, hds, bo283715, x283716, ht283717⟩ := hp283712
      change G _ _ _ _ _ _ _ (.int o283715 :: _) _ _ _
      refine G_widen (cs' := 0) (sl' := 0) (by omega) (by omega) ?_
      refine G_if_eq 58 dr_cX17_stand_45 (by decide +kernel) (fun hc283718 => ?_) (fun hc283718 => ?_)
      · have r283719 : o283715.toInt = 0 := gj_eq hc283718 (show Int32.toInt 0 = 0 by decide)
        have bo283715' : gB o283715 0 0 := gB_t0 r283719
        refine G_aload_n 2 dr_cX17_stand_58 rfl ?_
        have fq283720 : fI (F283696 q283524) 6 = p283585 := by rw [he283701]; rfl
        refine Gw_callV (As := []) (gV_ok D I) (cp_221909_Row_usesB l hl0 D I P283521 F283696 q283524 p283579 p283580 p283581 p283582 p283583 p283584 p283585 hm283577 he283701 bp283579 bp283580 bp283583 bp283584 bp283585) dr_cX17_stand_59 ⟨wr_10_196, wr_1_39, wr_10_199, by decide, rfl, (Nat.le_of_ble_eq_true rfl), (Nat.le_of_ble_eq_true rfl)⟩ wr_10_197 wr_10_198 hm283577 he283701 rfl (show 0 + 0 ≤ 0 by first | omega | decide) (show 0 + 0 ≤ 0 by first | omega | decide) (Nat.le_of_ble_eq_true rfl) (fun r283724 w283725 dc283721 ds283722 hp283723 => ?_) (fun _ _ _ _ _ z => z.elim)
        obtain ⟨o283726, rfl, rfl, hdc, hds, bo283726, x283727, ht283728⟩ := hp283723
        change G _ _ _ _ _ _ _ (.int o283726 :: _) _ _ _
        refine G_widen (cs' := 0) (sl' := 0) (by omega) (by omega) ?_
        refine G_if_eq 75 dr_cX17_stand_62 (by decide +kernel) (fun hc283729 => ?_) (fun hc283729 => ?_)
        · have r283730 : o283726.toInt = 0 := gj_eq hc283729 (show Int32.toInt 0 = 0 by decide)
          have bo283726' : gB o283726 0 0 := gB_t0 r283730
          exact G_vretA dr_cX17_stand_75 rfl (Nat.le_of_ble_eq_true rfl) (Nat.le_of_ble_eq_true rfl) ⟨F283696, rfl, rfl, hT283707, hs283703, (Nat.le_of_ble_eq_true rfl), (Nat.le_of_ble_eq_true rfl), (fun _ n => by rw [cB_of he283702, cB_of he283575, nmS_of he283578]; exact nm_fin true false false (decide_eq_true (show (p283579.toInt ≤ 21) by omega)) (decide_eq_false (show ¬ (p283579.toInt ≠ 20 ∧ p283579.toInt ≠ 21 ∧ p283579.toInt ≠ 30 ∧ p283584.toInt = 1) by omega)) (decide_eq_false (show ¬ (0 < p283579.toInt ∧ p283579.toInt < 20 ∧ p283585.toInt = 1) by omega)) (by rw [sd_u hf283699 (by omega) (by omega), show o283599.toInt = p283580.toInt by omega]; simp)), kp283704, (fun R c1 c2 c3 c4 c5 c6 c7 c8 c9 c10 c11 c12 => c7 p283579 p283580 p283583 o283599 f283576 f283699 F283696 p283584 o283715 p283585 o283726 fq283591 fq283592 fq283593 bo283599 ht283601 r283694 fq283695 he283575 hf283699 n283698 he283702 r283706 fq283708 fq283709 bo283715 ht283717 r283719 fq283720 bo283726 ht283728 r283730)⟩
        · have r283731 : o283726.toInt ≠ 0 := gj_neq hc283729 (show Int32.toInt 0 = 0 by decide)
          have bo283726' : gB o283726 1 1 := gB_t1 bo283726 r283731
          refine G_aload_n 1 dr_cX17_stand_65 rfl ?_
          have fq283732 : fR (F283696 q283523) 3 = (γ 9 3) := by rw [he283700]; rfl
          refine Gp_get 3 hm283527 he283700 dr_cX17_stand_66 (gk_X17 D I) (Nat.le_of_ble_eq_true rfl) wr_7_77 rfl ?_
          refine G_aload_n 2 dr_cX17_stand_69 rfl ?_
          have fq283733 : fI (F283696 q283524) 3 = p283582 := by rw [he283701]; rfl
          refine Gp_get 3 hm283577 he283701 dr_cX17_stand_70 (gk_X15 D I) (Nat.le_of_ble_eq_true rfl) wr_9_190 rfl ?_
          refine G_iconst 1 dr_cX17_stand_73 (by decide +kernel) ?_
          refine Gp_zast 3 hm283574 he283702 dr_cX17_stand_74 rfl (gB_inr (by omega) (by omega)) (fun F283734 e283735 n283736 => ?_)
          obtain ⟨f283737, hf283737⟩ : ∃ z, z = upd f283699 p283582.toNatClampNeg (vp_nar .boolean 1) := ⟨_, rfl⟩
          rw [← hf283737] at e283735
          have he283738 : F283734 q283523 = .inr (22, [.ref (γ 9 0), .ref (γ 9 1), .ref (γ 9 2), .ref (γ 9 3), .ref (γ 9 4), .ref (γ 9 5), .ref (γ 9 6), .ref (γ 9 7), .ref (γ 9 8), .int p283531, .int p283532, .int p283533, .int p283534, .int p283535, .int p283536, .ref (γ 9 15), .ref (γ 9 16), .ref (γ 9 17), .ref (γ 9 18), .ref (γ 9 19), .ref (γ 9 20), .ref (γ 9 21), .ref (γ 9 22), .int p283537, .int p283538, .int p283539, .int p283540, .int p283541, .ref q283529, .ref (γ 9 29), .int p283542, .ref (γ 9 31), .int p283543, .int p283544, .int p283545, .ref q283530]) := (n283736 q283523 (rn_oa he283700 he283702)).trans he283700
          have he283739 : F283734 q283524 = .inr (20, [.int p283579, .int p283580, .int p283581, .int p283582, .int p283583, .int p283584, .int p283585]) := (n283736 q283524 (rn_oa he283701 he283702)).trans he283701
          have he283740 : F283734 (γ 9 3) = .inl (I .boolean, 2000, .inl f283737) := e283735
          have hs283741 : rStr γ [] F283522 F283734 := rStr_put hs283703 n283736 ht283551 (by decide)
          have kp283742 : F283734 q283523 = F283522 q283523 := (n283736 q283523 (rn_ty htq283523 ht283551 (by decide))).trans kp283704
          have bf283737 : gF f283737 0 1 := gF_upd hf283737 bf283699 (gB_w (gBl (show Int32.toInt 1 = 1 by decide)) (by decide) (by decide))
          have hT283743 : RS D I P283521 F283734 γ el := RS_set hT283707 n283736 ht283551 (by decide) ⟨f283737, he283740, bf283737⟩
          exact G_vretA dr_cX17_stand_75 rfl (Nat.le_of_ble_eq_true rfl) (Nat.le_of_ble_eq_true rfl) ⟨F283734, rfl, rfl, hT283743, hs283741, (Nat.le_of_ble_eq_true rfl), (Nat.le_of_ble_eq_true rfl), (fun _ n => by rw [cB_of he283740, cB_of he283575, nmS_of he283578]; exact nm_fin true false true (decide_eq_true (show (p283579.toInt ≤ 21) by omega)) (decide_eq_false (show ¬ (p283579.toInt ≠ 20 ∧ p283579.toInt ≠ 21 ∧ p283579.toInt ≠ 30 ∧ p283584.toInt = 1) by omega)) (decide_eq_true (show (0 < p283579.toInt ∧ p283579.toInt < 20 ∧ p283585.toInt = 1) by omega)) (by rw [sd_u hf283737 (by omega) (by omega), sd_u hf283699 (by omega) (by omega), show o283599.toInt = p283580.toInt by omega]; simp)), kp283742, (fun R c1 c2 c3 c4 c5 c6 c7 c8 c9 c10 c11 c12 => c8 p283579 p283580 p283583 o283599 f283576 f283699 F283696 p283584 o283715 p283585 o283726 p283582 f283737 F283734 fq283591 fq283592 fq283593 bo283599 ht283601 r283694 fq283695 he283575 hf283699 n283698 he283702 r283706 fq283708 fq283709 bo283715 ht283717 r283719 fq283720 bo283726 ht283728 r283731 fq283732 fq283733 he283702 hf283737 n283736 he283740)⟩
      · have r283744 : o283715.toInt ≠ 0 := gj_neq hc283718 (show Int32.toInt 0 = 0 by decide)
        have bo283715' : gB o283715 1 1 := gB_t1 bo283715 r283744
        refine G_aload_n 1 dr_cX17_stand_48 rfl ?_
        have fq283745 : fR (F283696 q283523) 3 = (γ 9 3) := by rw [he283700]; rfl
        refine Gp_get 3 hm283527 he283700 dr_cX17_stand_49 (gk_X17 D I) (Nat.le_of_ble_eq_true rfl) wr_7_77 rfl ?_
        refine G_aload_n 2 dr_cX17_stand_52 rfl ?_
        have fq283746 : fI (F283696 q283524) 2 = p283581 := by rw [he283701]; rfl
        refine Gp_get 2 hm283577 he283701 dr_cX17_stand_53 (gk_X15 D I) (Nat.le_of_ble_eq_true rfl) wr_9_186 rfl ?_
        refine G_iconst 1 dr_cX17_stand_56 (by decide +kernel) ?_
        refine Gp_zast 3 hm283574 he283702 dr_cX17_stand_57 rfl (gB_inr (by omega) (by omega)) (fun F283747 e283748 n283749 => ?_)
        obtain ⟨f283750, hf283750⟩ : ∃ z, z = upd f283699 p283581.toNatClampNeg (vp_nar .boolean 1) := ⟨_, rfl⟩
        rw [← hf283750] at e283748
        have he283751 : F283747 q283523 = .inr (22, [.ref (γ 9 0), .ref (γ 9 1), .ref (γ 9 2), .ref (γ 9 3), .ref (γ 9 4), .ref (γ 9 5), .ref (γ 9 6), .ref (γ 9 7), .ref (γ 9 8), .int p283531, .int p283532, .int p283533, .int p283534, .int p283535, .int p283536, .ref (γ 9 15), .ref (γ 9 16), .ref (γ 9 17), .ref (γ 9 18), .ref (γ 9 19), .ref (γ 9 20), .ref (γ 9 21), .ref (γ 9 22), .int p283537, .int p283538, .int p283539, .int p283540, .int p283541, .ref q283529, .ref (γ 9 29), .int p283542, .ref (γ 9 31), .int p283543, .int p283544, .int p283545, .ref q283530]) := (n283749 q283523 (rn_oa he283700 he283702)).trans he283700
        have he283752 : F283747 q283524 = .inr (20, [.int p283579, .int p283580, .int p283581, .int p283582, .int p283583, .int p283584, .int p283585]) := (n283749 q283524 (rn_oa he283701 he283702)).trans he283701
        have he283753 : F283747 (γ 9 3) = .inl (I .boolean, 2000, .inl f283750) := e283748
        have hs283754 : rStr γ [] F283522 F283747 := rStr_put hs283703 n283749 ht283551 (by decide)
        have kp283755 : F283747 q283523 = F283522 q283523 := (n283749 q283523 (rn_ty htq283523 ht283551 (by decide))).trans kp283704
        have bf283750 : gF f283750 0 1 := gF_upd hf283750 bf283699 (gB_w (gBl (show Int32.toInt 1 = 1 by decide)) (by decide) (by decide))
        refine G_aload_n 2 dr_cX17_stand_58 rfl ?_
        have hT283756 : RS D I P283521 F283747 γ el := RS_set hT283707 n283749 ht283551 (by decide) ⟨f283750, he283753, bf283750⟩
        have fq283757 : fI (F283747 q283524) 0 = p283579 := by rw [he283752]; rfl
        have fq283758 : fI (F283747 q283524) 6 = p283585 := by rw [he283752]; rfl
        refine Gw_callV (As := []) (gV_ok D I) (cp_221909_Row_usesB l hl0 D I P283521 F283747 q283524 p283579 p283580 p283581 p283582 p283583 p283584 p283585 hm283577 he283752 bp283579 bp283580 bp283583 bp283584 bp283585) dr_cX17_stand_59 ⟨wr_10_196, wr_1_39, wr_10_199, by decide, rfl, (Nat.le_of_ble_eq_true rfl), (Nat.le_of_ble_eq_true rfl)⟩ wr_10_197 wr_10_198 hm283577 he283752 rfl (show 0 + 0 ≤ 0 by first | omega | decide) (show 0 + 0 ≤ 0 by first | omega | decide) (Nat.le_of_ble_eq_true rfl) (fun r283762 w283763 dc283759 ds283760 hp283761 => ?_) (fun _ _ _ _ _ z => z.elim)
        obtain ⟨o283764, rfl, rfl, hdc, hds, bo283764, x283765, ht283766⟩ := hp283761
        change G _ _ _ _ _ _ _ (.int o283764 :: _) _ _ _
        refine G_widen (cs' := 0) (sl' := 0) (by omega) (by omega) ?_
        refine G_if_eq 75 dr_cX17_stand_62 (by decide +kernel) (fun hc283767 => ?_) (fun hc283767 => ?_)
        · have r283768 : o283764.toInt = 0 := gj_eq hc283767 (show Int32.toInt 0 = 0 by decide)
          have bo283764' : gB o283764 0 0 := gB_t0 r283768
          exact G_vretA dr_cX17_stand_75 rfl (Nat.le_of_ble_eq_true rfl) (Nat.le_of_ble_eq_true rfl) ⟨F283747, rfl, rfl, hT283756, hs283754, (Nat.le_of_ble_eq_true rfl), (Nat.le_of_ble_eq_true rfl), (fun _ n => by rw [cB_of he283753, cB_of he283575, nmS_of he283578]; exact nm_fin true true false (decide_eq_true (show (p283579.toInt ≤ 21) by omega)) (decide_eq_true (show (p283579.toInt ≠ 20 ∧ p283579.toInt ≠ 21 ∧ p283579.toInt ≠ 30 ∧ p283584.toInt = 1) by omega)) (decide_eq_false (show ¬ (0 < p283579.toInt ∧ p283579.toInt < 20 ∧ p283585.toInt = 1) by omega)) (by rw [sd_u hf283750 (by omega) (by omega), sd_u hf283699 (by omega) (by omega), show o283599.toInt = p283580.toInt by omega]; simp)), kp283755, (fun R c1 c2 c3 c4 c5 c6 c7 c8 c9 c10 c11 c12 => c9 p283579 p283580 p283583 o283599 f283576 f283699 F283696 p283584 o283715 p283581 f283750 F283747 p283585 o283764 fq283591 fq283592 fq283593 bo283599 ht283601 r283694 fq283695 he283575 hf283699 n283698 he283702 r283706 fq283708 fq283709 bo283715 ht283717 r283744 fq283745 fq283746 he283702 hf283750 n283749 he283753 fq283757 fq283758 bo283764 ht283766 r283768)⟩
        · have r283769 : o283764.toInt ≠ 0 := gj_neq hc283767 (show Int32.toInt 0 = 0 by decide)
          have bo283764' : gB o283764 1 1 := gB_t1 bo283764 r283769
          refine G_aload_n 1 dr_cX17_stand_65 rfl ?_
          have fq283770 : fR (F283747 q283523) 3 = (γ 9 3) := by rw [he283751]; rfl
          refine Gp_get 3 hm283527 he283751 dr_cX17_stand_66 (gk_X17 D I) (Nat.le_of_ble_eq_true rfl) wr_7_77 rfl ?_
          refine G_aload_n 2 dr_cX17_stand_69 rfl ?_
          have fq283771 : fI (F283747 q283524) 3 = p283582 := by rw [he283752]; rfl
          refine Gp_get 3 hm283577 he283752 dr_cX17_stand_70 (gk_X15 D I) (Nat.le_of_ble_eq_true rfl) wr_9_190 rfl ?_
          refine G_iconst 1 dr_cX17_stand_73 (by decide +kernel) ?_
          refine Gp_zast 3 hm283574 he283753 dr_cX17_stand_74 rfl (gB_inr (by omega) (by omega)) (fun F283772 e283773 n283774 => ?_)
          obtain ⟨f283775, hf283775⟩ : ∃ z, z = upd f283750 p283582.toNatClampNeg (vp_nar .boolean 1) := ⟨_, rfl⟩
          rw [← hf283775] at e283773
          have he283776 : F283772 q283523 = .inr (22, [.ref (γ 9 0), .ref (γ 9 1), .ref (γ 9 2), .ref (γ 9 3), .ref (γ 9 4), .ref (γ 9 5), .ref (γ 9 6), .ref (γ 9 7), .ref (γ 9 8), .int p283531, .int p283532, .int p283533, .int p283534, .int p283535, .int p283536, .ref (γ 9 15), .ref (γ 9 16), .ref (γ 9 17), .ref (γ 9 18), .ref (γ 9 19), .ref (γ 9 20), .ref (γ 9 21), .ref (γ 9 22), .int p283537, .int p283538, .int p283539, .int p283540, .int p283541, .ref q283529, .ref (γ 9 29), .int p283542, .ref (γ 9 31), .int p283543, .int p283544, .int p283545, .ref q283530]) := (n283774 q283523 (rn_oa he283751 he283753)).trans he283751
          have he283777 : F283772 q283524 = .inr (20, [.int p283579, .int p283580, .int p283581, .int p283582, .int p283583, .int p283584, .int p283585]) := (n283774 q283524 (rn_oa he283752 he283753)).trans he283752
          have he283778 : F283772 (γ 9 3) = .inl (I .boolean, 2000, .inl f283775) := e283773
          have hs283779 : rStr γ [] F283522 F283772 := rStr_put hs283754 n283774 ht283551 (by decide)
          have kp283780 : F283772 q283523 = F283522 q283523 := (n283774 q283523 (rn_ty htq283523 ht283551 (by decide))).trans kp283755
          have bf283775 : gF f283775 0 1 := gF_upd hf283775 bf283750 (gB_w (gBl (show Int32.toInt 1 = 1 by decide)) (by decide) (by decide))
          have hT283781 : RS D I P283521 F283772 γ el := RS_set hT283756 n283774 ht283551 (by decide) ⟨f283775, he283778, bf283775⟩
          exact G_vretA dr_cX17_stand_75 rfl (Nat.le_of_ble_eq_true rfl) (Nat.le_of_ble_eq_true rfl) ⟨F283772, rfl, rfl, hT283781, hs283779, (Nat.le_of_ble_eq_true rfl), (Nat.le_of_ble_eq_true rfl), (fun _ n => by rw [cB_of he283778, cB_of he283575, nmS_of he283578]; exact nm_fin true true true (decide_eq_true (show (p283579.toInt ≤ 21) by omega)) (decide_eq_true (show (p283579.toInt ≠ 20 ∧ p283579.toInt ≠ 21 ∧ p283579.toInt ≠ 30 ∧ p283584.toInt = 1) by omega)) (decide_eq_true (show (0 < p283579.toInt ∧ p283579.toInt < 20 ∧ p283585.toInt = 1) by omega)) (by rw [sd_u hf283775 (by omega) (by omega), sd_u hf283750 (by omega) (by omega), sd_u hf283699 (by omega) (by omega), show o283599.toInt = p283580.toInt by omega]; simp)), kp283780, (fun R c1 c2 c3 c4 c5 c6 c7 c8 c9 c10 c11 c12 => c10 p283579 p283580 p283583 o283599 f283576 f283699 F283696 p283584 o283715 p283581 f283750 F283747 p283585 o283764 p283582 f283775 F283772 fq283591 fq283592 fq283593 bo283599 ht283601 r283694 fq283695 he283575 hf283699 n283698 he283702 r283706 fq283708 fq283709 bo283715 ht283717 r283744 fq283745 fq283746 he283702 hf283750 n283749 he283753 fq283757 fq283758 bo283764 ht283766 r283769 fq283770 fq283771 he283753 hf283775 n283774 he283778)⟩
    · have r283782 : p283525.toInt ≠ 0 := gj_neq hc283705 (show Int32.toInt 0 = 0 by decide)
      have bp283525' : gB p283525 1 1 := gB_t1 bp283525 r283782
      refine G_aload_n 2 dr_cX17_stand_21 rfl ?_
      have fq283783 : fI (F283696 q283524) 0 = p283579 := by rw [he283701]; rfl
      refine Gp_get 0 hm283577 he283701 dr_cX17_stand_22 (gk_X15 D I) (Nat.le_of_ble_eq_true rfl) wr_9_177 rfl ?_
      refine G_bipush 21 dr_cX17_stand_25 (by decide +kernel) ?_
      refine G_icmp_ne 40 dr_cX17_stand_27 (by decide +kernel) (fun hc283784 => ?_) (fun hc283784 => ?_)
      · have r283785 : p283579.toInt ≠ 21 := gj_neq hc283784 (show Int32.toInt 21 = 21 by decide)
        have hT283786 : RS D I P283521 F283696 γ el := RS_set hT n283698 ht283551 (by decide) ⟨f283699, he283702, bf283699⟩
        exact G_vretA dr_cX17_stand_40 rfl (Nat.le_of_ble_eq_true rfl) (Nat.le_of_ble_eq_true rfl) ⟨F283696, rfl, rfl, hT283786, hs283703, (Nat.le_of_ble_eq_true rfl), (Nat.le_of_ble_eq_true rfl), (fun h => absurd h (by omega)), kp283704, (fun R c1 c2 c3 c4 c5 c6 c7 c8 c9 c10 c11 c12 => c11 p283579 p283580 p283583 o283599 f283576 f283699 F283696 fq283591 fq283592 fq283593 bo283599 ht283601 r283694 fq283695 he283575 hf283699 n283698 he283702 r283782 fq283783 r283785)⟩
      · have r283787 : p283579.toInt = 21 := gj_eq hc283784 (show Int32.toInt 21 = 21 by decide)
        have bp283579' : gB p283579 21 21 := ⟨by omega, by omega⟩
        refine G_aload_n 1 dr_cX17_stand_30 rfl ?_
        have fq283788 : fR (F283696 q283523) 3 = (γ 9 3) := by rw [he283700]; rfl
        refine Gp_get 3 hm283527 he283700 dr_cX17_stand_31 (gk_X17 D I) (Nat.le_of_ble_eq_true rfl) wr_7_77 rfl ?_
        refine G_aload_n 2 dr_cX17_stand_34 rfl ?_
        have fq283789 : fI (F283696 q283524) 4 = p283583 := by rw [he283701]; rfl
        refine Gp_get 4 hm283577 he283701 dr_cX17_stand_35 (gk_X15 D I) (Nat.le_of_ble_eq_true rfl) wr_9_193 rfl ?_
        refine G_iconst 1 dr_cX17_stand_38 (by decide +kernel) ?_
        refine Gp_zast 3 hm283574 he283702 dr_cX17_stand_39 rfl (gB_in bp283583 (by decide) (by decide)) (fun F283790 e283791 n283792 => ?_)
        obtain ⟨f283793, hf283793⟩ : ∃ z, z = upd f283699 p283583.toNatClampNeg (vp_nar .boolean 1) := ⟨_, rfl⟩
        rw [← hf283793] at e283791
        have he283794 : F283790 q283523 = .inr (22, [.ref (γ 9 0), .ref (γ 9 1), .ref (γ 9 2), .ref (γ 9 3), .ref (γ 9 4), .ref (γ 9 5), .ref (γ 9 6), .ref (γ 9 7), .ref (γ 9 8), .int p283531, .int p283532, .int p283533, .int p283534, .int p283535, .int p283536, .ref (γ 9 15), .ref (γ 9 16), .ref (γ 9 17), .ref (γ 9 18), .ref (γ 9 19), .ref (γ 9 20), .ref (γ 9 21), .ref (γ 9 22), .int p283537, .int p283538, .int p283539, .int p283540, .int p283541, .ref q283529, .ref (γ 9 29), .int p283542, .ref (γ 9 31), .int p283543, .int p283544, .int p283545, .ref q283530]) := (n283792 q283523 (rn_oa he283700 he283702)).trans he283700
        have he283795 : F283790 q283524 = .inr (20, [.int p283579, .int p283580, .int p283581, .int p283582, .int p283583, .int p283584, .int p283585]) := (n283792 q283524 (rn_oa he283701 he283702)).trans he283701
        have he283796 : F283790 (γ 9 3) = .inl (I .boolean, 2000, .inl f283793) := e283791
        have hs283797 : rStr γ [] F283522 F283790 := rStr_put hs283703 n283792 ht283551 (by decide)
        have n283798 : ∀ b, b ≠ (γ 9 3) → F283790 b = F283522 b := fun b hb => (n283792 b hb).trans (n283698 b hb)
        have kp283799 : F283790 q283523 = F283522 q283523 := (n283792 q283523 (rn_ty htq283523 ht283551 (by decide))).trans kp283704
        have bf283793 : gF f283793 0 1 := gF_upd hf283793 bf283699 (gB_w (gBl (show Int32.toInt 1 = 1 by decide)) (by decide) (by decide))
        have hT283800 : RS D I P283521 F283790 γ el := RS_set hT n283798 ht283551 (by decide) ⟨f283793, he283796, bf283793⟩
        exact G_vretA dr_cX17_stand_40 rfl (Nat.le_of_ble_eq_true rfl) (Nat.le_of_ble_eq_true rfl) ⟨F283790, rfl, rfl, hT283800, hs283797, (Nat.le_of_ble_eq_true rfl), (Nat.le_of_ble_eq_true rfl), (fun h => absurd h (by omega)), kp283799, (fun R c1 c2 c3 c4 c5 c6 c7 c8 c9 c10 c11 c12 => c12 p283579 p283580 p283583 o283599 f283576 f283699 F283696 f283793 F283790 fq283591 fq283592 fq283593 bo283599 ht283601 r283694 fq283695 he283575 hf283699 n283698 he283702 r283782 fq283783 r283787 fq283788 fq283789 he283702 hf283793 n283792 he283796)⟩
/- tr_RModel_back3: F -/
def tr_RModel_back3 (D : va_G) (I : FieldType → ClassId) (γ el : Nat → Nat → Nat) (P : List Nat) (F : Nat → va_E) (q0 : Nat) (q1 : Nat) (a2 : Int32) (o1 : Nat → va_E) : Prop := ∀ R : (Nat → va_E) → Prop,
  (∀ (x1 : Int32) (x2 : Int32) (x3 : Int32) (x4 : Int32) (x5 : Int32) (x6 : Int32) (x7 : Int32) (x8 : Int32), fI (F q1) 0 = x1 → fI (F q1) 1 = x2 → fI (F q1) 4 = x3 → gB x4 (-1) 1999 → tr_RModel_setOf a2 x1 x2 x3 x4 → x4.toInt < 0 → a2.toInt = 0 → fI (F q1) 5 = x5 → gB x6 0 1 → tr_RRow_usesA x1 x5 x6 → x6.toInt = 0 → fI (F q1) 6 = x7 → gB x8 0 1 → tr_RRow_usesB x1 x7 x8 → x8.toInt = 0 → R F) →
  (∀ (x1 : Int32) (x2 : Int32) (x3 : Int32) (x4 : Int32) (x5 : Int32) (x6 : Int32) (x7 : Int32) (x8 : Int32) (x9 : Int32) (x10 : Nat → Int64) (x11 : Nat → Int64) (x12 : Nat → va_E), fI (F q1) 0 = x1 → fI (F q1) 1 = x2 → fI (F q1) 4 = x3 → gB x4 (-1) 1999 → tr_RModel_setOf a2 x1 x2 x3 x4 → x4.toInt < 0 → a2.toInt = 0 → fI (F q1) 5 = x5 → gB x6 0 1 → tr_RRow_usesA x1 x5 x6 → x6.toInt = 0 → fI (F q1) 6 = x7 → gB x8 0 1 → tr_RRow_usesB x1 x7 x8 → x8.toInt ≠ 0 → fR (F q0) 2 = (γ 9 2) → fI (F q1) 3 = x9 → F (γ 9 2) = .inl (I .long, 32, .inr (.inl x10)) → tr_RModel_set x9 x10 x11 → rFr [(γ 9 2)] P F x12 → x12 (γ 9 2) = .inl (I .long, 32, .inr (.inl x11)) → RS D I P x12 γ el → R x12) →
  (∀ (x1 : Int32) (x2 : Int32) (x3 : Int32) (x4 : Int32) (x5 : Int32) (x6 : Int32) (x7 : Int32) (x8 : Nat → Int64) (x9 : Nat → Int64) (x10 : Nat → va_E) (x11 : Int32) (x12 : Int32), fI (F q1) 0 = x1 → fI (F q1) 1 = x2 → fI (F q1) 4 = x3 → gB x4 (-1) 1999 → tr_RModel_setOf a2 x1 x2 x3 x4 → x4.toInt < 0 → a2.toInt = 0 → fI (F q1) 5 = x5 → gB x6 0 1 → tr_RRow_usesA x1 x5 x6 → x6.toInt ≠ 0 → fR (F q0) 2 = (γ 9 2) → fI (F q1) 2 = x7 → F (γ 9 2) = .inl (I .long, 32, .inr (.inl x8)) → tr_RModel_set x7 x8 x9 → rFr [(γ 9 2)] P F x10 → x10 (γ 9 2) = .inl (I .long, 32, .inr (.inl x9)) → RS D I P x10 γ el → fI (x10 q1) 0 = x1 → fI (x10 q1) 6 = x11 → gB x12 0 1 → tr_RRow_usesB x1 x11 x12 → x12.toInt = 0 → R x10) →
  (∀ (x1 : Int32) (x2 : Int32) (x3 : Int32) (x4 : Int32) (x5 : Int32) (x6 : Int32) (x7 : Int32) (x8 : Nat → Int64) (x9 : Nat → Int64) (x10 : Nat → va_E) (x11 : Int32) (x12 : Int32) (x13 : Int32) (x14 : Nat → Int64) (x15 : Nat → va_E), fI (F q1) 0 = x1 → fI (F q1) 1 = x2 → fI (F q1) 4 = x3 → gB x4 (-1) 1999 → tr_RModel_setOf a2 x1 x2 x3 x4 → x4.toInt < 0 → a2.toInt = 0 → fI (F q1) 5 = x5 → gB x6 0 1 → tr_RRow_usesA x1 x5 x6 → x6.toInt ≠ 0 → fR (F q0) 2 = (γ 9 2) → fI (F q1) 2 = x7 → F (γ 9 2) = .inl (I .long, 32, .inr (.inl x8)) → tr_RModel_set x7 x8 x9 → rFr [(γ 9 2)] P F x10 → x10 (γ 9 2) = .inl (I .long, 32, .inr (.inl x9)) → RS D I P x10 γ el → fI (x10 q1) 0 = x1 → fI (x10 q1) 6 = x11 → gB x12 0 1 → tr_RRow_usesB x1 x11 x12 → x12.toInt ≠ 0 → fR (x10 q0) 2 = (γ 9 2) → fI (x10 q1) 3 = x13 → x10 (γ 9 2) = .inl (I .long, 32, .inr (.inl x9)) → tr_RModel_set x13 x9 x14 → rFr [(γ 9 2)] P x10 x15 → x15 (γ 9 2) = .inl (I .long, 32, .inr (.inl x14)) → RS D I P x15 γ el → R x15) →
  (∀ (x1 : Int32) (x2 : Int32) (x3 : Int32) (x4 : Int32), fI (F q1) 0 = x1 → fI (F q1) 1 = x2 → fI (F q1) 4 = x3 → gB x4 (-1) 1999 → tr_RModel_setOf a2 x1 x2 x3 x4 → x4.toInt < 0 → a2.toInt ≠ 0 → x1.toInt ≠ 21 → R F) →
  (∀ (x1 : Int32) (x2 : Int32) (x3 : Int32) (x4 : Int32) (x5 : Nat → Int64) (x6 : Nat → Int64) (x7 : Nat → va_E), fI (F q1) 0 = x1 → fI (F q1) 1 = x2 → fI (F q1) 4 = x3 → gB x4 (-1) 1999 → tr_RModel_setOf a2 x1 x2 x3 x4 → x4.toInt < 0 → a2.toInt ≠ 0 → x1.toInt = 21 → fR (F q0) 2 = (γ 9 2) → F (γ 9 2) = .inl (I .long, 32, .inr (.inl x5)) → tr_RModel_set x3 x5 x6 → rFr [(γ 9 2)] P F x7 → x7 (γ 9 2) = .inl (I .long, 32, .inr (.inl x6)) → RS D I P x7 γ el → R x7) →
  (∀ (x1 : Int32) (x2 : Int32) (x3 : Int32) (x4 : Int32) (x5 : Nat → Int64) (x6 : Nat → Int64) (x7 : Nat → va_E) (x8 : Int32) (x9 : Int32) (x10 : Int32) (x11 : Int32), fI (F q1) 0 = x1 → fI (F q1) 1 = x2 → fI (F q1) 4 = x3 → gB x4 (-1) 1999 → tr_RModel_setOf a2 x1 x2 x3 x4 → 0 ≤ x4.toInt → fR (F q0) 2 = (γ 9 2) → F (γ 9 2) = .inl (I .long, 32, .inr (.inl x5)) → tr_RModel_clear x4 x5 x6 → rFr [(γ 9 2)] P F x7 → x7 (γ 9 2) = .inl (I .long, 32, .inr (.inl x6)) → RS D I P x7 γ el → a2.toInt = 0 → fI (x7 q1) 0 = x1 → fI (x7 q1) 5 = x8 → gB x9 0 1 → tr_RRow_usesA x1 x8 x9 → x9.toInt = 0 → fI (x7 q1) 6 = x10 → gB x11 0 1 → tr_RRow_usesB x1 x10 x11 → x11.toInt = 0 → R x7) →
  (∀ (x1 : Int32) (x2 : Int32) (x3 : Int32) (x4 : Int32) (x5 : Nat → Int64) (x6 : Nat → Int64) (x7 : Nat → va_E) (x8 : Int32) (x9 : Int32) (x10 : Int32) (x11 : Int32) (x12 : Int32) (x13 : Nat → Int64) (x14 : Nat → va_E), fI (F q1) 0 = x1 → fI (F q1) 1 = x2 → fI (F q1) 4 = x3 → gB x4 (-1) 1999 → tr_RModel_setOf a2 x1 x2 x3 x4 → 0 ≤ x4.toInt → fR (F q0) 2 = (γ 9 2) → F (γ 9 2) = .inl (I .long, 32, .inr (.inl x5)) → tr_RModel_clear x4 x5 x6 → rFr [(γ 9 2)] P F x7 → x7 (γ 9 2) = .inl (I .long, 32, .inr (.inl x6)) → RS D I P x7 γ el → a2.toInt = 0 → fI (x7 q1) 0 = x1 → fI (x7 q1) 5 = x8 → gB x9 0 1 → tr_RRow_usesA x1 x8 x9 → x9.toInt = 0 → fI (x7 q1) 6 = x10 → gB x11 0 1 → tr_RRow_usesB x1 x10 x11 → x11.toInt ≠ 0 → fR (x7 q0) 2 = (γ 9 2) → fI (x7 q1) 3 = x12 → x7 (γ 9 2) = .inl (I .long, 32, .inr (.inl x6)) → tr_RModel_set x12 x6 x13 → rFr [(γ 9 2)] P x7 x14 → x14 (γ 9 2) = .inl (I .long, 32, .inr (.inl x13)) → RS D I P x14 γ el → R x14) →
  (∀ (x1 : Int32) (x2 : Int32) (x3 : Int32) (x4 : Int32) (x5 : Nat → Int64) (x6 : Nat → Int64) (x7 : Nat → va_E) (x8 : Int32) (x9 : Int32) (x10 : Int32) (x11 : Nat → Int64) (x12 : Nat → va_E) (x13 : Int32) (x14 : Int32), fI (F q1) 0 = x1 → fI (F q1) 1 = x2 → fI (F q1) 4 = x3 → gB x4 (-1) 1999 → tr_RModel_setOf a2 x1 x2 x3 x4 → 0 ≤ x4.toInt → fR (F q0) 2 = (γ 9 2) → F (γ 9 2) = .inl (I .long, 32, .inr (.inl x5)) → tr_RModel_clear x4 x5 x6 → rFr [(γ 9 2)] P F x7 → x7 (γ 9 2) = .inl (I .long, 32, .inr (.inl x6)) → RS D I P x7 γ el → a2.toInt = 0 → fI (x7 q1) 0 = x1 → fI (x7 q1) 5 = x8 → gB x9 0 1 → tr_RRow_usesA x1 x8 x9 → x9.toInt ≠ 0 → fR (x7 q0) 2 = (γ 9 2) → fI (x7 q1) 2 = x10 → x7 (γ 9 2) = .inl (I .long, 32, .inr (.inl x6)) → tr_RModel_set x10 x6 x11 → rFr [(γ 9 2)] P x7 x12 → x12 (γ 9 2) = .inl (I .long, 32, .inr (.inl x11)) → RS D I P x12 γ el → fI (x12 q1) 0 = x1 → fI (x12 q1) 6 = x13 → gB x14 0 1 → tr_RRow_usesB x1 x13 x14 → x14.toInt = 0 → R x12) →
  (∀ (x1 : Int32) (x2 : Int32) (x3 : Int32) (x4 : Int32) (x5 : Nat → Int64) (x6 : Nat → Int64) (x7 : Nat → va_E) (x8 : Int32) (x9 : Int32) (x10 : Int32) (x11 : Nat → Int64) (x12 : Nat → va_E) (x13 : Int32) (x14 : Int32) (x15 : Int32) (x16 : Nat → Int64) (x17 : Nat → va_E), fI (F q1) 0 = x1 → fI (F q1) 1 = x2 → fI (F q1) 4 = x3 → gB x4 (-1) 1999 → tr_RModel_setOf a2 x1 x2 x3 x4 → 0 ≤ x4.toInt → fR (F q0) 2 = (γ 9 2) → F (γ 9 2) = .inl (I .long, 32, .inr (.inl x5)) → tr_RModel_clear x4 x5 x6 → rFr [(γ 9 2)] P F x7 → x7 (γ 9 2) = .inl (I .long, 32, .inr (.inl x6)) → RS D I P x7 γ el → a2.toInt = 0 → fI (x7 q1) 0 = x1 → fI (x7 q1) 5 = x8 → gB x9 0 1 → tr_RRow_usesA x1 x8 x9 → x9.toInt ≠ 0 → fR (x7 q0) 2 = (γ 9 2) → fI (x7 q1) 2 = x10 → x7 (γ 9 2) = .inl (I .long, 32, .inr (.inl x6)) → tr_RModel_set x10 x6 x11 → rFr [(γ 9 2)] P x7 x12 → x12 (γ 9 2) = .inl (I .long, 32, .inr (.inl x11)) → RS D I P x12 γ el → fI (x12 q1) 0 = x1 → fI (x12 q1) 6 = x13 → gB x14 0 1 → tr_RRow_usesB x1 x13 x14 → x14.toInt ≠ 0 → fR (x12 q0) 2 = (γ 9 2) → fI (x12 q1) 3 = x15 → x12 (γ 9 2) = .inl (I .long, 32, .inr (.inl x11)) → tr_RModel_set x15 x11 x16 → rFr [(γ 9 2)] P x12 x17 → x17 (γ 9 2) = .inl (I .long, 32, .inr (.inl x16)) → RS D I P x17 γ el → R x17) →
  (∀ (x1 : Int32) (x2 : Int32) (x3 : Int32) (x4 : Int32) (x5 : Nat → Int64) (x6 : Nat → Int64) (x7 : Nat → va_E), fI (F q1) 0 = x1 → fI (F q1) 1 = x2 → fI (F q1) 4 = x3 → gB x4 (-1) 1999 → tr_RModel_setOf a2 x1 x2 x3 x4 → 0 ≤ x4.toInt → fR (F q0) 2 = (γ 9 2) → F (γ 9 2) = .inl (I .long, 32, .inr (.inl x5)) → tr_RModel_clear x4 x5 x6 → rFr [(γ 9 2)] P F x7 → x7 (γ 9 2) = .inl (I .long, 32, .inr (.inl x6)) → RS D I P x7 γ el → a2.toInt ≠ 0 → fI (x7 q1) 0 = x1 → x1.toInt ≠ 21 → R x7) →
  (∀ (x1 : Int32) (x2 : Int32) (x3 : Int32) (x4 : Int32) (x5 : Nat → Int64) (x6 : Nat → Int64) (x7 : Nat → va_E) (x8 : Nat → Int64) (x9 : Nat → va_E), fI (F q1) 0 = x1 → fI (F q1) 1 = x2 → fI (F q1) 4 = x3 → gB x4 (-1) 1999 → tr_RModel_setOf a2 x1 x2 x3 x4 → 0 ≤ x4.toInt → fR (F q0) 2 = (γ 9 2) → F (γ 9 2) = .inl (I .long, 32, .inr (.inl x5)) → tr_RModel_clear x4 x5 x6 → rFr [(γ 9 2)] P F x7 → x7 (γ 9 2) = .inl (I .long, 32, .inr (.inl x6)) → RS D I P x7 γ el → a2.toInt ≠ 0 → fI (x7 q1) 0 = x1 → x1.toInt = 21 → fR (x7 q0) 2 = (γ 9 2) → fI (x7 q1) 4 = x3 → x7 (γ 9 2) = .inl (I .long, 32, .inr (.inl x6)) → tr_RModel_set x3 x6 x8 → rFr [(γ 9 2)] P x7 x9 → x9 (γ 9 2) = .inl (I .long, 32, .inr (.inl x8)) → RS D I P x9 γ el → R x9) →
  R o1
