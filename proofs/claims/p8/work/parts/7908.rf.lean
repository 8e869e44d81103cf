theorem dr_cX17_zeros_0 : decode cX17_zeros 0 = .ok (.aload_n 0, 1) := by decide +kernel
theorem dr_cX17_zeros_1 : decode cX17_zeros 1 = .ok (.aload_n 1, 1) := by decide +kernel
theorem dr_cX17_zeros_2 : decode cX17_zeros 2 = .ok (.iconst 0, 1) := by decide +kernel
theorem dr_cX17_zeros_3 : decode cX17_zeros 3 = .ok (.invokevirtual 127, 3) := by decide +kernel
theorem dr_cX17_zeros_6 : decode cX17_zeros 6 = .ok (.iconst 0, 1) := by decide +kernel
theorem dr_cX17_zeros_7 : decode cX17_zeros 7 = .ok (.istore_n 2, 1) := by decide +kernel
theorem dr_cX17_zeros_8 : decode cX17_zeros 8 = .ok (.iconst 0, 1) := by decide +kernel
theorem dr_cX17_zeros_9 : decode cX17_zeros 9 = .ok (.istore_n 3, 1) := by decide +kernel
theorem dr_cX17_zeros_10 : decode cX17_zeros 10 = .ok (.iload_n 3, 1) := by decide +kernel
theorem dr_cX17_zeros_11 : decode cX17_zeros 11 = .ok (.sipush 2000, 3) := by decide +kernel
theorem dr_cX17_zeros_14 : decode cX17_zeros 14 = .ok (.if_icmp .ge 60, 3) := by decide +kernel
theorem dr_cX17_zeros_74 : decode cX17_zeros 74 = .ok (.return_, 1) := by decide +kernel
theorem dr_cX17_zeros_17 : decode cX17_zeros 17 = .ok (.aload_n 0, 1) := by decide +kernel
theorem dr_cX17_zeros_18 : decode cX17_zeros 18 = .ok (.getfield 88, 3) := by decide +kernel
theorem dr_cX17_zeros_21 : decode cX17_zeros 21 = .ok (.iconst 0, 1) := by decide +kernel
theorem dr_cX17_zeros_22 : decode cX17_zeros 22 = .ok (.aaload, 1) := by decide +kernel
theorem dr_cX17_zeros_23 : decode cX17_zeros 23 = .ok (.iload_n 3, 1) := by decide +kernel
theorem dr_cX17_zeros_24 : decode cX17_zeros 24 = .ok (.invokestatic 145, 3) := by decide +kernel
theorem dr_cX17_zeros_27 : decode cX17_zeros 27 = .ok (.ifCond .ne 6, 3) := by decide +kernel
theorem dr_cX17_zeros_30 : decode cX17_zeros 30 = .ok (.goto 38, 3) := by decide +kernel
theorem dr_cX17_zeros_68 : decode cX17_zeros 68 = .ok (.iinc 3 1, 3) := by decide +kernel
theorem dr_cX17_zeros_71 : decode cX17_zeros 71 = .ok (.goto (-61), 3) := by decide +kernel
theorem dr_cX17_zeros_33 : decode cX17_zeros 33 = .ok (.aload_n 1, 1) := by decide +kernel
theorem dr_cX17_zeros_34 : decode cX17_zeros 34 = .ok (.invokevirtual 177, 3) := by decide +kernel
theorem dr_cX17_zeros_37 : decode cX17_zeros 37 = .ok (.astore 4, 2) := by decide +kernel
theorem dr_cX17_zeros_39 : decode cX17_zeros 39 = .ok (.aload 4, 2) := by decide +kernel
theorem dr_cX17_zeros_41 : decode cX17_zeros 41 = .ok (.iconst 0, 1) := by decide +kernel
theorem dr_cX17_zeros_42 : decode cX17_zeros 42 = .ok (.putfield 39, 3) := by decide +kernel
theorem dr_cX17_zeros_45 : decode cX17_zeros 45 = .ok (.aload 4, 2) := by decide +kernel
theorem dr_cX17_zeros_47 : decode cX17_zeros 47 = .ok (.iload_n 3, 1) := by decide +kernel
theorem dr_cX17_zeros_48 : decode cX17_zeros 48 = .ok (.putfield 52, 3) := by decide +kernel
theorem dr_cX17_zeros_51 : decode cX17_zeros 51 = .ok (.aload_n 1, 1) := by decide +kernel
theorem dr_cX17_zeros_52 : decode cX17_zeros 52 = .ok (.iconst 0, 1) := by decide +kernel
theorem dr_cX17_zeros_53 : decode cX17_zeros 53 = .ok (.invokevirtual 101, 3) := by decide +kernel
theorem dr_cX17_zeros_56 : decode cX17_zeros 56 = .ok (.getfield 117, 3) := by decide +kernel
theorem dr_cX17_zeros_59 : decode cX17_zeros 59 = .ok (.iload_n 2, 1) := by decide +kernel
theorem dr_cX17_zeros_60 : decode cX17_zeros 60 = .ok (.aload 4, 2) := by decide +kernel
theorem dr_cX17_zeros_62 : decode cX17_zeros 62 = .ok (.invokevirtual 181, 3) := by decide +kernel
theorem dr_cX17_zeros_65 : decode cX17_zeros 65 = .ok (.iinc 2 1, 3) := by decide +kernel
abbrev ky_365405_SpillForgeModel_zeros : gKey := (cX17_zeros, 5, "SpillForgeModel", none, [], "zeros", fun _ _ => True)
def pg_365405_SpillForgeModel_zeros (D : va_G) (I : FieldType → ClassId) (γ0 el0 : Nat → Nat → Nat) (f : Nat) (B : Nat) (P365399 : List Nat) (F365400 : Nat → va_E) (q365401 : Nat) (q365402 : Nat) : Option Value → va_W → Nat → Nat → Prop := fun r w dc ds => ∃ (P368771 : List Nat) (F368772 : Nat → va_E) (γ el : Nat → Nat → Nat), r = none ∧ w = va_pl P368771 F368772 ∧ rSk f [101] ([1, 3, 5, 6, 8, 9, 101] ++ npk) D I P365399 F365400 γ0 el0 P368771 F368772 γ el ∧ (18 * dc + rPh γ0 el0 f ≤ rPh γ el f ∧ ds + rPh γ0 el0 f ≤ rPh γ el f) ∧ rBd γ el f B ∧ γ 6 f = γ0 6 f ∧ γ 7 f = γ0 7 f ∧ γ 16 f ≤ γ0 16 f + 2000 ∧ γ 18 f = γ0 18 f ∧ (F368772 q365401 = F365400 q365401) ∧ tr_RModel_zeros D I γ0 el0 f P365399 F365400 q365401 q365402 P368771 F368772 γ el
set_option maxRecDepth 100000 in
set_option maxHeartbeats 1500000 in
theorem cg_365405_SpillForgeModel_zeros (l : Launch) (hl0 : l.stackTraces = false) (D : va_G) (I : FieldType → ClassId) (γ0 el0 : Nat → Nat → Nat) (f : Nat) (B : Nat) (P365399 : List Nat) (F365400 : Nat → va_E) (q365401 : Nat) (q365402 : Nat) (hT0 : RS D I P365399 F365400 γ0 el0) (hzq365401 : rKd γ0 q365401 10) (hzq365402 : rKd γ0 q365402 9) (hf0 : γ0 1 q365402 = f) (hB0 : rBd γ0 el0 f B) (hBk : B ≤ 100000) (x365403 : 0 < γ0 6 f) (x365404 : γ0 16 f + 2000 ≤ B) : CtA (gV D I) l yX17_zeros cX17_zeros 5 none 8 170 (((387 * B + 6000) - rPh γ0 el0 f) / 18) ((387 * B + 6000) - rPh γ0 el0 f) [.ref q365401, .ref q365402] (va_pl P365399 F365400) (pg_365405_SpillForgeModel_zeros D I γ0 el0 f B P365399 F365400 q365401 q365402) gNA := by
  refine CtA_of hl0 (by decide) (Nat.le_of_ble_eq_true rfl) ?_
  obtain ⟨gm_0, hγ0⟩ : ∃ z, z = γ0 := ⟨_, rfl⟩
  obtain ⟨el_0, hel0⟩ : ∃ z, z = el0 := ⟨_, rfl⟩
  have hT : RS D I P365399 F365400 gm_0 el := by rw [hγ0, hel0]; exact hT0
  have hst : rSk f [101] ([1, 3, 5, 6, 8, 9, 101] ++ npk) D I P365399 F365400 γ0 el0 P365399 F365400 gm_0 el := by rw [hγ0, hel0]; exact rSk_rf hT0
  have hph : rPh γ0 el0 f ≤ rPh gm_0 el_0 f := by rw [hγ0, hel0]; exact Nat.le_refl _
  have hB : rBd gm_0 el_0 f B := by rw [hγ0, hel0]; exact hB0
  have htq365401 : rKd gm_0 q365401 10 := by rw [hγ0]; exact hzq365401
  have htq365402 : rKd gm_0 q365402 9 := by rw [hγ0]; exact hzq365402
  have hf1 : gm_0 1 q365402 = f := by rw [hγ0]; exact hf0
  have x365403n : 0 < gm_0 6 f := by rw [hγ0]; exact x365403
  have x365404n : gm_0 16 f + 2000 ≤ B := by rw [hγ0]; exact x365404
  have pk365406 : rPh gm_0 el_0 f ≤ 387 * B + 6000 := rm_pk (rM_ge hT htq365402 hf1).1 (rM_bd hB)
  refine G_widen (cs' := ((rPh gm_0 el_0 f - rPh γ0 el0 f) / 18)) (sl' := (rPh gm_0 el_0 f - rPh γ0 el0 f)) (Nat.zero_le _) (Nat.zero_le _) ?_
  have r365407 : 0 < gm_0 6 (gm_0 1 q365402) := by rw [hf1]; omega
  have lz0 : Int32.toInt 0 = 0 := by decide
  have r365408 : gm_0 6 f = γ0 6 f := by rw [hγ0]
  have r365409 : gm_0 7 f = γ0 7 f := by rw [hγ0]
  have r365410 : gm_0 16 f = γ0 16 f := by rw [hγ0]
  have r365411 : gm_0 18 f = γ0 18 f := by rw [hγ0]
  have r365412 : gm_0 19 f = γ0 19 f := by rw [hγ0]
  refine G_aload_n 0 dr_cX17_zeros_0 rfl ?_
  refine G_aload_n 1 dr_cX17_zeros_1 rfl ?_
  refine G_iconst 0 dr_cX17_zeros_2 (by decide +kernel) ?_
  have hm365418 : q365401 ∈ P365399 := RS_m hT htq365401 (by decide)
  obtain ⟨q365420, q365421, p365422, p365423, p365424, p365425, p365426, p365427, p365428, p365429, p365430, p365431, p365432, p365433, p365434, p365435, p365436, he365419, hB365463, ht365437, ht365438, ht365439, ht365440, ht365441, ht365442, ht365443, ht365444, ht365445, ht365446, ht365447, ht365448, ht365449, ht365450, ht365451, ht365452, ht365453, ht365454, ht365455, ht365456, ht365457, ht365458, ht365459, ht365460, hB365464⟩ := show rk_10 gm_0 (F365400 q365401) from RS_o hT htq365401
  refine Gw_callV (As := [.ref q365402, .int 0]) (gV_ok D I) (ct_225394_SpillForgeModel_findLive l hl0 D I gm_0 el_0 P365399 F365400 q365401 q365402 0 hT htq365401 htq365402 (gB_w (gBl (show Int32.toInt 0 = 0 by decide)) (by decide) (by decide)) (by omega)) dr_cX17_zeros_3 ⟨wr_10_156, wr_1_14, wr_10_159, by decide, rfl, (Nat.le_of_ble_eq_true rfl), (Nat.le_of_ble_eq_true rfl)⟩ wr_10_158 wr_p_94 hm365418 he365419 rfl (rm_zc pk365406) (rm_zs pk365406) (Nat.le_of_ble_eq_true rfl) (fun r365416 w365417 dc365413 ds365414 hp365415 => ?_) (fun _ _ _ _ _ z => z.elim)
  obtain ⟨F365467, rfl, rfl, hT365468, hs365469, hdc, hds, x365465, ht365466⟩ := hp365415
  have hs365470 := rSk_str hst hT365468 hs365469 (by decide) (by decide) (by decide)
  have kp365471 : F365467 q365401 = F365400 q365401 := x365465
  have he365472 : F365467 q365401 = .inr (22, [.ref (gm_0 9 0), .ref (gm_0 9 1), .ref (gm_0 9 2), .ref (gm_0 9 3), .ref (gm_0 9 4), .ref (gm_0 9 5), .ref (gm_0 9 6), .ref (gm_0 9 7), .ref (gm_0 9 8), .int p365422, .int p365423, .int p365424, .int p365425, .int p365426, .int p365427, .ref (gm_0 9 15), .ref (gm_0 9 16), .ref (gm_0 9 17), .ref (gm_0 9 18), .ref (gm_0 9 19), .ref (gm_0 9 20), .ref (gm_0 9 21), .ref (gm_0 9 22), .int p365428, .int p365429, .int p365430, .int p365431, .int p365432, .ref q365420, .ref (gm_0 9 29), .int p365433, .ref (gm_0 9 31), .int p365434, .int p365435, .int p365436, .ref q365421]) := (x365465).trans he365419
  change G _ _ _ _ _ _ _ _ _ _ _
  refine G_widen (cs' := ((rPh gm_0 el_0 f - rPh γ0 el0 f) / 18)) (sl' := (rPh gm_0 el_0 f - rPh γ0 el0 f)) (rm_d0 hdc) (rm_d0 hds) ?_
  refine G_iconst 0 dr_cX17_zeros_6 (by decide +kernel) ?_
  refine G_istore_n (L' := [(2, .int 0), (0, .ref q365401), (1, .ref q365402)]) dr_cX17_zeros_7 (Nat.le_of_ble_eq_true rfl) rfl ?_
  refine G_iconst 0 dr_cX17_zeros_8 (by decide +kernel) ?_
  refine G_istore_n (L' := [(3, .int 0), (2, .int 0), (0, .ref q365401), (1, .ref q365402)]) dr_cX17_zeros_9 (Nat.le_of_ble_eq_true rfl) rfl ?_
  have hlp10_368355 : ∀ (n10_368355 : Nat) (P368343 : List Nat) (F368344 : Nat → va_E) (gm_F368344 el_F368344 : Nat → Nat → Nat) (g368341 : Int32) (g368342 : Int32), gB g368341 0 2000 → gB g368342 0 2000 → RS D I P368343 F368344 gm_F368344 el_F368344 → rSk f [101] ([1, 3, 5, 6, 8, 9, 101] ++ npk) D I P365399 F365400 γ0 el0 P368343 F368344 gm_F368344 el_F368344 → rPh γ0 el0 f ≤ rPh gm_F368344 el_F368344 f → rBd gm_F368344 el_F368344 f B → gm_F368344 6 f = γ0 6 f → gm_F368344 7 f = γ0 7 f → gm_F368344 18 f = γ0 18 f → gm_F368344 16 f ≤ γ0 16 f + (g368342.toInt : Int).toNat → g368342.toInt ≤ g368341.toInt → (g368342.toInt : Int) ≤ gm_F368344 2 (gm_F368344 14 (el_F368344 (gm_F368344 14 q365402) (0 : Int32).toInt.toNat)) → (F368344 q365401 = F365400 q365401) → (∀ (k : Nat) (e1 : Nat → va_E) (e2 : List Nat) (e3 : Nat → Nat → Nat) (e4 : Nat → Nat → Nat), tl_RModel_zeros_10 D I γ0 el0 f P365399 F365400 q365402 q365401 P368343 F368344 gm_F368344 el_F368344 g368341 g368342 k e1 e2 e3 e4 → tl_RModel_zeros_10 D I γ0 el0 f P365399 F365400 q365402 q365401 P365399 F365467 gm_0 el_0 (0 : Int32) (0 : Int32) k e1 e2 e3 e4) → ((2001 : Int) - g368341.toInt).toNat < n10_368355 → G (gV D I) l (gRm 8 170 (((387 * B + 6000) - rPh γ0 el0 f) / 18) ((387 * B + 6000) - rPh γ0 el0 f)) (gMA (gV D I) (pg_365405_SpillForgeModel_zeros D I γ0 el0 f B P365399 F365400 q365401 q365402) gNA (((387 * B + 6000) - rPh γ0 el0 f) / 18) ((387 * B + 6000) - rPh γ0 el0 f)) ky_365405_SpillForgeModel_zeros 10 [(3, .int g368341), (2, .int g368342), (0, .ref q365401), (1, .ref q365402)] [] (va_pl P368343 F368344) ((rPh gm_F368344 el_F368344 f - rPh γ0 el0 f) / 18) (rPh gm_F368344 el_F368344 f - rPh γ0 el0 f) := by
    intro n10_368355
    induction n10_368355 with
    | zero => intro P368343 F368344 gm_F368344 el_F368344 g368341 g368342 bg368341 bg368342 hT368345 hs368346 hph368347 hB368348 x368349 x368350 x368351 x368352 x368353 x368354 x368355 kt10_368356 hm10_368355; exact absurd hm10_368355 (Nat.not_lt_zero _)
    | succ n10_368355 ih10_368355 =>
      intro P368343 F368344 gm_F368344 el_F368344 g368341 g368342 bg368341 bg368342 hT368345 hs368346 hph368347 hB368348 x368349 x368350 x368351 x368352 x368353 x368354 x368355 kt10_368356 hm10_368355
      clear r365408 r365409 r365410 r365411 r365412
      have ht368357 : rKd gm_F368344 q365401 10 := rSk_k hs368346 hzq365401 (by decide) (by decide)
      have ht368358 : rKd gm_F368344 q365402 9 := rSk_k hs368346 hzq365402 (by decide) (by decide)
      have hf368359 : gm_F368344 1 q365402 = f := rSk_1 hs368346 hzq365402 (by decide) hf0
      have pk368360 : rPh gm_F368344 el_F368344 f ≤ 387 * B + 6000 := rm_pk (rM_ge hT368345 ht368358 hf368359).1 (rM_bd hB368348)
      have r368361 : 0 < gm_F368344 6 (gm_F368344 1 q365402) := by rw [hf368359]; omega
      refine G_iload_n 0 dr_cX17_zeros_10 rfl ?_
      refine G_sipush 2000 dr_cX17_zeros_11 (by decide +kernel) ?_
      refine G_icmp_ge 74 dr_cX17_zeros_14 (by decide +kernel) (fun hc368362 => ?_) (fun hc368362 => ?_)
      · have r368363 : 2000 ≤ g368341.toInt := gj_leL hc368362 (show Int32.toInt 2000 = 2000 by decide)
        have bg368341' : gB g368341 2000 2000 := ⟨by omega, by omega⟩
        have hx368364 : tl_RModel_zeros_10 D I γ0 el0 f P365399 F365400 q365402 q365401 P365399 F365467 gm_0 el_0 (0 : Int32) (0 : Int32) 74 F368344 P368343 gm_F368344 el_F368344 := kt10_368356 74 F368344 P368343 gm_F368344 el_F368344 (fun R c1 c2 c3 => c1 P368343 F368344 gm_F368344 el_F368344 g368341 g368342 bg368341 bg368342 hT368345 hs368346 x368349 x368350 x368351 x368352 x368353 x368354 x368355 r368363)
        exact G_vretA dr_cX17_zeros_74 rfl (show ((rPh gm_F368344 el_F368344 f - rPh γ0 el0 f) / 18) ≤ (((387 * B + 6000) - rPh γ0 el0 f) / 18) by omega) (show (rPh gm_F368344 el_F368344 f - rPh γ0 el0 f) ≤ ((387 * B + 6000) - rPh γ0 el0 f) by omega) ⟨P368343, F368344, gm_F368344, el_F368344, rfl, rfl, hs368346, ⟨by omega, by omega⟩, hB368348, (by omega), (by omega), (by omega), (by omega), x368355, (fun R c1 => c1 gm_0 el_0 F365467 F368344 P368343 gm_F368344 el_F368344 hγ0 hel0 hT365468 hs365469 x365465 ht365466 hx368364)⟩
      · have r368365 : g368341.toInt < 2000 := gj_nleL hc368362 (show Int32.toInt 2000 = 2000 by decide)
        have bg368341' : gB g368341 0 1999 := ⟨by omega, by omega⟩
        refine G_aload_n 2 dr_cX17_zeros_17 rfl ?_
        have hm368366 : q365401 ∈ P368343 := RS_m hT368345 ht368357 (by decide)
        obtain ⟨q368368, q368369, p368370, p368371, p368372, p368373, p368374, p368375, p368376, p368377, p368378, p368379, p368380, p368381, p368382, p368383, p368384, he368367, hB368411, ht368385, ht368386, ht368387, ht368388, ht368389, ht368390, ht368391, ht368392, ht368393, ht368394, ht368395, ht368396, ht368397, ht368398, ht368399, ht368400, ht368401, ht368402, ht368403, ht368404, ht368405, ht368406, ht368407, ht368408, hB368412⟩ := show rk_10 gm_F368344 (F368344 q365401) from RS_o hT368345 ht368357
        have fq368413 : fR (F368344 q365401) 0 = (gm_F368344 9 0) := by rw [he368367]; rfl
        refine Gp_get 0 hm368366 he368367 dr_cX17_zeros_18 (gk_X17 D I) (Nat.le_of_ble_eq_true rfl) wr_7_74 rfl ?_
        refine G_iconst 0 dr_cX17_zeros_21 (by decide +kernel) ?_
        have hm368414 : (gm_F368344 9 0) ∈ P368343 := RS_m hT368345 ht368387 (by decide)
        obtain ⟨f368416, he368415, hg368417⟩ := show rk_12 I gm_F368344 (F368344 (gm_F368344 9 0)) from RS_o hT368345 ht368387
        obtain ⟨q368418, hx368420⟩ : ∃ x, x = gm_F368344 10 (0 : Int32).toInt.toNat := ⟨_, rfl⟩
        have ht368419 : rKd gm_F368344 q368418 11 := by rw [hx368420]; exact (hg368417 _ (by decide)).2.1
        refine Gp_aald 5 hm368414 he368415 dr_cX17_zeros_22 rfl rfl (gB_in (gBl (show Int32.toInt 0 = 0 by decide)) (by decide) (by decide)) ?_
        rw [show f368416 (0 : Int32).toNatClampNeg = some q368418 from (hg368417 _ (by decide)).1.trans (congrArg some hx368420.symm)]
        change G _ _ _ _ _ _ _ (.ref q368418 :: _) _ _ _
        refine G_iload_n 0 dr_cX17_zeros_23 rfl ?_
        have hm368421 : q368418 ∈ P368343 := RS_m hT368345 ht368419 (by decide)
        obtain ⟨f368423, he368422, wf368423⟩ := show rk_11 I (F368344 q368418) from RS_o hT368345 ht368419
        refine Gw_callS (As := [.ref q368418, .int g368341]) (gV_ok D I) (cp_1845_SpillForgeModel_has l hl0 D I P368343 F368344 q368418 g368341 f368423 hm368421 he368422 (gB_w bg368341' (by decide) (by decide))) dr_cX17_zeros_24 ⟨wr_10_203, wr_1_14, wr_10_205, by decide, rfl, (Nat.le_of_ble_eq_true rfl), (Nat.le_of_ble_eq_true rfl)⟩ wr_10_204 (rm_zc pk368360) (rm_zs pk368360) (Nat.le_of_ble_eq_true rfl) (fun r368427 w368428 dc368424 ds368425 hp368426 => ?_) (fun _ _ _ _ _ z => z.elim)
        rcases hp368426 with ⟨z368429, z368430, rfl, rfl, hdc, hds, r368431, r368432, r368433, r368434, r368435⟩ | ⟨z368436, z368437, rfl, rfl, hdc, hds, r368438, r368439, r368440, r368441, r368442⟩
        · change G _ _ _ _ _ _ _ (.int 0 :: _) _ _ _
          refine G_widen (cs' := ((rPh gm_F368344 el_F368344 f - rPh γ0 el0 f) / 18)) (sl' := (rPh gm_F368344 el_F368344 f - rPh γ0 el0 f)) (rm_d0 hdc) (rm_d0 hds) ?_
          refine G_if_ne 33 dr_cX17_zeros_27 (by decide +kernel) (fun hc => absurd hc (by decide)) (fun _ => ?_)
          refine G_goto 68 dr_cX17_zeros_30 (by decide +kernel) ?_
          obtain ⟨z368444, hz368444⟩ : ∃ z : Int32, z = g368341 + Int32.ofInt 1 := ⟨_, rfl⟩
          have ez368444 : z368444.toInt = g368341.toInt + 1 := gI_inc hz368444 (by decide) bg368341' (by decide) (by decide)
          have bz368444 : gB z368444 1 2000 := ⟨by omega, by omega⟩
          refine G_iinc (L' := [(3, .int z368444), (2, .int g368342), (0, .ref q365401), (1, .ref q365402)]) z368444 0 dr_cX17_zeros_68 rfl hz368444.symm (Nat.le_of_ble_eq_true rfl) rfl ?_
          refine G_goto 10 dr_cX17_zeros_71 (by decide +kernel) ?_
          exact ih10_368355 P368343 F368344 gm_F368344 el_F368344 z368444 g368342 (gB_w bz368444 (by decide) (by decide)) bg368342 hT368345 hs368346 hph368347 hB368348 (by omega) (by omega) (by omega) (by omega) (by omega) (by omega) x368355 (fun k e1 e2 e3 e4 ht => kt10_368356 k e1 e2 e3 e4 (fun R c1 c2 c3 => c2 P368343 F368344 gm_F368344 el_F368344 g368341 g368342 q368418 f368423 z368444 k e1 e2 e3 e4 bg368341 bg368342 hT368345 hs368346 x368349 x368350 x368351 x368352 x368353 x368354 x368355 r368365 fq368413 hx368420 he368422 r368435 ez368444 (ht R c1 c2 c3))) (by omega)
        · change G _ _ _ _ _ _ _ (.int 1 :: _) _ _ _
          refine G_widen (cs' := ((rPh gm_F368344 el_F368344 f - rPh γ0 el0 f) / 18)) (sl' := (rPh gm_F368344 el_F368344 f - rPh γ0 el0 f)) (rm_d0 hdc) (rm_d0 hds) ?_
          refine G_if_ne 33 dr_cX17_zeros_27 (by decide +kernel) (fun _ => ?_) (fun hc => absurd hc (by decide))
          have hm368445 : q365402 ∈ P368343 := RS_m hT368345 ht368358 (by decide)
          obtain ⟨q368447, q368448, p368449, p368450, he368446, ht368466, ht368451, ht368452, ht368453, ht368454, r368455, r368456, r368457, r368458, r368459, r368460, r368461, r368462, r368463, r368464, r368465⟩ := show rk_9 gm_F368344 el_F368344 q365402 (F368344 q365402) from RS_o hT368345 ht368358
          have bp368449 : gB p368449 0 1000000 := ⟨by omega, by omega⟩
          have bp368450 : gB p368450 0 1000000 := ⟨by omega, by omega⟩
          have hf368467 : gm_F368344 1 q368447 = f := (show gm_F368344 1 q368447 = gm_F368344 1 q365402 from ht368452).trans hf368359
          have hf368468 : gm_F368344 1 q368448 = f := (show gm_F368344 1 q368448 = gm_F368344 1 q365402 from ht368454).trans hf368359
          have r368469 : gm_F368344 6 (gm_F368344 1 q365402) = gm_F368344 6 f := by rw [hf368359]
          have r368470 : gm_F368344 16 (gm_F368344 1 q365402) = gm_F368344 16 f := by rw [hf368359]
          have r368471 : p368450.toInt = gm_F368344 6 f ∧ p368450.toInt ≤ 40 := by omega
          clear r368461
          have hm368472 : q368447 ∈ P368343 := RS_m hT368345 ht368451 (by decide)
          obtain ⟨⟨p368474, p368475, q368476, he368473, r368477, r368478, r368479, r368481⟩, r368480⟩ := show rk_4 D I gm_F368344 el_F368344 F368344 q368447 from RS_o hT368345 ht368451
          have bp368474 := gB_any p368474
          have bp368475 : gB p368475 0 1000000 := ⟨by omega, by omega⟩
          obtain ⟨r368482, r368483, n368490, f368491, r368484, r368485, r368486, r368487, r368488, r368489⟩ := rLC_n r368479 (by omega)
          have hm368492 : q368476 ∈ P368343 := RS_m hT368345 r368482 (by decide)
          obtain ⟨q368493, hx368494⟩ : ∃ x, x = el_F368344 q368447 (0 : Int32).toInt.toNat := ⟨_, rfl⟩
          have fq368498 : fR (F368344 q365402) 0 = q368447 := by rw [he368446]; rfl
          have hx368495 : f368491 (0 : Int32).toNatClampNeg = some q368493 := (r368488 _ (show (0 : Int32).toInt.toNat < gm_F368344 2 q368447 by first | assumption | omega)).trans (congrArg some hx368494.symm)
          have ht368499 : rKd gm_F368344 q368493 2 := by rw [hx368494]; exact (r368462 _ (by omega)).resolve_right (fun z => absurd z.1 (by omega))
          have ht368500 : rFm gm_F368344 q368493 q368447 := by rw [hx368494]; exact (r368480 _ (show (0 : Int32).toInt.toNat < gm_F368344 2 q368447 by omega)).2.1
          have hm368501 : q368493 ∈ P368343 := RS_m hT368345 ht368499 (by decide)
          obtain ⟨q368503, q368504, p368505, p368506, he368502, ht368513, ht368507, ht368508, ht368509, ht368510, ht368511, bp368505, bp368506, r368512, r368514, r368515⟩ := show rk_2 gm_F368344 q368493 (F368344 q368493) from RS_o hT368345 ht368499
          have hf368516 : gm_F368344 1 q368493 = f := (show gm_F368344 1 q368493 = gm_F368344 1 q368447 from ht368500).trans ((show gm_F368344 1 q368447 = gm_F368344 1 q365402 from ht368452).trans hf368359)
          have hf368517 : gm_F368344 1 q368503 = f := (show gm_F368344 1 q368503 = gm_F368344 1 q368493 from ht368508).trans hf368516
          have hf368518 : gm_F368344 1 q368504 = f := (show gm_F368344 1 q368504 = gm_F368344 1 q368493 from ht368510).trans hf368516
          have r368519 : gm_F368344 6 (gm_F368344 1 q368493) = gm_F368344 6 f := by rw [hf368516]
          have r368520 : gm_F368344 7 (gm_F368344 1 q368493) = gm_F368344 7 f := by rw [hf368516]
          have r368521 : gm_F368344 19 (gm_F368344 1 q368493) = gm_F368344 19 f := by rw [hf368516]
          have r368522 := r368512.resolve_left (by omega)
          clear r368512
          have r368523 : gm_F368344 2 (gm_F368344 14 q368493) = gm_F368344 2 q368503 := by rw [ht368513.1]
          have r368524 : (0 : Int32).toInt.toNat < gm_F368344 2 (gm_F368344 14 q365402) := by rw [ht368466.1]; omega
          have r368525 : el_F368344 (gm_F368344 14 q365402) (0 : Int32).toInt.toNat = q368493 := by rw [ht368466.1, hx368494]
          have sz368526 : gm_F368344 2 (gm_F368344 14 (el_F368344 (gm_F368344 14 q365402) (0 : Int32).toInt.toNat)) = gm_F368344 2 (gm_F368344 14 q368493) := by rw [r368525]
          refine G_aload_n 3 dr_cX17_zeros_33 rfl ?_
          have rg368527 := rM_ge hT368345 ht368358 hf368359
          have rm368528 := rM_bd hB368348
          have bd368529 := rBd_c hT368345 ht368358 hf368359 hB368348
          have rc368530 := rc_at hT368345 ht368358 hf368359
          obtain ⟨q368537, hl368538⟩ : ∃ z, z = gm_F368344 14 q368493 := ⟨_, rfl⟩
          have hl368539 : gm_F368344 0 q368537 = 3 ∨ gm_F368344 0 q368537 = 103 := by rw [hl368538, ← r368525]; exact (RS_lst hT368345 rc368530.2.1 r368524).1
          refine Gt_row (c := q365402) (f := f) hl0 dr_cX17_zeros_34 ⟨wr_10_206, wr_1_15, wr_10_82, by decide, rfl, (Nat.le_of_ble_eq_true rfl), (Nat.le_of_ble_eq_true rfl)⟩ wr_10_80 wr_10_81 hT368345 ht368358 hf368359 (Nat.le_trans bd368529.2.2.1 (Nat.le_trans hBk (by decide))) (rm_cs hph368347 rg368527.2.1 rm368528 (by decide)) (rm_sl hph368347 rg368527.2.1 rm368528 rm_s18) (Nat.le_of_ble_eq_true rfl) (fun P368531 F368532 gm_F368532 el_F368532 q368533 dc368534 ds368535 hq368536 => ?_)
          have hq368540 := hq368536
          obtain ⟨hk368541, x0368542, x1368543, x22368544, x8368545, h16368546, h18368547, hnu368548, hot368549, h45368550, hf0368551, ⟨hr1368552, hr2368553⟩, hM368554, hBB368555⟩ := hq368536
          have hk368556 := rSk_of hk368541
          obtain ⟨nu368557, nu368558, nu368559, nu368560⟩ := hnu368548
          have hT368561 := hk368556.1
          have hs368562 := rSk_tr hs368346 hk368556 (by decide) (by decide) (by decide)
          have kp368563 : F368532 q365401 = F365400 q365401 := (rSk_F hk368556 ht368357 (by decide) (by decide)).trans x368355
          have r368564 := rSk_F hk368556 ht368357 (by decide) (by decide)
          have ht368565 : rKd gm_F368532 q365401 10 := rSk_k hk368556 ht368357 (by decide) (by decide)
          have ht368566 : rKd gm_F368532 q365402 9 := rSk_k hk368556 ht368358 (by decide) (by decide)
          have hf368567 : gm_F368532 1 q365402 = f := rSk_1 hk368556 ht368358 (by decide) hf368359
          have ht368568 : rKd gm_F368532 q368493 2 := rSk_k hk368556 ht368499 (by decide) (by decide)
          have hf368569 : gm_F368532 1 q368493 = f := rSk_1 hk368556 ht368499 (by decide) hf368516
          have ht368570 : rKd gm_F368532 q368503 3 := rSk_k hk368556 ht368507 (by decide) (by decide)
          have hf368571 : gm_F368532 1 q368503 = f := rSk_1 hk368556 ht368507 (by decide) hf368517
          have r368572 := (rSk_s hk368556 ht368358 (by decide)).2.1
          have r368573 := hot368549 _ (by rw [rc368530.2.1]; decide) (by rw [rc368530.2.1]; decide)
          have r368574 : (0 : Int32).toInt.toNat < gm_F368532 2 (gm_F368532 14 q365402) := by rw [r368572, r368573.1]; exact r368524
          have r368575 : el_F368532 (gm_F368532 14 q365402) (0 : Int32).toInt.toNat = q368493 := by rw [r368572, r368573.2]; exact r368525
          clear r368455 r368456 r368457 r368458 r368459 r368460 r368462 r368463 r368464 r368465 bp368449 bp368450 bp368505 bp368506 r368514 r368515 rg368527 rm368528 bd368529 rc368530
          have r368576 : 0 < gm_F368532 6 (gm_F368532 1 q365402) := by rw [hf368567]; omega
          have sz368577 := (rSk_s hk368556 ht368499 (by decide)).2.1
          have sz368578 := congrArg (gm_F368532 2) sz368577
          have sz368579 := (hot368549 q368537 (by omega) (by omega)).1
          rw [hl368538] at sz368579
          clear hl368539
          have sz368580 := (hot368549 q368503 (rT0 ht368507 (by decide)) (by rw [show _ = 3 from ht368507]; decide)).1
          have r368581 := hf0368551.2.2
          have hB368582 : rBd gm_F368532 el_F368532 f B := hBB368555 B (by omega) hB368348
          have ht368583 : rKd gm_F368532 q368533 101 := x0368542
          have r368584 : gm_F368532 8 q368533 < gm_F368532 16 f := rm_x8 x8368545 h16368546 rfl
          have hph368585 : rPh γ0 el0 f ≤ rPh gm_F368532 el_F368532 f := rm_ph hph368347 hr2368553
          have pk368586 : rPh gm_F368532 el_F368532 f ≤ 387 * B + 6000 := rm_pk (rM_ge hT368561 ht368566 hf368567).1 (rM_bd hB368582)
          have hm368587 : q368533 ∈ P368531 := RS_m hT368561 ht368583 (by decide)
          obtain ⟨p368589, p368590, p368591, p368592, p368593, p368594, p368595, he368588, bp368589, bp368590, bp368593, bp368594, bp368595, r368596, r368597, r368598⟩ := show rkR (F368532 q368533) from RS_o hT368561 ht368583
          have bp368591 := gB_any p368591
          have bp368592 := gB_any p368592
          have r368599 : gm_F368532 7 (gm_F368532 1 q368533) = gm_F368532 7 f := by rw [x1368543]
          have r368600 : p368594.toInt = 0 := by have z := hf0368551.1; rw [he368588] at z; exact z
          have bp368594' : gB p368594 0 0 := ⟨by omega, by omega⟩
          have r368601 : p368595.toInt = 0 := by have z := hf0368551.2.1; rw [he368588] at z; exact z
          have bp368595' : gB p368595 0 0 := ⟨by omega, by omega⟩
          refine G_widen (cs' := ((rPh gm_F368532 el_F368532 f - rPh γ0 el0 f) / 18)) (sl' := (rPh gm_F368532 el_F368532 f - rPh γ0 el0 f)) (rm_wc hph368347 hr1368552) (rm_ws hph368347 hr2368553) ?_
          refine G_astore (L' := [(4, .ref q368533), (3, .int g368341), (2, .int g368342), (0, .ref q365401), (1, .ref q365402)]) dr_cX17_zeros_37 (Nat.le_of_ble_eq_true rfl) rfl ?_
          refine G_aload 0 dr_cX17_zeros_39 rfl ?_
          refine G_iconst 0 dr_cX17_zeros_41 (by decide +kernel) ?_
          refine Gp_put 0 hm368587 he368588 dr_cX17_zeros_42 (gk_X15 D I) (Nat.le_of_ble_eq_true rfl) wr_9_177 rfl rfl rfl (Nat.le_of_ble_eq_true rfl) (fun F368602 e368603 n368604 => ?_)
          have he368605 : F368602 q368533 = .inr (20, [.int 0, .int p368590, .int p368591, .int p368592, .int p368593, .int p368594, .int p368595]) := e368603
          have kp368606 : F368602 q365401 = F365400 q365401 := (n368604 q365401 (rn_ty ht368565 ht368583 (by decide))).trans kp368563
          have fq368607 : F368602 q368533 = cF (F368532 q368533) 0 (.int 0) := by rw [he368605, he368588]; rfl
          refine G_aload 0 dr_cX17_zeros_45 rfl ?_
          refine G_iload_n 1 dr_cX17_zeros_47 rfl ?_
          refine Gp_put 1 hm368587 he368605 dr_cX17_zeros_48 (gk_X15 D I) (Nat.le_of_ble_eq_true rfl) wr_9_182 rfl rfl rfl (Nat.le_of_ble_eq_true rfl) (fun F368608 e368609 n368610 => ?_)
          have he368611 : F368608 q368533 = .inr (20, [.int 0, .int g368341, .int p368591, .int p368592, .int p368593, .int p368594, .int p368595]) := e368609
          have n368612 : ∀ b, b ≠ q368533 → F368608 b = F368532 b := fun b hb => (n368610 b hb).trans (n368604 b hb)
          have kp368613 : F368608 q365401 = F365400 q365401 := (n368610 q365401 (rn_ty ht368565 ht368583 (by decide))).trans kp368606
          have fq368614 : F368608 q368533 = cF (F368602 q368533) 1 (.int g368341) := by rw [he368611, he368605]; rfl
          refine G_aload_n 4 dr_cX17_zeros_51 rfl ?_
          refine G_iconst 0 dr_cX17_zeros_52 (by decide +kernel) ?_
          have hT368615 : RS D I P368531 F368608 gm_F368532 el := RS_set hT368561 n368612 ht368583 (by decide) ⟨0, g368341, p368591, p368592, p368593, p368594, p368595, he368611, (gB_w (gBl (show Int32.toInt 0 = 0 by decide)) (by decide) (by decide)), bg368341', bp368593, (gB_w bp368594' (by decide) (by decide)), (gB_w bp368595' (by decide) (by decide)), (Or.inl (by decide)), r368597, r368598⟩
          have hs368616 := rSk_put hs368562 hT368615 n368612 ht368583 (by decide) (by decide)
          have hm368617 : q365402 ∈ P368531 := RS_m hT368615 ht368566 (by decide)
          obtain ⟨q368619, q368620, p368621, p368622, he368618, ht368638, ht368623, ht368624, ht368625, ht368626, r368627, r368628, r368629, r368630, r368631, r368632, r368633, r368634, r368635, r368636, r368637⟩ := show rk_9 gm_F368532 el_F368532 q365402 (F368608 q365402) from RS_o hT368615 ht368566
          have bp368621 : gB p368621 0 1000000 := ⟨by omega, by omega⟩
          have bp368622 : gB p368622 0 1000000 := ⟨by omega, by omega⟩
          have hf368639 : gm_F368532 1 q368619 = f := (show gm_F368532 1 q368619 = gm_F368532 1 q365402 from ht368624).trans hf368567
          have hf368640 : gm_F368532 1 q368620 = f := (show gm_F368532 1 q368620 = gm_F368532 1 q365402 from ht368626).trans hf368567
          have r368641 : gm_F368532 6 (gm_F368532 1 q365402) = gm_F368532 6 f := by rw [hf368567]
          have r368642 : gm_F368532 16 (gm_F368532 1 q365402) = gm_F368532 16 f := by rw [hf368567]
          have r368643 : p368622.toInt = gm_F368532 6 f ∧ p368622.toInt ≤ 40 := by omega
          clear r368633
          have hm368644 : q368619 ∈ P368531 := RS_m hT368615 ht368623 (by decide)
          obtain ⟨⟨p368646, p368647, q368648, he368645, r368649, r368650, r368651, r368653⟩, r368652⟩ := show rk_4 D I gm_F368532 el_F368532 F368608 q368619 from RS_o hT368615 ht368623
          have bp368646 := gB_any p368646
          have bp368647 : gB p368647 0 1000000 := ⟨by omega, by omega⟩
          obtain ⟨r368654, r368655, n368662, f368663, r368656, r368657, r368658, r368659, r368660, r368661⟩ := rLC_n r368651 (by omega)
          have hm368664 : q368648 ∈ P368531 := RS_m hT368615 r368654 (by decide)
          obtain ⟨q368665, hx368666⟩ : ∃ x, x = el_F368532 q368619 (0 : Int32).toInt.toNat := ⟨_, rfl⟩
          have fq368670 : fR (F368608 q365402) 0 = q368619 := by rw [he368618]; rfl
          have hx368667 : f368663 (0 : Int32).toNatClampNeg = some q368665 := (r368660 _ (show (0 : Int32).toInt.toNat < gm_F368532 2 q368619 by first | assumption | omega)).trans (congrArg some hx368666.symm)
          have ht368671 : rKd gm_F368532 q368665 2 := by rw [hx368666]; exact (r368634 _ (by omega)).resolve_right (fun z => absurd z.1 (by omega))
          have ht368672 : rFm gm_F368532 q368665 q368619 := by rw [hx368666]; exact (r368652 _ (show (0 : Int32).toInt.toNat < gm_F368532 2 q368619 by omega)).2.1
          have hm368673 : q368665 ∈ P368531 := RS_m hT368615 ht368671 (by decide)
          obtain ⟨q368675, q368676, p368677, p368678, he368674, ht368685, ht368679, ht368680, ht368681, ht368682, ht368683, bp368677, bp368678, r368684, r368686, r368687⟩ := show rk_2 gm_F368532 q368665 (F368608 q368665) from RS_o hT368615 ht368671
          have fq368688 : fI (F368608 q368619) 2 = p368647 := by rw [he368645]; rfl
          refine Gw_callV (As := [.int 0]) (gV_ok D I) (cp_7901_Code_get l hl0 D I P368531 F368608 q365402 q368619 q368648 0 q368620 p368621 p368622 p368646 p368647 f368663 n368662 q368665 q368675 q368676 p368677 p368678 hm368617 hm368644 hm368664 hm368673 he368618 he368645 r368656 he368674 (gB_w (gBl (show Int32.toInt 0 = 0 by decide)) (by decide) (by decide)) (gB_w bp368647 (by decide) (by decide)) (by have qa0 : Int32.toInt 0 = 0 := (by decide); omega) (by have qa0 : Int32.toInt 0 = 0 := (by decide); omega) (by assumption) (by have qa0 : Int32.toInt 0 = 0 := (by decide); omega)) dr_cX17_zeros_53 ⟨wr_10_161, wr_1_15, wr_10_141, by decide, rfl, (Nat.le_of_ble_eq_true rfl), (Nat.le_of_ble_eq_true rfl)⟩ wr_10_139 wr_10_140 hm368617 he368618 rfl (show ((rPh gm_F368532 el_F368532 f - rPh γ0 el0 f) / 18) + 0 + 0 ≤ (((387 * B + 6000) - rPh γ0 el0 f) / 18) by first | omega | decide) (show (rPh gm_F368532 el_F368532 f - rPh γ0 el0 f) + 0 + 0 ≤ ((387 * B + 6000) - rPh γ0 el0 f) by first | omega | decide) (Nat.le_of_ble_eq_true rfl) (fun r368692 w368693 dc368689 ds368690 hp368691 => ?_) (fun _ _ _ _ _ z => z.elim)
          obtain ⟨rfl, rfl, hdc, hds, ht368694⟩ := hp368691
          change G _ _ _ _ _ _ _ (.ref q368665 :: _) _ _ _
          refine G_widen (cs' := ((rPh gm_F368532 el_F368532 f - rPh γ0 el0 f) / 18) + 0 + 0) (sl' := (rPh gm_F368532 el_F368532 f - rPh γ0 el0 f) + 0 + 0) (by omega) (by omega) ?_
          have hf368695 : gm_F368532 1 q368665 = f := (show gm_F368532 1 q368665 = gm_F368532 1 q368619 from ht368672).trans ((show gm_F368532 1 q368619 = gm_F368532 1 q365402 from ht368624).trans hf368567)
          have hf368696 : gm_F368532 1 q368675 = f := (show gm_F368532 1 q368675 = gm_F368532 1 q368665 from ht368680).trans hf368695
          have hf368697 : gm_F368532 1 q368676 = f := (show gm_F368532 1 q368676 = gm_F368532 1 q368665 from ht368682).trans hf368695
          have r368698 : gm_F368532 6 (gm_F368532 1 q368665) = gm_F368532 6 f := by rw [hf368695]
          have r368699 : gm_F368532 7 (gm_F368532 1 q368665) = gm_F368532 7 f := by rw [hf368695]
          have r368700 : gm_F368532 19 (gm_F368532 1 q368665) = gm_F368532 19 f := by rw [hf368695]
          have r368701 := r368684.resolve_left (by omega)
          clear r368684
          have r368702 : gm_F368532 2 (gm_F368532 14 q368665) = gm_F368532 2 q368675 := by rw [ht368685.1]
          have r368703 : (0 : Int32).toInt.toNat < gm_F368532 2 (gm_F368532 14 q365402) := by rw [ht368638.1]; omega
          have r368704 : el_F368532 (gm_F368532 14 q365402) (0 : Int32).toInt.toNat = q368665 := by rw [ht368638.1, hx368666]
          have r368705 : q368665 = q368493 := r368704.symm.trans r368575
          have sz368706 : gm_F368532 2 (gm_F368532 14 q368665) = gm_F368532 2 (gm_F368532 14 q368493) := by rw [r368705]
          have fq368707 : fR (F368608 q368665) 0 = q368675 := by rw [he368674]; rfl
          refine Gp_get 0 hm368673 he368674 dr_cX17_zeros_56 (gk_X12 D I) (Nat.le_of_ble_eq_true rfl) wr_9_220 rfl ?_
          refine G_iload_n 2 dr_cX17_zeros_59 rfl ?_
          refine G_aload 0 dr_cX17_zeros_60 rfl ?_
          have rg368708 := rM_ge hT368615 ht368566 hf368567
          have rm368709 := rM_bd hB368582
          have bd368710 := rBd_c hT368615 ht368566 hf368567 hB368582
          have rc368711 := rc_at hT368615 ht368566 hf368567
          have r368713 : gm_F368532 14 (el_F368532 (gm_F368532 14 q365402) (0 : Int32).toInt.toNat) = q368675 := by rw [r368704]; exact ht368685.1
          have r368714 := rg368708.2.2 _ r368703
          rw [r368713] at r368714
          have r368715 := bd368710.2.2.2 _ r368703
          rw [r368713] at r368715
          have r368716 : gm_F368532 7 (gm_F368532 1 q368533) = gm_F368532 7 f := by rw [x1368543]
          have hx368717 : rk_1 gm_F368532 q368533 (F368608 q368533) := ⟨0, g368341, p368591, p368592, p368593, p368594, p368595, he368611, (gB_w (gBl (show Int32.toInt 0 = 0 by decide)) (by decide) (by decide)), bg368341', bp368593, (gB_w bp368594' (by decide) (by decide)), (gB_w bp368595' (by decide) (by decide)), (Or.inl (by decide)), r368597, r368598, (Or.inl ⟨by decide, by decide⟩), (Or.inl x22368544)⟩
          refine Gt_ins (c := q365402) (f := f) hl0 dr_cX17_zeros_62 ⟨wr_10_207, wr_1_18, wr_10_210, by decide, rfl, (Nat.le_of_ble_eq_true rfl), (Nat.le_of_ble_eq_true rfl)⟩ wr_10_208 wr_10_209 hT368615 ht368679 hf368696 ht368583 x1368543 x22368544 r368584 (by omega) ht368566 hf368567 r368703 r368713 hx368717 (by omega) (by omega) (Nat.le_trans r368715 (Nat.le_trans hBk (by decide))) (rm_cs hph368585 r368714 rm368709 (by decide)) (rm_sl hph368585 r368714 rm368709 rm_s11) (Nat.le_of_ble_eq_true rfl) (fun P368718 F368712 gm_F368712 el_F368712 dc368719 ds368720 hq368721 => ?_)
          have hq368722 := hq368721
          obtain ⟨hk368723, x0368724, h2368725, hel368726, hot368727, h16368728, h18368729, hnu368730, hFx368731, hr368732, hM368733, hBB368734⟩ := hq368721
          have hk368735 := rSk_of hk368723
          have r368736 : (fI (F368712 q365402) 3).toInt = (fI (F368608 q365402) 3).toInt := by rw [rSk_F hk368735 ht368566 (by decide) (by decide)]
          obtain ⟨nu368737, nu368738, nu368739, nu368740⟩ := hnu368730
          have hT368741 := hk368735.1
          have hs368742 := rSk_tr hs368616 hk368735 (by decide) (by decide) (by decide)
          have kp368743 : F368712 q365401 = F365400 q365401 := (rSk_F hk368735 ht368565 (by decide) (by decide)).trans kp368613
          have ht368744 : rKd gm_F368712 q365401 10 := rSk_k hk368735 ht368565 (by decide) (by decide)
          have ht368745 : rKd gm_F368712 q365402 9 := rSk_k hk368735 ht368566 (by decide) (by decide)
          have hf368746 : gm_F368712 1 q365402 = f := rSk_1 hk368735 ht368566 (by decide) hf368567
          have ht368747 : rKd gm_F368712 q368493 2 := rSk_k hk368735 ht368568 (by decide) (by decide)
          have hf368748 : gm_F368712 1 q368493 = f := rSk_1 hk368735 ht368568 (by decide) hf368569
          have ht368749 : rKd gm_F368712 q368503 3 := rSk_k hk368735 ht368570 (by decide) (by decide)
          have hf368750 : gm_F368712 1 q368503 = f := rSk_1 hk368735 ht368570 (by decide) hf368571
          have ht368751 : rKd gm_F368712 q368665 2 := rSk_k hk368735 ht368671 (by decide) (by decide)
          have hf368752 : gm_F368712 1 q368665 = f := rSk_1 hk368735 ht368671 (by decide) hf368695
          have ht368753 : rKd gm_F368712 q368675 3 := rSk_k hk368735 ht368679 (by decide) (by decide)
          have hf368754 : gm_F368712 1 q368675 = f := rSk_1 hk368735 ht368679 (by decide) hf368696
          have r368755 := (rSk_s hk368735 ht368566 (by decide)).2.1
          have r368756 := hot368727 _ (by rw [rc368711.2.1]; decide) (fun q => by rw [q, show _ = 3 from ht368679] at rc368711; exact absurd rc368711.2.1 (by decide))
          have r368757 : (0 : Int32).toInt.toNat < gm_F368712 2 (gm_F368712 14 q365402) := by rw [r368755, r368756.1]; exact r368574
          have r368758 : el_F368712 (gm_F368712 14 q365402) (0 : Int32).toInt.toNat = q368493 := by rw [r368755, r368756.2]; exact r368575
          have r368759 : (0 : Int32).toInt.toNat < gm_F368712 2 (gm_F368712 14 q365402) := by rw [r368755, r368756.1]; exact r368703
          have r368760 : el_F368712 (gm_F368712 14 q365402) (0 : Int32).toInt.toNat = q368665 := by rw [r368755, r368756.2]; exact r368704
          clear bp368589 bp368590 bp368593 bp368594 bp368595 bp368591 bp368592 r368627 r368628 r368629 r368630 r368631 r368632 r368634 r368635 r368636 r368637 bp368621 bp368622 bp368677 bp368678 r368686 r368687 rg368708 rm368709 bd368710 rc368711 r368714 r368715
          clear r368596 r368597 r368598
          have r368761 : 0 < gm_F368712 6 (gm_F368712 1 q365402) := by rw [hf368746]; omega
          first | have sz368762 := (hot368727 q368503 (rT0 ht368570 (by decide)) (by assumption)).1 | skip
          have ht368763 : rKd gm_F368712 q368533 1 := x0368724
          have hB368764 : rBd gm_F368712 el_F368712 f B := hBB368734 B hB368582
          have hph368765 : rPh γ0 el0 f ≤ rPh gm_F368712 el_F368712 f := rm_ph hph368585 hr368732.2
          have pk368766 : rPh gm_F368712 el_F368712 f ≤ 387 * B + 6000 := rm_pk (rM_ge hT368741 ht368745 hf368746).1 (rM_bd hB368764)
          refine G_widen (cs' := ((rPh gm_F368712 el_F368712 f - rPh γ0 el0 f) / 18)) (sl' := (rPh gm_F368712 el_F368712 f - rPh γ0 el0 f)) (rm_wc hph368585 hr368732.1) (rm_ws hph368585 hr368732.2) ?_
          have r368767 : gm_F368712 14 q368665 = q368675 := ((rSk_s (rSk_of hk368723) ht368671 (by decide)).2.1).trans ht368685.1
          have sz368768 : gm_F368712 2 (gm_F368712 14 q368665) = gm_F368712 2 q368675 := by rw [r368767]
          have bg368342' : gB g368342 0 1999 := ⟨by omega, by omega⟩
          obtain ⟨z368769, hz368769⟩ : ∃ z : Int32, z = g368342 + Int32.ofInt 1 := ⟨_, rfl⟩
          have ez368769 : z368769.toInt = g368342.toInt + 1 := gI_inc hz368769 (by decide) bg368342' (by decide) (by decide)
          have bz368769 : gB z368769 1 2000 := ⟨by omega, by omega⟩
          refine G_iinc (L' := [(2, .int z368769), (4, .ref q368533), (3, .int g368341), (0, .ref q365401), (1, .ref q365402)]) z368769 2 dr_cX17_zeros_65 rfl hz368769.symm (Nat.le_of_ble_eq_true rfl) rfl ?_
          obtain ⟨z368770, hz368770⟩ : ∃ z : Int32, z = g368341 + Int32.ofInt 1 := ⟨_, rfl⟩
          have ez368770 : z368770.toInt = g368341.toInt + 1 := gI_inc hz368770 (by decide) bg368341' (by decide) (by decide)
          have bz368770 : gB z368770 1 2000 := ⟨by omega, by omega⟩
          refine G_iinc (L' := [(3, .int z368770), (2, .int z368769), (4, .ref q368533), (0, .ref q365401), (1, .ref q365402)]) z368770 2 dr_cX17_zeros_68 rfl hz368770.symm (Nat.le_of_ble_eq_true rfl) rfl ?_
          refine G_goto 10 dr_cX17_zeros_71 (by decide +kernel) ?_
          refine G_lv (L' := [(3, .int z368770), (2, .int z368769), (0, .ref q365401), (1, .ref q365402)]) [0, 1, 3, 4] rfl ?_
          exact ih10_368355 P368718 F368712 gm_F368712 el_F368712 z368770 z368769 (gB_w bz368770 (by decide) (by decide)) (gB_w bz368769 (by decide) (by decide)) hT368741 hs368742 hph368765 hB368764 (by omega) (by omega) (by omega) (by omega) (by omega) (by rw [r368760]; omega) kp368743 (fun k e1 e2 e3 e4 ht => kt10_368356 k e1 e2 e3 e4 (fun R c1 c2 c3 => c3 P368343 F368344 gm_F368344 el_F368344 g368341 g368342 q368418 f368423 q368447 q368493 P368531 F368532 gm_F368532 el_F368532 q368533 dc368534 ds368535 F368602 F368608 q368619 q368665 p368647 q368675 P368718 F368712 gm_F368712 el_F368712 dc368719 ds368720 z368769 z368770 k e1 e2 e3 e4 bg368341 bg368342 hT368345 hs368346 x368349 x368350 x368351 x368352 x368353 x368354 x368355 r368365 fq368413 hx368420 he368422 r368442 fq368498 hx368494 hq368540 n368604 fq368607 n368610 fq368614 fq368670 hx368666 fq368688 ht368694 fq368707 hq368722 ez368769 ez368770 (ht R c1 c2 c3))) (by omega)
  exact hlp10_368355 (((2001 : Int) - 0).toNat + 1) P365399 F365467 gm_0 el_0 0 0 (gB_w (gBl (show Int32.toInt 0 = 0 by decide)) (by decide) (by decide)) (gB_w (gBl (show Int32.toInt 0 = 0 by decide)) (by decide) (by decide)) hT365468 hs365470 hph hB (by have qa0 : Int32.toInt 0 = 0 := (by decide); omega) (by have qa0 : Int32.toInt 0 = 0 := (by decide); omega) (by have qa0 : Int32.toInt 0 = 0 := (by decide); omega) (by have qa0 : Int32.toInt 0 = 0 := (by decide); omega) (by have qa0 : Int32.toInt 0 = 0 := (by decide); omega) (by have qa : Int32.toInt 0 = 0 := (by decide); omega) kp365471 (fun k e1 e2 e3 e4 ht => ht) (Nat.lt_succ_self _)
