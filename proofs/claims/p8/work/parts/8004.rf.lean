abbrev ky_407734_SpillForgeModel_findDepth : gKey := (cX17_findDepth, 13, "SpillForgeModel", none, [], "findDepth", fun _ _ => True)
def pt_407734_SpillForgeModel_findDepth (D : va_G) (I : FieldType → ClassId) (γ el : Nat → Nat → Nat) (P407729 : List Nat) (F407730 : Nat → va_E) (q407731 : Nat) (q407732 : Nat) : Option Value → va_W → Nat → Nat → Prop := fun r w dc ds => ∃ (F533869 : Nat → va_E), r = none ∧ w = va_pl P407729 F533869 ∧ RS D I P407729 F533869 γ el ∧ rStr γ [] F407730 F533869 ∧ dc ≤ 0 ∧ ds ≤ 0 ∧ (F533869 q407731 = F407730 q407731) ∧ (F533869 (γ 9 3) = F407730 (γ 9 3)) ∧ tr_RModel_findDepth2 D I γ el P407729 F407730 q407731 q407732 F533869
set_option maxRecDepth 100000 in
set_option maxHeartbeats 4000000 in
theorem ct_407734_SpillForgeModel_findDepth (l : Launch) (hl0 : l.stackTraces = false) (D : va_G) (I : FieldType → ClassId) (γ el : Nat → Nat → Nat) (P407729 : List Nat) (F407730 : Nat → va_E) (q407731 : Nat) (q407732 : Nat) (hT : RS D I P407729 F407730 γ el) (htq407731 : rKd γ q407731 10) (htq407732 : rKd γ q407732 9) (x407733 : 0 < γ 6 (γ 1 q407732)) : CtA (gV D I) l yX17_findDepth cX17_findDepth 13 none 5 112 0 0 [.ref q407731, .ref q407732] (va_pl P407729 F407730) (pt_407734_SpillForgeModel_findDepth D I γ el P407729 F407730 q407731 q407732) gNA := by
  refine CtA_of hl0 (by decide) (Nat.le_of_ble_eq_true rfl) ?_
  have hm407735 : q407731 ∈ P407729 := RS_m hT htq407731 (by decide)
  refine rk10_e (show rk_10 γ (F407730 q407731) from RS_o hT htq407731) (fun q407737 q407738 p407739 p407740 p407741 p407742 p407743 p407744 p407745 p407746 p407747 p407748 p407749 p407750 p407751 p407752 p407753 he407736 hB407780 ht407754 ht407755 ht407756 ht407757 ht407758 ht407759 ht407760 ht407761 ht407762 ht407763 ht407764 ht407765 ht407766 ht407767 ht407768 ht407769 ht407770 ht407771 ht407772 ht407773 ht407774 ht407775 ht407776 ht407777 hB407781 => ?_)
  refine G_iconst 0 dr_cX17_findDepth_0 (by decide +kernel) ?_
  refine G_istore_n (L' := [(2, .int 0), (0, .ref q407731), (1, .ref q407732)]) dr_cX17_findDepth_1 (Nat.le_of_ble_eq_true rfl) rfl ?_
  have hlp2_528137 : ∀ (n2_528137 : Nat) (F528133 : Nat → va_E) (g528132 : Int32), gB g528132 0 1000000 → RS D I P407729 F528133 γ el → rStr γ [] F407730 F528133 → (F528133 q407731 = F407730 q407731) → (F528133 (γ 9 3) = F407730 (γ 9 3)) → (∀ (k : Nat) (e1 : Nat → va_E), tl_RModel_findDepth2_2 D I γ el P407729 F407730 q407731 q407732 F528133 g528132 k e1 → tl_RModel_findDepth2_2 D I γ el P407729 F407730 q407731 q407732 F407730 (0 : Int32) k e1) → ((1000001 : Int) - g528132.toInt).toNat < n2_528137 → G (gV D I) l (gRm 5 112 0 0) (gMA (gV D I) (pt_407734_SpillForgeModel_findDepth D I γ el P407729 F407730 q407731 q407732) gNA 0 0) ky_407734_SpillForgeModel_findDepth 2 [(2, .int g528132), (0, .ref q407731), (1, .ref q407732)] [] (va_pl P407729 F528133) 0 0 := by
    intro n2_528137
    induction n2_528137 with
    | zero => intro F528133 g528132 bg528132 hT528134 hs528135 x528136 x528137 kt2_528138 hm2_528137; exact absurd hm2_528137 (Nat.not_lt_zero _)
    | succ n2_528137 ih2_528137 =>
      intro F528133 g528132 bg528132 hT528134 hs528135 x528136 x528137 kt2_528138 hm2_528137
      have hs528139 : rStr γ [] F407730 F528133 := fun b h0 hb hw => (hs528135 b h0 hb hw).trans ((rStr_rf (γ := γ) (W := []) (F := F407730)) b h0 hb hw).symm
      have hs528140 : rStr γ [] F407730 F528133 := rStr_tr (rStr_rf (γ := γ) (W := []) (F := F407730)) hs528139
      have he528141 : F528133 q407731 = .inr (22, [.ref (γ 9 0), .ref (γ 9 1), .ref (γ 9 2), .ref (γ 9 3), .ref (γ 9 4), .ref (γ 9 5), .ref (γ 9 6), .ref (γ 9 7), .ref (γ 9 8), .int p407739, .int p407740, .int p407741, .int p407742, .int p407743, .int p407744, .ref (γ 9 15), .ref (γ 9 16), .ref (γ 9 17), .ref (γ 9 18), .ref (γ 9 19), .ref (γ 9 20), .ref (γ 9 21), .ref (γ 9 22), .int p407745, .int p407746, .int p407747, .int p407748, .int p407749, .ref q407737, .ref (γ 9 29), .int p407750, .ref (γ 9 31), .int p407751, .int p407752, .int p407753, .ref q407738]) := x528136.trans he407736
      have hm528142 : q407731 ∈ P407729 := RS_m hT528134 htq407731 (by decide)
      refine G_iload_n 0 dr_cX17_findDepth_2 rfl ?_
      refine G_aload_n 2 dr_cX17_findDepth_3 rfl ?_
      have hm528143 : q407732 ∈ P407729 := RS_m hT528134 htq407732 (by decide)
      obtain ⟨q528145, q528146, p528147, p528148, he528144, ht528164, ht528149, ht528150, ht528151, ht528152, r528153, r528154, r528155, r528156, r528157, r528158, r528159, r528160, r528161, r528162, r528163⟩ := show rk_9 γ el q407732 (F528133 q407732) from RS_o hT528134 htq407732
      have bp528147 : gB p528147 0 1000000 := ⟨by omega, by omega⟩
      have bp528148 : gB p528148 0 1000000 := ⟨by omega, by omega⟩
      have fq528165 : fI (F528133 q407732) 3 = p528148 := by rw [he528144]; rfl
      refine Gw_callV (As := []) (gV_ok D I) (cp_12780_Code_size l hl0 D I P407729 F528133 q407732 q528145 q528146 p528147 p528148 hm528143 he528144) dr_cX17_findDepth_4 ⟨wr_10_160, wr_1_15, wr_9_131, by decide, rfl, (Nat.le_of_ble_eq_true rfl), (Nat.le_of_ble_eq_true rfl)⟩ wr_9_129 wr_9_130 hm528143 he528144 rfl (show 0 + 0 ≤ 0 by first | omega | decide) (show 0 + 0 ≤ 0 by first | omega | decide) (Nat.le_of_ble_eq_true rfl) (fun r528169 w528170 dc528166 ds528167 hp528168 => ?_) (fun _ _ _ _ _ z => z.elim)
      obtain ⟨rfl, rfl, hdc, hds⟩ := hp528168
      change G _ _ _ _ _ _ _ (.int p528148 :: _) _ _ _
      refine G_widen (cs' := 0) (sl' := 0) (by omega) (by omega) ?_
      refine G_icmp_ge 23 dr_cX17_findDepth_7 (by decide +kernel) (fun hc528171 => ?_) (fun hc528171 => ?_)
      · have r528172 : p528148.toInt ≤ g528132.toInt := gC_le hc528171
        have hx528173 : tl_RModel_findDepth2_2 D I γ el P407729 F407730 q407731 q407732 F407730 (0 : Int32) 23 F528133 := kt2_528138 23 F528133 (fun R c1 c2 => c1 F528133 g528132 p528148 bg528132 hT528134 hs528135 x528136 x528137 fq528165 r528172)
        refine G_aload_n 2 dr_cX17_findDepth_23 rfl ?_
        refine G_iconst (-1) dr_cX17_findDepth_24 (by decide +kernel) ?_
        refine Gw_callS (As := [.ref q407732, .int (-1)]) (gV_ok D I) (ct_12748_SpillForgeModel_reached l hl0 D I γ el P407729 F528133 q407732 (-1) hT528134 htq407732 (by omega)) dr_cX17_findDepth_25 ⟨wr_11_41, wr_1_14, wr_11_43, by decide, rfl, (Nat.le_of_ble_eq_true rfl), (Nat.le_of_ble_eq_true rfl)⟩ wr_11_42 (show 0 + 0 ≤ 0 by first | omega | decide) (show 0 + 0 ≤ 0 by first | omega | decide) (Nat.le_of_ble_eq_true rfl) (fun r528177 w528178 dc528174 ds528175 hp528176 => ?_) (fun _ _ _ _ _ z => z.elim)
        obtain ⟨ol528179, rfl, rfl, hdc, hds, ht528180⟩ := hp528176
        change G _ _ _ _ _ _ _ (.long ol528179 :: _) _ _ _
        refine G_widen (cs' := 0) (sl' := 0) (by omega) (by omega) ?_
        refine G_lstore_n (L' := [(2, .long ol528179), (0, .ref q407731), (1, .ref q407732)]) dr_cX17_findDepth_28 (Nat.le_of_ble_eq_true rfl) rfl ?_
        refine G_iconst 0 dr_cX17_findDepth_29 (by decide +kernel) ?_
        refine G_istore (L' := [(4, .int 0), (2, .long ol528179), (0, .ref q407731), (1, .ref q407732)]) dr_cX17_findDepth_30 (Nat.le_of_ble_eq_true rfl) rfl ?_
        have hlp32_531009 : ∀ (n32_531009 : Nat) (F531005 : Nat → va_E) (g531004 : Int32), gB g531004 0 1000000 → RS D I P407729 F531005 γ el → rStr γ [] F407730 F531005 → (F531005 q407731 = F407730 q407731) → (F531005 (γ 9 3) = F407730 (γ 9 3)) → (∀ (k : Nat) (e1 : Nat → va_E), tl_RModel_findDepth2_32 D I γ el P407729 F407730 q407731 q407732 ol528179 F531005 g531004 k e1 → tl_RModel_findDepth2_32 D I γ el P407729 F407730 q407731 q407732 ol528179 F528133 (0 : Int32) k e1) → ((1000001 : Int) - g531004.toInt).toNat < n32_531009 → G (gV D I) l (gRm 5 112 0 0) (gMA (gV D I) (pt_407734_SpillForgeModel_findDepth D I γ el P407729 F407730 q407731 q407732) gNA 0 0) ky_407734_SpillForgeModel_findDepth 32 [(4, .int g531004), (2, .long ol528179), (0, .ref q407731), (1, .ref q407732)] [] (va_pl P407729 F531005) 0 0 := by
          intro n32_531009
          induction n32_531009 with
          | zero => intro F531005 g531004 bg531004 hT531006 hs531007 x531008 x531009 kt32_531010 hm32_531009; exact absurd hm32_531009 (Nat.not_lt_zero _)
          | succ n32_531009 ih32_531009 =>
            intro F531005 g531004 bg531004 hT531006 hs531007 x531008 x531009 kt32_531010 hm32_531009
            have hs531011 : rStr γ [] F528133 F531005 := fun b h0 hb hw => (hs531007 b h0 hb hw).trans (hs528135 b h0 hb hw).symm
            have he531012 : F531005 q407732 = .inr (18, [.ref q528145, .ref q528146, .int p528147, .int p528148]) := (hs531011 q407732 (rT0 htq407732 (by decide)) (rT1 htq407732 (by decide)) (rT2 htq407732 (by decide))).trans he528144
            have hs531013 : rStr γ [] F407730 F531005 := rStr_tr hs528135 hs531011
            have he531014 : F531005 q407731 = .inr (22, [.ref (γ 9 0), .ref (γ 9 1), .ref (γ 9 2), .ref (γ 9 3), .ref (γ 9 4), .ref (γ 9 5), .ref (γ 9 6), .ref (γ 9 7), .ref (γ 9 8), .int p407739, .int p407740, .int p407741, .int p407742, .int p407743, .int p407744, .ref (γ 9 15), .ref (γ 9 16), .ref (γ 9 17), .ref (γ 9 18), .ref (γ 9 19), .ref (γ 9 20), .ref (γ 9 21), .ref (γ 9 22), .int p407745, .int p407746, .int p407747, .int p407748, .int p407749, .ref q407737, .ref (γ 9 29), .int p407750, .ref (γ 9 31), .int p407751, .int p407752, .int p407753, .ref q407738]) := x531008.trans he407736
            have hm531015 : q407731 ∈ P407729 := RS_m hT531006 htq407731 (by decide)
            refine G_iload 0 dr_cX17_findDepth_32 rfl ?_
            refine G_aload_n 3 dr_cX17_findDepth_34 rfl ?_
            have fq531016 : fI (F531005 q407732) 3 = p528148 := by rw [he531012]; rfl
            refine Gw_callV (As := []) (gV_ok D I) (cp_12780_Code_size l hl0 D I P407729 F531005 q407732 q528145 q528146 p528147 p528148 hm528143 he531012) dr_cX17_findDepth_35 ⟨wr_10_160, wr_1_15, wr_9_131, by decide, rfl, (Nat.le_of_ble_eq_true rfl), (Nat.le_of_ble_eq_true rfl)⟩ wr_9_129 wr_9_130 hm528143 he531012 rfl (show 0 + 0 ≤ 0 by first | omega | decide) (show 0 + 0 ≤ 0 by first | omega | decide) (Nat.le_of_ble_eq_true rfl) (fun r531020 w531021 dc531017 ds531018 hp531019 => ?_) (fun _ _ _ _ _ z => z.elim)
            obtain ⟨rfl, rfl, hdc, hds⟩ := hp531019
            change G _ _ _ _ _ _ _ (.int p528148 :: _) _ _ _
            refine G_widen (cs' := 0) (sl' := 0) (by omega) (by omega) ?_
            refine G_icmp_ge 339 dr_cX17_findDepth_38 (by decide +kernel) (fun hc531022 => ?_) (fun hc531022 => ?_)
            · have r531023 : p528148.toInt ≤ g531004.toInt := gC_le hc531022
              have hx531024 : tl_RModel_findDepth2_32 D I γ el P407729 F407730 q407731 q407732 ol528179 F528133 (0 : Int32) 339 F531005 := kt32_531010 339 F531005 (fun R c1 c2 c3 c4 => c1 F531005 g531004 p528148 bg531004 hT531006 hs531007 x531008 x531009 fq531016 r531023)
              refine G_iconst 0 dr_cX17_findDepth_339 (by decide +kernel) ?_
              refine G_istore (L' := [(4, .int 0), (2, .long ol528179), (0, .ref q407731), (1, .ref q407732)]) dr_cX17_findDepth_340 (Nat.le_of_ble_eq_true rfl) rfl ?_
              have hlp342_531064 : ∀ (n342_531064 : Nat) (F531060 : Nat → va_E) (g531059 : Int32), gB g531059 0 1000000 → RS D I P407729 F531060 γ el → rStr γ [] F407730 F531060 → (F531060 q407731 = F407730 q407731) → (F531060 (γ 9 3) = F407730 (γ 9 3)) → (∀ (k : Nat) (e1 : Nat → va_E), tl_RModel_findDepth2_342 D I γ el P407729 F407730 q407731 q407732 F531060 g531059 k e1 → tl_RModel_findDepth2_342 D I γ el P407729 F407730 q407731 q407732 F531005 (0 : Int32) k e1) → ((1000001 : Int) - g531059.toInt).toNat < n342_531064 → G (gV D I) l (gRm 5 112 0 0) (gMA (gV D I) (pt_407734_SpillForgeModel_findDepth D I γ el P407729 F407730 q407731 q407732) gNA 0 0) ky_407734_SpillForgeModel_findDepth 342 [(4, .int g531059), (2, .long ol528179), (0, .ref q407731), (1, .ref q407732)] [] (va_pl P407729 F531060) 0 0 := by
                intro n342_531064
                induction n342_531064 with
                | zero => intro F531060 g531059 bg531059 hT531061 hs531062 x531063 x531064 kt342_531065 hm342_531064; exact absurd hm342_531064 (Nat.not_lt_zero _)
                | succ n342_531064 ih342_531064 =>
                  intro F531060 g531059 bg531059 hT531061 hs531062 x531063 x531064 kt342_531065 hm342_531064
                  have hs531066 : rStr γ [] F531005 F531060 := fun b h0 hb hw => (hs531062 b h0 hb hw).trans (hs531007 b h0 hb hw).symm
                  have he531067 : F531060 q407732 = .inr (18, [.ref q528145, .ref q528146, .int p528147, .int p528148]) := (hs531066 q407732 (rT0 htq407732 (by decide)) (rT1 htq407732 (by decide)) (rT2 htq407732 (by decide))).trans he531012
                  have hs531068 : rStr γ [] F407730 F531060 := rStr_tr hs531007 hs531066
                  have he531069 : F531060 q407731 = .inr (22, [.ref (γ 9 0), .ref (γ 9 1), .ref (γ 9 2), .ref (γ 9 3), .ref (γ 9 4), .ref (γ 9 5), .ref (γ 9 6), .ref (γ 9 7), .ref (γ 9 8), .int p407739, .int p407740, .int p407741, .int p407742, .int p407743, .int p407744, .ref (γ 9 15), .ref (γ 9 16), .ref (γ 9 17), .ref (γ 9 18), .ref (γ 9 19), .ref (γ 9 20), .ref (γ 9 21), .ref (γ 9 22), .int p407745, .int p407746, .int p407747, .int p407748, .int p407749, .ref q407737, .ref (γ 9 29), .int p407750, .ref (γ 9 31), .int p407751, .int p407752, .int p407753, .ref q407738]) := x531063.trans he407736
                  have hm531070 : q407731 ∈ P407729 := RS_m hT531061 htq407731 (by decide)
                  refine G_iload 0 dr_cX17_findDepth_342 rfl ?_
                  refine G_aload_n 3 dr_cX17_findDepth_344 rfl ?_
                  have fq531071 : fI (F531060 q407732) 3 = p528148 := by rw [he531067]; rfl
                  refine Gw_callV (As := []) (gV_ok D I) (cp_12780_Code_size l hl0 D I P407729 F531060 q407732 q528145 q528146 p528147 p528148 hm528143 he531067) dr_cX17_findDepth_345 ⟨wr_10_160, wr_1_15, wr_9_131, by decide, rfl, (Nat.le_of_ble_eq_true rfl), (Nat.le_of_ble_eq_true rfl)⟩ wr_9_129 wr_9_130 hm528143 he531067 rfl (show 0 + 0 ≤ 0 by first | omega | decide) (show 0 + 0 ≤ 0 by first | omega | decide) (Nat.le_of_ble_eq_true rfl) (fun r531075 w531076 dc531072 ds531073 hp531074 => ?_) (fun _ _ _ _ _ z => z.elim)
                  obtain ⟨rfl, rfl, hdc, hds⟩ := hp531074
                  change G _ _ _ _ _ _ _ (.int p528148 :: _) _ _ _
                  refine G_widen (cs' := 0) (sl' := 0) (by omega) (by omega) ?_
                  refine G_icmp_ge 375 dr_cX17_findDepth_348 (by decide +kernel) (fun hc531077 => ?_) (fun hc531077 => ?_)
                  · have r531078 : p528148.toInt ≤ g531059.toInt := gC_le hc531077
                    have hx531079 : tl_RModel_findDepth2_342 D I γ el P407729 F407730 q407731 q407732 F531005 (0 : Int32) 375 F531060 := kt342_531065 375 F531060 (fun R c1 c2 => c1 F531060 g531059 p528148 bg531059 hT531061 hs531062 x531063 x531064 fq531071 r531078)
                    exact G_vretA dr_cX17_findDepth_375 rfl (Nat.le_of_ble_eq_true rfl) (Nat.le_of_ble_eq_true rfl) ⟨F531060, rfl, rfl, hT531061, hs531062, (Nat.le_of_ble_eq_true rfl), (Nat.le_of_ble_eq_true rfl), x531063, x531064, (fun R c1 => c1 F528133 ol528179 F531005 F531060 hx528173 ht528180 hx531024 hx531079)⟩
                  · have r531080 : g531059.toInt < p528148.toInt := gC_nle hc531077
                    have bg531059' : gB g531059 0 999999 := ⟨by omega, by omega⟩
                    have bp528148' : gB p528148 1 1000000 := ⟨by omega, by omega⟩
                    refine G_aload_n 2 dr_cX17_findDepth_351 rfl ?_
                    have fq531081 : fR (F531060 q407731) 4 = (γ 9 4) := by rw [he531069]; rfl
                    refine Gp_get 4 hm531070 he531069 dr_cX17_findDepth_352 (gk_X17 D I) (Nat.le_of_ble_eq_true rfl) wr_7_78 rfl ?_
                    refine G_iload 0 dr_cX17_findDepth_355 rfl ?_
                    refine G_aload_n 2 dr_cX17_findDepth_357 rfl ?_
                    refine Gp_get 4 hm531070 he531069 dr_cX17_findDepth_358 (gk_X17 D I) (Nat.le_of_ble_eq_true rfl) wr_7_78 rfl ?_
                    refine G_iload 0 dr_cX17_findDepth_361 rfl ?_
                    have hm531082 : (γ 9 4) ∈ P407729 := RS_m hT531061 ht407760 (by decide)
                    obtain ⟨f531084, he531083⟩ := show rk_16 I (F531060 (γ 9 4)) from RS_o hT531061 ht407760
                    refine Gp_iald 0 hm531082 he531083 dr_cX17_findDepth_363 rfl (gB_inr (by omega) (by omega)) (G_nam fun z531085 hz531085 => ?_)
                    have bz531085 : gB z531085 (-2147483648) 2147483647 := gB_any z531085
                    refine G_iconst 4 dr_cX17_findDepth_364 (by decide +kernel) ?_
                    refine G_mmin dr_cX17_findDepth_365 wr_11_20 wr_3_227 wr_1_6 wr_3_228 (Nat.le_of_ble_eq_true rfl) (Nat.le_of_ble_eq_true rfl) (show 0 ≤ 0 by first | omega | decide) (show 0 ≤ 0 by first | omega | decide) (G_nam fun z531086 hz531086 => ?_)
                    have ez531086 : z531085.toInt ≥ z531086.toInt ∧ 4 ≥ z531086.toInt ∧ (z531086.toInt = z531085.toInt ∨ z531086.toInt = 4) := by have := gI_min hz531086; rw [show Int32.toInt 4 = 4 from by decide] at this; omega
                    have bz531086 : gB z531086 (-2147483648) 4 := ⟨by omega, by omega⟩
                    refine Gp_iast 0 hm531082 he531083 dr_cX17_findDepth_368 rfl (gB_inr (by omega) (by omega)) (fun F531087 e531088 n531089 => ?_)
                    obtain ⟨f531090, hf531090⟩ : ∃ z, z = upd f531084 g531059.toNatClampNeg z531086 := ⟨_, rfl⟩
                    rw [← hf531090] at e531088
                    have he531091 : F531087 q407732 = .inr (18, [.ref q528145, .ref q528146, .int p528147, .int p528148]) := (n531089 q407732 (rn_oa he531067 he531083)).trans he531067
                    have he531092 : F531087 q407731 = .inr (22, [.ref (γ 9 0), .ref (γ 9 1), .ref (γ 9 2), .ref (γ 9 3), .ref (γ 9 4), .ref (γ 9 5), .ref (γ 9 6), .ref (γ 9 7), .ref (γ 9 8), .int p407739, .int p407740, .int p407741, .int p407742, .int p407743, .int p407744, .ref (γ 9 15), .ref (γ 9 16), .ref (γ 9 17), .ref (γ 9 18), .ref (γ 9 19), .ref (γ 9 20), .ref (γ 9 21), .ref (γ 9 22), .int p407745, .int p407746, .int p407747, .int p407748, .int p407749, .ref q407737, .ref (γ 9 29), .int p407750, .ref (γ 9 31), .int p407751, .int p407752, .int p407753, .ref q407738]) := (n531089 q407731 (rn_oa he531069 he531083)).trans he531069
                    have he531093 : F531087 (γ 9 4) = .inl (I .int, 40, .inl f531090) := e531088
                    have hs531094 : rStr γ [] F407730 F531087 := rStr_put hs531062 n531089 ht407760 (by decide)
                    have kp531095 : F531087 q407731 = F407730 q407731 := (n531089 q407731 (rn_ty htq407731 ht407760 (by decide))).trans x531063
                    have kp531096 : F531087 (γ 9 3) = F407730 (γ 9 3) := (n531089 (γ 9 3) (rn_ty ht407759 ht407760 (by decide))).trans x531064
                    obtain ⟨z531097, hz531097⟩ : ∃ z : Int32, z = g531059 + Int32.ofInt 1 := ⟨_, rfl⟩
                    have ez531097 : z531097.toInt = g531059.toInt + 1 := gI_inc hz531097 (by decide) bg531059' (by decide) (by decide)
                    have bz531097 : gB z531097 1 1000000 := ⟨by omega, by omega⟩
                    refine G_iinc (L' := [(4, .int z531097), (2, .long ol528179), (0, .ref q407731), (1, .ref q407732)]) z531097 0 dr_cX17_findDepth_369 rfl hz531097.symm (Nat.le_of_ble_eq_true rfl) rfl ?_
                    refine G_goto 342 dr_cX17_findDepth_372 (by decide +kernel) ?_
                    have hT531098 : RS D I P407729 F531087 γ el := RS_set hT531061 n531089 ht407760 (by decide) ⟨f531090, he531093⟩
                    exact ih342_531064 F531087 z531097 (gB_w bz531097 (by decide) (by decide)) hT531098 hs531094 kp531095 kp531096 (fun k e1 ht => kt342_531065 k e1 (fun R c1 c2 => c2 F531060 g531059 p528148 f531084 z531085 z531086 f531090 F531087 z531097 k e1 bg531059 hT531061 hs531062 x531063 x531064 fq531071 r531080 fq531081 he531083 hz531085 ez531086 hf531090 n531089 he531093 ez531097 (ht R c1 c2))) (mz_up ez531097 (Int.le_trans bg531059'.2 (by decide)) hm342_531064)
              exact hlp342_531064 (((1000001 : Int) - 0).toNat + 1) F531005 0 (gB_w (gBl (show Int32.toInt 0 = 0 by decide)) (by decide) (by decide)) hT531006 hs531007 x531008 x531009 (fun k e1 ht => ht) (Nat.lt_succ_self _)
            · have r531099 : g531004.toInt < p528148.toInt := gC_nle hc531022
              have bg531004' : gB g531004 0 999999 := ⟨by omega, by omega⟩
              have bp528148' : gB p528148 1 1000000 := ⟨by omega, by omega⟩
              refine G_lload_n 1 dr_cX17_findDepth_41 rfl ?_
              refine G_iload 0 dr_cX17_findDepth_42 rfl ?_
              refine G_lushr dr_cX17_findDepth_44 (G_namL fun u531100 hu531100 => ?_)
              refine G_lconst 1 dr_cX17_findDepth_45 rfl ?_
              refine G_land dr_cX17_findDepth_46 (G_namL fun u531101 hu531101 => ?_)
              refine G_lconst 0 dr_cX17_findDepth_47 rfl ?_
              refine G_lcmp dr_cX17_findDepth_48 (G_nam fun z531102 hz531102 => ?_)
              have bz531102 : gB z531102 (-1) 1 := gB_cmp hz531102
              refine G_if_ne 55 dr_cX17_findDepth_49 (by decide +kernel) (fun hc531103 => ?_) (fun hc531103 => ?_)
              · have r531104 : z531102.toInt ≠ 0 := gj_neq hc531103 (show Int32.toInt 0 = 0 by decide)
                have lhc531103 := gC_cmpN hz531102 hc531103
                refine G_lload_n 1 dr_cX17_findDepth_55 rfl ?_
                refine G_aload_n 3 dr_cX17_findDepth_56 rfl ?_
                refine G_iload 0 dr_cX17_findDepth_57 rfl ?_
                refine Gw_callS (As := [.ref q407732, .int g531004]) (gV_ok D I) (ct_12748_SpillForgeModel_reached l hl0 D I γ el P407729 F531005 q407732 g531004 hT531006 htq407732 (by omega)) dr_cX17_findDepth_59 ⟨wr_11_41, wr_1_14, wr_11_43, by decide, rfl, (Nat.le_of_ble_eq_true rfl), (Nat.le_of_ble_eq_true rfl)⟩ wr_11_42 (show 0 + 0 ≤ 0 by first | omega | decide) (show 0 + 0 ≤ 0 by first | omega | decide) (Nat.le_of_ble_eq_true rfl) (fun r531108 w531109 dc531105 ds531106 hp531107 => ?_) (fun _ _ _ _ _ z => z.elim)
                obtain ⟨ol531110, rfl, rfl, hdc, hds, ht531111⟩ := hp531107
                change G _ _ _ _ _ _ _ (.long ol531110 :: _) _ _ _
                refine G_widen (cs' := 0) (sl' := 0) (by omega) (by omega) ?_
                refine G_ldc2 (-1) dr_cX17_findDepth_62 wr_10_188 ?_
                refine G_lxor dr_cX17_findDepth_65 (G_namL fun u531112 hu531112 => ?_)
                refine G_land dr_cX17_findDepth_66 (G_namL fun u531113 hu531113 => ?_)
                refine G_lstore (L' := [(5, .long u531113), (4, .int g531004), (2, .long ol528179), (0, .ref q407731), (1, .ref q407732)]) dr_cX17_findDepth_67 (Nat.le_of_ble_eq_true rfl) rfl ?_
                refine G_lconst 0 dr_cX17_findDepth_69 rfl ?_
                refine G_lstore (L' := [(7, .long 0), (5, .long u531113), (4, .int g531004), (2, .long ol528179), (0, .ref q407731), (1, .ref q407732)]) dr_cX17_findDepth_70 (Nat.le_of_ble_eq_true rfl) rfl ?_
                refine G_iconst 0 dr_cX17_findDepth_72 (by decide +kernel) ?_
                refine G_istore (L' := [(9, .int 0), (7, .long 0), (5, .long u531113), (4, .int g531004), (2, .long ol528179), (0, .ref q407731), (1, .ref q407732)]) dr_cX17_findDepth_73 (Nat.le_of_ble_eq_true rfl) rfl ?_
                have hlp75_532474 : ∀ (n75_532474 : Nat) (g532473 : Int32) (gl532474 : Int64), gB g532473 0 1000000 → (∀ (k : Nat) (e1 : Int64), tl_RModel_findDepth2_75 D I γ el F531005 q407732 u531113 g531004 g532473 gl532474 k e1 → tl_RModel_findDepth2_75 D I γ el F531005 q407732 u531113 g531004 (0 : Int32) (0 : Int64) k e1) → ((1000001 : Int) - g532473.toInt).toNat < n75_532474 → G (gV D I) l (gRm 5 112 0 0) (gMA (gV D I) (pt_407734_SpillForgeModel_findDepth D I γ el P407729 F407730 q407731 q407732) gNA 0 0) ky_407734_SpillForgeModel_findDepth 75 [(9, .int g532473), (7, .long gl532474), (5, .long u531113), (4, .int g531004), (2, .long ol528179), (0, .ref q407731), (1, .ref q407732)] [] (va_pl P407729 F531005) 0 0 := by
                  intro n75_532474
                  induction n75_532474 with
                  | zero => intro g532473 gl532474 bg532473 kt75_532475 hm75_532474; exact absurd hm75_532474 (Nat.not_lt_zero _)
                  | succ n75_532474 ih75_532474 =>
                    intro g532473 gl532474 bg532473 kt75_532475 hm75_532474
                    refine G_iload 0 dr_cX17_findDepth_75 rfl ?_
                    refine G_aload_n 6 dr_cX17_findDepth_77 rfl ?_
                    have fq532476 : fI (F531005 q407732) 3 = p528148 := by rw [he531012]; rfl
                    refine Gw_callV (As := []) (gV_ok D I) (cp_12780_Code_size l hl0 D I P407729 F531005 q407732 q528145 q528146 p528147 p528148 hm528143 he531012) dr_cX17_findDepth_78 ⟨wr_10_160, wr_1_15, wr_9_131, by decide, rfl, (Nat.le_of_ble_eq_true rfl), (Nat.le_of_ble_eq_true rfl)⟩ wr_9_129 wr_9_130 hm528143 he531012 rfl (show 0 + 0 ≤ 0 by first | omega | decide) (show 0 + 0 ≤ 0 by first | omega | decide) (Nat.le_of_ble_eq_true rfl) (fun r532480 w532481 dc532477 ds532478 hp532479 => ?_) (fun _ _ _ _ _ z => z.elim)
                    obtain ⟨rfl, rfl, hdc, hds⟩ := hp532479
                    change G _ _ _ _ _ _ _ (.int p528148 :: _) _ _ _
                    refine G_widen (cs' := 0) (sl' := 0) (by omega) (by omega) ?_
                    refine G_icmp_ge 125 dr_cX17_findDepth_81 (by decide +kernel) (fun hc532482 => ?_) (fun hc532482 => ?_)
                    · have r532483 : p528148.toInt ≤ g532473.toInt := gC_le hc532482
                      have bg532473' : gB g532473 1 1000000 := ⟨by omega, by omega⟩
                      have hx532484 : tl_RModel_findDepth2_75 D I γ el F531005 q407732 u531113 g531004 (0 : Int32) (0 : Int64) 125 gl532474 := kt75_532475 125 gl532474 (fun R c1 c2 c3 c4 => c1 g532473 gl532474 p528148 bg532473 fq532476 r532483)
                      refine G_lload 1 dr_cX17_findDepth_125 rfl ?_
                      refine G_lconst 0 dr_cX17_findDepth_127 rfl ?_
                      refine G_lcmp dr_cX17_findDepth_128 (G_nam fun z532485 hz532485 => ?_)
                      have bz532485 : gB z532485 (-1) 1 := gB_cmp hz532485
                      refine G_if_ne 135 dr_cX17_findDepth_129 (by decide +kernel) (fun hc532486 => ?_) (fun hc532486 => ?_)
                      · have r532487 : z532485.toInt ≠ 0 := gj_neq hc532486 (show Int32.toInt 0 = 0 by decide)
                        have lhc532486 := gC_cmpN hz532485 hc532486
                        refine G_lload 1 dr_cX17_findDepth_135 rfl ?_
                        refine G_lconst 1 dr_cX17_findDepth_137 rfl ?_
                        refine G_iload 3 dr_cX17_findDepth_138 rfl ?_
                        refine G_lshl dr_cX17_findDepth_140 (G_namL fun u532488 hu532488 => ?_)
                        have qu532488 : lb_Q u532488 (g531004.toInt % 64 + 1) := lb_Qshl hu532488 (by omega)
                        refine G_lor dr_cX17_findDepth_141 (G_namL fun u532489 hu532489 => ?_)
                        have pmu532489 : rpop gl532474 ≤ rpop u532489 := rpop_or hu532489
                        refine G_lstore (L' := [(7, .long u532489), (9, .int g532473), (5, .long u531113), (4, .int g531004), (2, .long ol528179), (0, .ref q407731), (1, .ref q407732)]) dr_cX17_findDepth_142 (Nat.le_of_ble_eq_true rfl) rfl ?_
                        refine G_iconst 1 dr_cX17_findDepth_144 (by decide +kernel) ?_
                        refine G_istore (L' := [(9, .int 1), (7, .long u532489), (5, .long u531113), (4, .int g531004), (2, .long ol528179), (0, .ref q407731), (1, .ref q407732)]) dr_cX17_findDepth_145 (Nat.le_of_ble_eq_true rfl) rfl ?_
                        have hlp147_533127 : ∀ (n147_533127 : Nat) (g533125 : Int32) (gl533126 : Int64), gB g533125 0 1 → rpop gl533126 ≤ 64 → (∀ (k : Nat) (e1 : Int64), tl_RModel_findDepth2_147 D I γ el F531005 q407732 ol528179 g531004 g533125 gl533126 k e1 → tl_RModel_findDepth2_147 D I γ el F531005 q407732 ol528179 g531004 (1 : Int32) u532489 k e1) → (64 - rpop gl533126) + ((g533125.toInt : Int)).toNat < n147_533127 → G (gV D I) l (gRm 5 112 0 0) (gMA (gV D I) (pt_407734_SpillForgeModel_findDepth D I γ el P407729 F407730 q407731 q407732) gNA 0 0) ky_407734_SpillForgeModel_findDepth 147 [(9, .int g533125), (7, .long gl533126), (5, .long u531113), (4, .int g531004), (2, .long ol528179), (0, .ref q407731), (1, .ref q407732)] [] (va_pl P407729 F531005) 0 0 := by
                          intro n147_533127
                          induction n147_533127 with
                          | zero => intro g533125 gl533126 bg533125 x533127 kt147_533128 hm147_533127; exact absurd hm147_533127 (Nat.not_lt_zero _)
                          | succ n147_533127 ih147_533127 =>
                            intro g533125 gl533126 bg533125 x533127 kt147_533128 hm147_533127
                            refine G_iload 0 dr_cX17_findDepth_147 rfl ?_
                            refine G_if_eq 297 dr_cX17_findDepth_149 (by decide +kernel) (fun hc533129 => ?_) (fun hc533129 => ?_)
                            · have r533130 : g533125.toInt = 0 := gj_eq hc533129 (show Int32.toInt 0 = 0 by decide)
                              have bg533125' : gB g533125 0 0 := gB_t0 r533130
                              have hx533131 : tl_RModel_findDepth2_147 D I γ el F531005 q407732 ol528179 g531004 (1 : Int32) u532489 297 gl533126 := kt147_533128 297 gl533126 (fun R c1 c2 => c1 g533125 gl533126 bg533125 x533127 r533130)
                              refine G_iconst 0 dr_cX17_findDepth_297 (by decide +kernel) ?_
                              refine G_istore (L' := [(10, .int 0), (9, .int g533125), (7, .long gl533126), (5, .long u531113), (4, .int g531004), (2, .long ol528179), (0, .ref q407731), (1, .ref q407732)]) dr_cX17_findDepth_298 (Nat.le_of_ble_eq_true rfl) rfl ?_
                              have hlp300_533175 : ∀ (n300_533175 : Nat) (F533171 : Nat → va_E) (g533170 : Int32), gB g533170 0 1000000 → RS D I P407729 F533171 γ el → rStr γ [] F407730 F533171 → (F533171 q407731 = F407730 q407731) → (F533171 (γ 9 3) = F407730 (γ 9 3)) → (∀ (k : Nat) (e1 : Nat → va_E), tl_RModel_findDepth2_300 D I γ el P407729 F407730 q407731 q407732 gl533126 F533171 g533170 k e1 → tl_RModel_findDepth2_300 D I γ el P407729 F407730 q407731 q407732 gl533126 F531005 (0 : Int32) k e1) → ((1000001 : Int) - g533170.toInt).toNat < n300_533175 → G (gV D I) l (gRm 5 112 0 0) (gMA (gV D I) (pt_407734_SpillForgeModel_findDepth D I γ el P407729 F407730 q407731 q407732) gNA 0 0) ky_407734_SpillForgeModel_findDepth 300 [(10, .int g533170), (9, .int g533125), (7, .long gl533126), (5, .long u531113), (4, .int g531004), (2, .long ol528179), (0, .ref q407731), (1, .ref q407732)] [] (va_pl P407729 F533171) 0 0 := by
                                intro n300_533175
                                induction n300_533175 with
                                | zero => intro F533171 g533170 bg533170 hT533172 hs533173 x533174 x533175 kt300_533176 hm300_533175; exact absurd hm300_533175 (Nat.not_lt_zero _)
                                | succ n300_533175 ih300_533175 =>
                                  intro F533171 g533170 bg533170 hT533172 hs533173 x533174 x533175 kt300_533176 hm300_533175
                                  have hs533177 : rStr γ [] F531005 F533171 := fun b h0 hb hw => (hs533173 b h0 hb hw).trans (hs531007 b h0 hb hw).symm
                                  have he533178 : F533171 q407732 = .inr (18, [.ref q528145, .ref q528146, .int p528147, .int p528148]) := (hs533177 q407732 (rT0 htq407732 (by decide)) (rT1 htq407732 (by decide)) (rT2 htq407732 (by decide))).trans he531012
                                  have hs533179 : rStr γ [] F407730 F533171 := rStr_tr hs531007 hs533177
                                  have he533180 : F533171 q407731 = .inr (22, [.ref (γ 9 0), .ref (γ 9 1), .ref (γ 9 2), .ref (γ 9 3), .ref (γ 9 4), .ref (γ 9 5), .ref (γ 9 6), .ref (γ 9 7), .ref (γ 9 8), .int p407739, .int p407740, .int p407741, .int p407742, .int p407743, .int p407744, .ref (γ 9 15), .ref (γ 9 16), .ref (γ 9 17), .ref (γ 9 18), .ref (γ 9 19), .ref (γ 9 20), .ref (γ 9 21), .ref (γ 9 22), .int p407745, .int p407746, .int p407747, .int p407748, .int p407749, .ref q407737, .ref (γ 9 29), .int p407750, .ref (γ 9 31), .int p407751, .int p407752, .int p407753, .ref q407738]) := x533174.trans he407736
                                  have hm533181 : q407731 ∈ P407729 := RS_m hT533172 htq407731 (by decide)
                                  refine G_iload 0 dr_cX17_findDepth_300 rfl ?_
                                  refine G_aload_n 7 dr_cX17_findDepth_302 rfl ?_
                                  have fq533182 : fI (F533171 q407732) 3 = p528148 := by rw [he533178]; rfl
                                  refine Gw_callV (As := []) (gV_ok D I) (cp_12780_Code_size l hl0 D I P407729 F533171 q407732 q528145 q528146 p528147 p528148 hm528143 he533178) dr_cX17_findDepth_303 ⟨wr_10_160, wr_1_15, wr_9_131, by decide, rfl, (Nat.le_of_ble_eq_true rfl), (Nat.le_of_ble_eq_true rfl)⟩ wr_9_129 wr_9_130 hm528143 he533178 rfl (show 0 + 0 ≤ 0 by first | omega | decide) (show 0 + 0 ≤ 0 by first | omega | decide) (Nat.le_of_ble_eq_true rfl) (fun r533186 w533187 dc533183 ds533184 hp533185 => ?_) (fun _ _ _ _ _ z => z.elim)
                                  obtain ⟨rfl, rfl, hdc, hds⟩ := hp533185
                                  change G _ _ _ _ _ _ _ (.int p528148 :: _) _ _ _
                                  refine G_widen (cs' := 0) (sl' := 0) (by omega) (by omega) ?_
                                  refine G_icmp_ge 333 dr_cX17_findDepth_306 (by decide +kernel) (fun hc533188 => ?_) (fun hc533188 => ?_)
                                  · have r533189 : p528148.toInt ≤ g533170.toInt := gC_le hc533188
                                    have bg533170' : gB g533170 1 1000000 := ⟨by omega, by omega⟩
                                    have hx533190 : tl_RModel_findDepth2_300 D I γ el P407729 F407730 q407731 q407732 gl533126 F531005 (0 : Int32) 333 F533171 := kt300_533176 333 F533171 (fun R c1 c2 => c1 F533171 g533170 p528148 bg533170 hT533172 hs533173 x533174 x533175 fq533182 r533189)
                                    obtain ⟨z533191, hz533191⟩ : ∃ z : Int32, z = g531004 + Int32.ofInt 1 := ⟨_, rfl⟩
                                    have ez533191 : z533191.toInt = g531004.toInt + 1 := gI_inc hz533191 (by decide) bg531004' (by decide) (by decide)
                                    have bz533191 : gB z533191 1 1000000 := ⟨by omega, by omega⟩
                                    refine G_iinc (L' := [(4, .int z533191), (10, .int g533170), (9, .int g533125), (7, .long gl533126), (5, .long u531113), (2, .long ol528179), (0, .ref q407731), (1, .ref q407732)]) z533191 4 dr_cX17_findDepth_333 rfl hz533191.symm (Nat.le_of_ble_eq_true rfl) rfl ?_
                                    refine G_goto 32 dr_cX17_findDepth_336 (by decide +kernel) ?_
                                    refine G_lv (L' := [(4, .int z533191), (2, .long ol528179), (0, .ref q407731), (1, .ref q407732)]) [0, 5, 6, 7] rfl ?_
                                    exact ih32_531009 F533171 z533191 (gB_w bz533191 (by decide) (by decide)) hT533172 hs533173 x533174 x533175 (fun k e1 ht => kt32_531010 k e1 (fun R c1 c2 c3 c4 => c2 F531005 g531004 p528148 u531100 u531101 ol531110 u531112 u531113 gl532474 u532488 u532489 gl533126 F533171 z533191 k e1 bg531004 hT531006 hs531007 x531008 x531009 fq531016 r531099 hu531100 hu531101 lhc531103 ht531111 hu531112 hu531113 hx532484 lhc532486 hu532488 hu532489 hx533131 hx533190 ez533191 (ht R c1 c2 c3 c4))) (mz_up ez533191 (Int.le_trans bg531004'.2 (by decide)) hm32_531009)
                                  · have r533192 : g533170.toInt < p528148.toInt := gC_nle hc533188
                                    have bg533170' : gB g533170 0 999999 := ⟨by omega, by omega⟩
                                    refine G_aload_n 6 dr_cX17_findDepth_309 rfl ?_
                                    have fq533193 : fR (F533171 q407731) 4 = (γ 9 4) := by rw [he533180]; rfl
                                    refine Gp_get 4 hm533181 he533180 dr_cX17_findDepth_310 (gk_X17 D I) (Nat.le_of_ble_eq_true rfl) wr_7_78 rfl ?_
                                    refine G_iload 0 dr_cX17_findDepth_313 rfl ?_
                                    refine G_dup2_11 dr_cX17_findDepth_315 rfl rfl ?_
                                    have hm533194 : (γ 9 4) ∈ P407729 := RS_m hT533172 ht407760 (by decide)
                                    obtain ⟨f533196, he533195⟩ := show rk_16 I (F533171 (γ 9 4)) from RS_o hT533172 ht407760
                                    refine Gp_iald 0 hm533194 he533195 dr_cX17_findDepth_316 rfl (gB_inr (by omega) (by omega)) (G_nam fun z533197 hz533197 => ?_)
                                    have bz533197 : gB z533197 (-2147483648) 2147483647 := gB_any z533197
                                    refine G_lload 2 dr_cX17_findDepth_317 rfl ?_
                                    refine G_iload 0 dr_cX17_findDepth_319 rfl ?_
                                    refine G_lushr dr_cX17_findDepth_321 (G_namL fun u533198 hu533198 => ?_)
                                    refine G_lconst 1 dr_cX17_findDepth_322 rfl ?_
                                    refine G_land dr_cX17_findDepth_323 (G_namL fun u533199 hu533199 => ?_)
                                    refine G_l2i dr_cX17_findDepth_324 (G_nam fun z533200 hz533200 => ?_)
                                    have bz533200 : gB z533200 (-2147483648) 2147483647 := gB_any z533200
                                    refine G_iadd dr_cX17_findDepth_325 (G_nam fun z533201 hz533201 => ?_)
                                    have bz533201 : gB z533201 (-2147483648) 2147483647 := gB_any z533201
                                    refine Gp_iast 0 hm533194 he533195 dr_cX17_findDepth_326 rfl (gB_inr (by omega) (by omega)) (fun F533202 e533203 n533204 => ?_)
                                    obtain ⟨f533205, hf533205⟩ : ∃ z, z = upd f533196 g533170.toNatClampNeg z533201 := ⟨_, rfl⟩
                                    rw [← hf533205] at e533203
                                    have he533206 : F533202 q407732 = .inr (18, [.ref q528145, .ref q528146, .int p528147, .int p528148]) := (n533204 q407732 (rn_oa he533178 he533195)).trans he533178
                                    have he533207 : F533202 q407731 = .inr (22, [.ref (γ 9 0), .ref (γ 9 1), .ref (γ 9 2), .ref (γ 9 3), .ref (γ 9 4), .ref (γ 9 5), .ref (γ 9 6), .ref (γ 9 7), .ref (γ 9 8), .int p407739, .int p407740, .int p407741, .int p407742, .int p407743, .int p407744, .ref (γ 9 15), .ref (γ 9 16), .ref (γ 9 17), .ref (γ 9 18), .ref (γ 9 19), .ref (γ 9 20), .ref (γ 9 21), .ref (γ 9 22), .int p407745, .int p407746, .int p407747, .int p407748, .int p407749, .ref q407737, .ref (γ 9 29), .int p407750, .ref (γ 9 31), .int p407751, .int p407752, .int p407753, .ref q407738]) := (n533204 q407731 (rn_oa he533180 he533195)).trans he533180
                                    have he533208 : F533202 (γ 9 4) = .inl (I .int, 40, .inl f533205) := e533203
                                    have hs533209 : rStr γ [] F407730 F533202 := rStr_put hs533173 n533204 ht407760 (by decide)
                                    have kp533210 : F533202 q407731 = F407730 q407731 := (n533204 q407731 (rn_ty htq407731 ht407760 (by decide))).trans x533174
                                    have kp533211 : F533202 (γ 9 3) = F407730 (γ 9 3) := (n533204 (γ 9 3) (rn_ty ht407759 ht407760 (by decide))).trans x533175
                                    obtain ⟨z533212, hz533212⟩ : ∃ z : Int32, z = g533170 + Int32.ofInt 1 := ⟨_, rfl⟩
                                    have ez533212 : z533212.toInt = g533170.toInt + 1 := gI_inc hz533212 (by decide) bg533170' (by decide) (by decide)
                                    have bz533212 : gB z533212 1 1000000 := ⟨by omega, by omega⟩
                                    refine G_iinc (L' := [(10, .int z533212), (9, .int g533125), (7, .long gl533126), (5, .long u531113), (4, .int g531004), (2, .long ol528179), (0, .ref q407731), (1, .ref q407732)]) z533212 0 dr_cX17_findDepth_327 rfl hz533212.symm (Nat.le_of_ble_eq_true rfl) rfl ?_
                                    refine G_goto 300 dr_cX17_findDepth_330 (by decide +kernel) ?_
                                    have hT533213 : RS D I P407729 F533202 γ el := RS_set hT533172 n533204 ht407760 (by decide) ⟨f533205, he533208⟩
                                    exact ih300_533175 F533202 z533212 (gB_w bz533212 (by decide) (by decide)) hT533213 hs533209 kp533210 kp533211 (fun k e1 ht => kt300_533176 k e1 (fun R c1 c2 => c2 F533171 g533170 p528148 f533196 z533197 u533198 u533199 z533200 z533201 f533205 F533202 z533212 k e1 bg533170 hT533172 hs533173 x533174 x533175 fq533182 r533192 fq533193 he533195 hz533197 hu533198 hu533199 hz533200 hz533201 hf533205 n533204 he533208 ez533212 (ht R c1 c2))) (mz_up ez533212 (Int.le_trans bg533170'.2 (by decide)) hm300_533175)
                              exact hlp300_533175 (((1000001 : Int) - 0).toNat + 1) F531005 0 (gB_w (gBl (show Int32.toInt 0 = 0 by decide)) (by decide) (by decide)) hT531006 hs531007 x531008 x531009 (fun k e1 ht => ht) (Nat.lt_succ_self _)
                            · have r533214 : g533125.toInt ≠ 0 := gj_neq hc533129 (show Int32.toInt 0 = 0 by decide)
                              have bg533125' : gB g533125 1 1 := gB_t1 bg533125 r533214
                              refine G_iconst 0 dr_cX17_findDepth_152 (by decide +kernel) ?_
                              refine G_istore (L' := [(9, .int 0), (7, .long gl533126), (5, .long u531113), (4, .int g531004), (2, .long ol528179), (0, .ref q407731), (1, .ref q407732)]) dr_cX17_findDepth_153 (Nat.le_of_ble_eq_true rfl) rfl ?_
                              refine G_iconst 0 dr_cX17_findDepth_155 (by decide +kernel) ?_
                              refine G_istore (L' := [(10, .int 0), (9, .int 0), (7, .long gl533126), (5, .long u531113), (4, .int g531004), (2, .long ol528179), (0, .ref q407731), (1, .ref q407732)]) dr_cX17_findDepth_156 (Nat.le_of_ble_eq_true rfl) rfl ?_
                              have hlp158_533493 : ∀ (n158_533493 : Nat) (g533489 : Int32) (g533490 : Int32) (gl533491 : Int64), gB g533489 0 1000000 → gB g533490 0 1 → rpop gl533491 ≤ 64 → rpop gl533126 + ((g533490.toInt : Int)).toNat ≤ rpop gl533491 → (∀ (k : Nat) (e1 : Int32) (e2 : Int64), tl_RModel_findDepth2_158 D I γ el gl533126 F531005 q407732 ol528179 g531004 g533489 g533490 gl533491 k e1 e2 → tl_RModel_findDepth2_158 D I γ el gl533126 F531005 q407732 ol528179 g531004 (0 : Int32) (0 : Int32) gl533126 k e1 e2) → ((1000001 : Int) - g533489.toInt).toNat < n158_533493 → G (gV D I) l (gRm 5 112 0 0) (gMA (gV D I) (pt_407734_SpillForgeModel_findDepth D I γ el P407729 F407730 q407731 q407732) gNA 0 0) ky_407734_SpillForgeModel_findDepth 158 [(10, .int g533489), (9, .int g533490), (7, .long gl533491), (5, .long u531113), (4, .int g531004), (2, .long ol528179), (0, .ref q407731), (1, .ref q407732)] [] (va_pl P407729 F531005) 0 0 := by
                                intro n158_533493
                                induction n158_533493 with
                                | zero => intro g533489 g533490 gl533491 bg533489 bg533490 x533492 x533493 kt158_533494 hm158_533493; exact absurd hm158_533493 (Nat.not_lt_zero _)
                                | succ n158_533493 ih158_533493 =>
                                  intro g533489 g533490 gl533491 bg533489 bg533490 x533492 x533493 kt158_533494 hm158_533493
                                  refine G_iload 0 dr_cX17_findDepth_158 rfl ?_
                                  refine G_aload_n 7 dr_cX17_findDepth_160 rfl ?_
                                  have fq533495 : fI (F531005 q407732) 3 = p528148 := by rw [he531012]; rfl
                                  refine Gw_callV (As := []) (gV_ok D I) (cp_12780_Code_size l hl0 D I P407729 F531005 q407732 q528145 q528146 p528147 p528148 hm528143 he531012) dr_cX17_findDepth_161 ⟨wr_10_160, wr_1_15, wr_9_131, by decide, rfl, (Nat.le_of_ble_eq_true rfl), (Nat.le_of_ble_eq_true rfl)⟩ wr_9_129 wr_9_130 hm528143 he531012 rfl (show 0 + 0 ≤ 0 by first | omega | decide) (show 0 + 0 ≤ 0 by first | omega | decide) (Nat.le_of_ble_eq_true rfl) (fun r533499 w533500 dc533496 ds533497 hp533498 => ?_) (fun _ _ _ _ _ z => z.elim)
                                  obtain ⟨rfl, rfl, hdc, hds⟩ := hp533498
                                  change G _ _ _ _ _ _ _ (.int p528148 :: _) _ _ _
                                  refine G_widen (cs' := 0) (sl' := 0) (by omega) (by omega) ?_
                                  refine G_icmp_ge 294 dr_cX17_findDepth_164 (by decide +kernel) (fun hc533501 => ?_) (fun hc533501 => ?_)
                                  · have r533502 : p528148.toInt ≤ g533489.toInt := gC_le hc533501
                                    have bg533489' : gB g533489 1 1000000 := ⟨by omega, by omega⟩
                                    have hx533503 : tl_RModel_findDepth2_158 D I γ el gl533126 F531005 q407732 ol528179 g531004 (0 : Int32) (0 : Int32) gl533126 294 g533490 gl533491 := kt158_533494 294 g533490 gl533491 (fun R c1 c2 c3 c4 c5 => c1 g533489 g533490 gl533491 p528148 bg533489 bg533490 x533492 x533493 fq533495 r533502)
                                    refine G_goto 147 dr_cX17_findDepth_294 (by decide +kernel) ?_
                                    refine G_lv (L' := [(9, .int g533490), (7, .long gl533491), (5, .long u531113), (4, .int g531004), (2, .long ol528179), (0, .ref q407731), (1, .ref q407732)]) [1, 2, 3, 4, 5, 6, 7] rfl ?_
                                    exact ih147_533127 g533490 gl533491 bg533490 (rpop_le gl533491) (fun k e1 ht => kt147_533128 k e1 (fun R c1 c2 => c2 g533125 gl533126 g533490 gl533491 k e1 bg533125 x533127 r533214 hx533503 (ht R c1 c2))) (by omega)
                                  · have r533504 : g533489.toInt < p528148.toInt := gC_nle hc533501
                                    have bg533489' : gB g533489 0 999999 := ⟨by omega, by omega⟩
                                    refine G_lload 2 dr_cX17_findDepth_167 rfl ?_
                                    refine G_iload 0 dr_cX17_findDepth_169 rfl ?_
                                    refine G_lushr dr_cX17_findDepth_171 (G_namL fun u533505 hu533505 => ?_)
                                    refine G_lconst 1 dr_cX17_findDepth_172 rfl ?_
                                    refine G_land dr_cX17_findDepth_173 (G_namL fun u533506 hu533506 => ?_)
                                    refine G_lconst 0 dr_cX17_findDepth_174 rfl ?_
                                    refine G_lcmp dr_cX17_findDepth_175 (G_nam fun z533507 hz533507 => ?_)
                                    have bz533507 : gB z533507 (-1) 1 := gB_cmp hz533507
                                    refine G_if_ne 288 dr_cX17_findDepth_176 (by decide +kernel) (fun hc533508 => ?_) (fun hc533508 => ?_)
                                    · have r533509 : z533507.toInt ≠ 0 := gj_neq hc533508 (show Int32.toInt 0 = 0 by decide)
                                      have lhc533508 := gC_cmpN hz533507 hc533508
                                      obtain ⟨z533510, hz533510⟩ : ∃ z : Int32, z = g533489 + Int32.ofInt 1 := ⟨_, rfl⟩
                                      have ez533510 : z533510.toInt = g533489.toInt + 1 := gI_inc hz533510 (by decide) bg533489' (by decide) (by decide)
                                      have bz533510 : gB z533510 1 1000000 := ⟨by omega, by omega⟩
                                      refine G_iinc (L' := [(10, .int z533510), (9, .int g533490), (7, .long gl533491), (5, .long u531113), (4, .int g531004), (2, .long ol528179), (0, .ref q407731), (1, .ref q407732)]) z533510 0 dr_cX17_findDepth_288 rfl hz533510.symm (Nat.le_of_ble_eq_true rfl) rfl ?_
                                      refine G_goto 158 dr_cX17_findDepth_291 (by decide +kernel) ?_
                                      exact ih158_533493 z533510 g533490 gl533491 (gB_w bz533510 (by decide) (by decide)) bg533490 (rpop_le gl533491) (by omega) (fun k e1 e2 ht => kt158_533494 k e1 e2 (fun R c1 c2 c3 c4 c5 => c2 g533489 g533490 gl533491 p528148 u533505 u533506 z533510 k e1 e2 bg533489 bg533490 x533492 x533493 fq533495 r533504 hu533505 hu533506 lhc533508 ez533510 (ht R c1 c2 c3 c4 c5))) (mz_up ez533510 (Int.le_trans bg533489'.2 (by decide)) hm158_533493)
                                    · have r533511 : z533507.toInt = 0 := gj_eq hc533508 (show Int32.toInt 0 = 0 by decide)
                                      have bz533507' : gB z533507 0 0 := ⟨by omega, by omega⟩
                                      have lhc533508 := gC_cmpE hz533507 hc533508
                                      have zhc533508 := rbit_0 hu533505 hu533506 lhc533508 (by omega) (by omega)
                                      refine G_lload_n 5 dr_cX17_findDepth_179 rfl ?_
                                      refine G_iload 0 dr_cX17_findDepth_180 rfl ?_
                                      refine G_lushr dr_cX17_findDepth_182 (G_namL fun u533512 hu533512 => ?_)
                                      refine G_lconst 1 dr_cX17_findDepth_183 rfl ?_
                                      refine G_land dr_cX17_findDepth_184 (G_namL fun u533513 hu533513 => ?_)
                                      refine G_lconst 0 dr_cX17_findDepth_185 rfl ?_
                                      refine G_lcmp dr_cX17_findDepth_186 (G_nam fun z533514 hz533514 => ?_)
                                      have bz533514 : gB z533514 (-1) 1 := gB_cmp hz533514
                                      refine G_if_ne 193 dr_cX17_findDepth_187 (by decide +kernel) (fun hc533515 => ?_) (fun hc533515 => ?_)
                                      · have r533516 : z533514.toInt ≠ 0 := gj_neq hc533515 (show Int32.toInt 0 = 0 by decide)
                                        have lhc533515 := gC_cmpN hz533514 hc533515
                                        refine G_iconst 0 dr_cX17_findDepth_193 (by decide +kernel) ?_
                                        refine G_istore (L' := [(11, .int 0), (10, .int g533489), (9, .int g533490), (7, .long gl533491), (5, .long u531113), (4, .int g531004), (2, .long ol528179), (0, .ref q407731), (1, .ref q407732)]) dr_cX17_findDepth_194 (Nat.le_of_ble_eq_true rfl) rfl ?_
                                        refine G_iconst 0 dr_cX17_findDepth_196 (by decide +kernel) ?_
                                        refine G_istore (L' := [(12, .int 0), (11, .int 0), (10, .int g533489), (9, .int g533490), (7, .long gl533491), (5, .long u531113), (4, .int g531004), (2, .long ol528179), (0, .ref q407731), (1, .ref q407732)]) dr_cX17_findDepth_197 (Nat.le_of_ble_eq_true rfl) rfl ?_
                                        have hlp199_533642 : ∀ (n199_533642 : Nat) (g533641 : Int32) (g533642 : Int32), gB g533641 0 2 → gB g533642 0 1 → (∀ (k : Nat) (e1 : Int32), tl_RModel_findDepth2_199 D I γ el F531005 q407732 g533489 g531004 gl533491 g533641 g533642 k e1 → tl_RModel_findDepth2_199 D I γ el F531005 q407732 g533489 g531004 gl533491 (0 : Int32) (0 : Int32) k e1) → ((3 : Int) - g533641.toInt).toNat < n199_533642 → G (gV D I) l (gRm 5 112 0 0) (gMA (gV D I) (pt_407734_SpillForgeModel_findDepth D I γ el P407729 F407730 q407731 q407732) gNA 0 0) ky_407734_SpillForgeModel_findDepth 199 [(12, .int g533641), (11, .int g533642), (10, .int g533489), (9, .int g533490), (7, .long gl533491), (5, .long u531113), (4, .int g531004), (2, .long ol528179), (0, .ref q407731), (1, .ref q407732)] [] (va_pl P407729 F531005) 0 0 := by
                                          intro n199_533642
                                          induction n199_533642 with
                                          | zero => intro g533641 g533642 bg533641 bg533642 kt199_533643 hm199_533642; exact absurd hm199_533642 (Nat.not_lt_zero _)
                                          | succ n199_533642 ih199_533642 =>
                                            intro g533641 g533642 bg533641 bg533642 kt199_533643 hm199_533642
                                            refine G_iload 0 dr_cX17_findDepth_199 rfl ?_
                                            refine G_aload_n 9 dr_cX17_findDepth_201 rfl ?_
                                            refine G_iload 2 dr_cX17_findDepth_202 rfl ?_
                                            have hm533644 : q528145 ∈ P407729 := RS_m hT531006 ht528149 (by decide)
                                            obtain ⟨⟨p533646, p533647, q533648, he533645, r533649, r533650, r533651, r533653⟩, r533652⟩ := show rk_4 D I γ el F531005 q528145 from RS_o hT531006 ht528149
                                            have bp533646 := gB_any p533646
                                            have bp533647 : gB p533647 0 1000000 := ⟨by omega, by omega⟩
                                            obtain ⟨r533654, r533655, n533662, f533663, r533656, r533657, r533658, r533659, r533660, r533661⟩ := rLC_n r533651 (by omega)
                                            have hm533664 : q533648 ∈ P407729 := RS_m hT531006 r533654 (by decide)
                                            obtain ⟨q533665, hx533666⟩ : ∃ x, x = el q528145 g533489.toInt.toNat := ⟨_, rfl⟩
                                            have fq533670 : fR (F531005 q407732) 0 = q528145 := by rw [he531012]; rfl
                                            have hx533667 : f533663 g533489.toNatClampNeg = some q533665 := (r533660 _ (show g533489.toInt.toNat < γ 2 q528145 by omega)).trans (by rw [hx533666])
                                            have ht533671 : rKd γ q533665 2 := by rw [hx533666]; exact (r528160 _ (by omega)).resolve_right (fun z => absurd z.1 (by omega))
                                            have ht533672 : rFm γ q533665 q528145 := by rw [hx533666]; exact (r533652 _ (show g533489.toInt.toNat < γ 2 q528145 by omega)).2.1
                                            have hm533673 : q533665 ∈ P407729 := RS_m hT531006 ht533671 (by decide)
                                            obtain ⟨q533675, q533676, p533677, p533678, he533674, ht533685, ht533679, ht533680, ht533681, ht533682, ht533683, bp533677, bp533678, r533684, r533686, r533687⟩ := show rk_2 γ q533665 (F531005 q533665) from RS_o hT531006 ht533671
                                            have fq533688 : fI (F531005 q528145) 2 = p533647 := by rw [he533645]; rfl
                                            refine Gw_callV (As := [.int g533489]) (gV_ok D I) (cp_7901_Code_get l hl0 D I P407729 F531005 q407732 q528145 q533648 g533489 q528146 p528147 p528148 p533646 p533647 f533663 n533662 q533665 q533675 q533676 p533677 p533678 hm528143 hm533644 hm533664 hm533673 he531012 he533645 r533656 he533674 (gB_w bg533489' (by decide) (by decide)) (gB_w bp533647 (by decide) (by decide)) (by omega) (by omega) (by assumption) (by omega)) dr_cX17_findDepth_204 ⟨wr_10_161, wr_1_15, wr_10_141, by decide, rfl, (Nat.le_of_ble_eq_true rfl), (Nat.le_of_ble_eq_true rfl)⟩ wr_10_139 wr_10_140 hm528143 he531012 rfl (show 0 + 0 ≤ 0 by first | omega | decide) (show 0 + 0 ≤ 0 by first | omega | decide) (Nat.le_of_ble_eq_true rfl) (fun r533692 w533693 dc533689 ds533690 hp533691 => ?_) (fun _ _ _ _ _ z => z.elim)
                                            obtain ⟨rfl, rfl, hdc, hds, ht533694⟩ := hp533691
                                            change G _ _ _ _ _ _ _ (.ref q533665 :: _) _ _ _
                                            refine G_widen (cs' := 0) (sl' := 0) (by omega) (by omega) ?_
                                            have hm533695 : q533676 ∈ P407729 := RS_m hT531006 ht533681 (by decide)
                                            obtain ⟨p533697, p533698, p533699, p533700, p533701, p533702, p533703, he533696, bp533697, bp533698, bp533701, bp533702, bp533703, r533704, r533705, r533706, r533707, r533708⟩ := show rk_1 γ q533676 (F531005 q533676) from RS_o hT531006 ht533681
                                            have bp533699 := gB_any p533699
                                            have bp533700 := gB_any p533700
                                            have fq533709 : fI (F531005 q533665) 2 = p533677 := by rw [he533674]; rfl
                                            have fq533710 : fI (F531005 q533665) 3 = p533678 := by rw [he533674]; rfl
                                            have fq533711 : fR (F531005 q533665) 1 = q533676 := by rw [he533674]; rfl
                                            have fq533712 : fI (F531005 q533676) 0 = p533697 := by rw [he533696]; rfl
                                            refine Gw_callV (As := []) (gV_ok D I) (cp_1816_Block_ways l hl0 D I P407729 F531005 q533665 q533676 q533675 p533677 p533678 p533697 p533698 p533699 p533700 p533701 p533702 p533703 hm533673 hm533695 he533674 he533696 bp533677 bp533678 bp533697 bp533698 bp533701 bp533702 bp533703) dr_cX17_findDepth_207 ⟨wr_10_166, wr_1_38, wr_10_169, by decide, rfl, (Nat.le_of_ble_eq_true rfl), (Nat.le_of_ble_eq_true rfl)⟩ wr_10_167 wr_10_168 hm533673 he533674 rfl (show 0 + 0 ≤ 0 by first | omega | decide) (show 0 + 0 ≤ 0 by first | omega | decide) (Nat.le_of_ble_eq_true rfl) (fun r533716 w533717 dc533713 ds533714 hp533715 => ?_) (fun _ _ _ _ _ z => z.elim)
                                            obtain ⟨o533718, rfl, rfl, hdc, hds, bo533718, ht533719⟩ := hp533715
                                            change G _ _ _ _ _ _ _ (.int o533718 :: _) _ _ _
                                            refine G_widen (cs' := 0) (sl' := 0) (by omega) (by omega) ?_
                                            refine G_icmp_ge 268 dr_cX17_findDepth_210 (by decide +kernel) (fun hc533720 => ?_) (fun hc533720 => ?_)
                                            · have r533721 : o533718.toInt ≤ g533641.toInt := gC_le hc533720
                                              have hx533722 : tl_RModel_findDepth2_199 D I γ el F531005 q407732 g533489 g531004 gl533491 (0 : Int32) (0 : Int32) 268 g533642 := kt199_533643 268 g533642 (fun R c1 c2 c3 c4 c5 => c1 g533641 g533642 q528145 q533665 p533647 p533677 p533678 q533676 p533697 o533718 bg533641 bg533642 fq533670 hx533666 fq533688 ht533694 fq533709 fq533710 fq533711 fq533712 bo533718 ht533719 r533721)
                                              refine G_iload 1 dr_cX17_findDepth_268 rfl ?_
                                              refine G_if_ne 276 dr_cX17_findDepth_270 (by decide +kernel) (fun hc533723 => ?_) (fun hc533723 => ?_)
                                              · have r533724 : g533642.toInt ≠ 0 := gj_neq hc533723 (show Int32.toInt 0 = 0 by decide)
                                                have bg533642' : gB g533642 1 1 := gB_t1 bg533642 r533724
                                                refine G_lload 4 dr_cX17_findDepth_276 rfl ?_
                                                refine G_lconst 1 dr_cX17_findDepth_278 rfl ?_
                                                refine G_iload 2 dr_cX17_findDepth_279 rfl ?_
                                                refine G_lshl dr_cX17_findDepth_281 (G_namL fun u533725 hu533725 => ?_)
                                                have qu533725 : lb_Q u533725 (g533489.toInt % 64 + 1) := lb_Qshl hu533725 (by omega)
                                                refine G_lor dr_cX17_findDepth_282 (G_namL fun u533726 hu533726 => ?_)
                                                have pmu533726 : rpop gl533491 ≤ rpop u533726 := rpop_or hu533726
                                                have pnu533726 : rpop gl533491 + 1 ≤ rpop u533726 := rpop_new hu533726 hu533725 (by omega) (by omega) zhc533508
                                                refine G_lstore (L' := [(7, .long u533726), (12, .int g533641), (11, .int g533642), (10, .int g533489), (9, .int g533490), (5, .long u531113), (4, .int g531004), (2, .long ol528179), (0, .ref q407731), (1, .ref q407732)]) dr_cX17_findDepth_283 (Nat.le_of_ble_eq_true rfl) rfl ?_
                                                refine G_iconst 1 dr_cX17_findDepth_285 (by decide +kernel) ?_
                                                refine G_istore (L' := [(9, .int 1), (7, .long u533726), (12, .int g533641), (11, .int g533642), (10, .int g533489), (5, .long u531113), (4, .int g531004), (2, .long ol528179), (0, .ref q407731), (1, .ref q407732)]) dr_cX17_findDepth_286 (Nat.le_of_ble_eq_true rfl) rfl ?_
                                                obtain ⟨z533727, hz533727⟩ : ∃ z : Int32, z = g533489 + Int32.ofInt 1 := ⟨_, rfl⟩
                                                have ez533727 : z533727.toInt = g533489.toInt + 1 := gI_inc hz533727 (by decide) bg533489' (by decide) (by decide)
                                                have bz533727 : gB z533727 1 1000000 := ⟨by omega, by omega⟩
                                                refine G_iinc (L' := [(10, .int z533727), (9, .int 1), (7, .long u533726), (12, .int g533641), (11, .int g533642), (5, .long u531113), (4, .int g531004), (2, .long ol528179), (0, .ref q407731), (1, .ref q407732)]) z533727 4 dr_cX17_findDepth_288 rfl hz533727.symm (Nat.le_of_ble_eq_true rfl) rfl ?_
                                                refine G_goto 158 dr_cX17_findDepth_291 (by decide +kernel) ?_
                                                refine G_lv (L' := [(10, .int z533727), (9, .int 1), (7, .long u533726), (5, .long u531113), (4, .int g531004), (2, .long ol528179), (0, .ref q407731), (1, .ref q407732)]) [0, 1, 2, 5, 6, 7, 8, 9] rfl ?_
                                                exact ih158_533493 z533727 1 u533726 (gB_w bz533727 (by decide) (by decide)) (gB_w (gBl (show Int32.toInt 1 = 1 by decide)) (by decide) (by decide)) (rpop_le u533726) (by have qa0 : Int32.toInt 1 = 1 := (by decide); omega) (fun k e1 e2 ht => kt158_533494 k e1 e2 (fun R c1 c2 c3 c4 c5 => c3 g533489 g533490 gl533491 p528148 u533505 u533506 u533512 u533513 g533642 u533725 u533726 z533727 k e1 e2 bg533489 bg533490 x533492 x533493 fq533495 r533504 hu533505 hu533506 lhc533508 hu533512 hu533513 lhc533515 hx533722 r533724 hu533725 hu533726 ez533727 (ht R c1 c2 c3 c4 c5))) (mz_up ez533727 (Int.le_trans bg533489'.2 (by decide)) hm158_533493)
                                              · have r533728 : g533642.toInt = 0 := gj_eq hc533723 (show Int32.toInt 0 = 0 by decide)
                                                have bg533642' : gB g533642 0 0 := gB_t0 r533728
                                                refine G_goto 288 dr_cX17_findDepth_273 (by decide +kernel) ?_
                                                obtain ⟨z533729, hz533729⟩ : ∃ z : Int32, z = g533489 + Int32.ofInt 1 := ⟨_, rfl⟩
                                                have ez533729 : z533729.toInt = g533489.toInt + 1 := gI_inc hz533729 (by decide) bg533489' (by decide) (by decide)
                                                have bz533729 : gB z533729 1 1000000 := ⟨by omega, by omega⟩
                                                refine G_iinc (L' := [(10, .int z533729), (12, .int g533641), (11, .int g533642), (9, .int g533490), (7, .long gl533491), (5, .long u531113), (4, .int g531004), (2, .long ol528179), (0, .ref q407731), (1, .ref q407732)]) z533729 2 dr_cX17_findDepth_288 rfl hz533729.symm (Nat.le_of_ble_eq_true rfl) rfl ?_
                                                refine G_goto 158 dr_cX17_findDepth_291 (by decide +kernel) ?_
                                                refine G_lv (L' := [(10, .int z533729), (9, .int g533490), (7, .long gl533491), (5, .long u531113), (4, .int g531004), (2, .long ol528179), (0, .ref q407731), (1, .ref q407732)]) [0, 3, 4, 5, 6, 7, 8, 9] rfl ?_
                                                exact ih158_533493 z533729 g533490 gl533491 (gB_w bz533729 (by decide) (by decide)) bg533490 (rpop_le gl533491) (by omega) (fun k e1 e2 ht => kt158_533494 k e1 e2 (fun R c1 c2 c3 c4 c5 => c4 g533489 g533490 gl533491 p528148 u533505 u533506 u533512 u533513 g533642 z533729 k e1 e2 bg533489 bg533490 x533492 x533493 fq533495 r533504 hu533505 hu533506 lhc533508 hu533512 hu533513 lhc533515 hx533722 r533728 ez533729 (ht R c1 c2 c3 c4 c5))) (mz_up ez533729 (Int.le_trans bg533489'.2 (by decide)) hm158_533493)
                                            · have r533730 : g533641.toInt < o533718.toInt := gC_nle hc533720
                                              have bg533641' : gB g533641 0 1 := ⟨by omega, by omega⟩
                                              have bo533718' : gB o533718 1 2 := ⟨by omega, by omega⟩
                                              refine G_iload 1 dr_cX17_findDepth_213 rfl ?_
                                              refine G_if_ne 255 dr_cX17_findDepth_215 (by decide +kernel) (fun hc533731 => ?_) (fun hc533731 => ?_)
                                              · have r533732 : g533642.toInt ≠ 0 := gj_neq hc533731 (show Int32.toInt 0 = 0 by decide)
                                                have bg533642' : gB g533642 1 1 := gB_t1 bg533642 r533732
                                                refine G_iconst 1 dr_cX17_findDepth_255 (by decide +kernel) ?_
                                                refine G_goto 260 dr_cX17_findDepth_256 (by decide +kernel) ?_
                                                refine G_istore (L' := [(11, .int 1), (12, .int g533641), (10, .int g533489), (9, .int g533490), (7, .long gl533491), (5, .long u531113), (4, .int g531004), (2, .long ol528179), (0, .ref q407731), (1, .ref q407732)]) dr_cX17_findDepth_260 (Nat.le_of_ble_eq_true rfl) rfl ?_
                                                obtain ⟨z533733, hz533733⟩ : ∃ z : Int32, z = g533641 + Int32.ofInt 1 := ⟨_, rfl⟩
                                                have ez533733 : z533733.toInt = g533641.toInt + 1 := gI_inc hz533733 (by decide) bg533641' (by decide) (by decide)
                                                have bz533733 : gB z533733 1 2 := ⟨by omega, by omega⟩
                                                refine G_iinc (L' := [(12, .int z533733), (11, .int 1), (10, .int g533489), (9, .int g533490), (7, .long gl533491), (5, .long u531113), (4, .int g531004), (2, .long ol528179), (0, .ref q407731), (1, .ref q407732)]) z533733 1 dr_cX17_findDepth_262 rfl hz533733.symm (Nat.le_of_ble_eq_true rfl) rfl ?_
                                                refine G_goto 199 dr_cX17_findDepth_265 (by decide +kernel) ?_
                                                exact ih199_533642 z533733 1 (gB_w bz533733 (by decide) (by decide)) (gB_w (gBl (show Int32.toInt 1 = 1 by decide)) (by decide) (by decide)) (fun k e1 ht => kt199_533643 k e1 (fun R c1 c2 c3 c4 c5 => c2 g533641 g533642 q528145 q533665 p533647 p533677 p533678 q533676 p533697 o533718 z533733 k e1 bg533641 bg533642 fq533670 hx533666 fq533688 ht533694 fq533709 fq533710 fq533711 fq533712 bo533718 ht533719 r533730 r533732 ez533733 (ht R c1 c2 c3 c4 c5))) (mz_up ez533733 (Int.le_trans bg533641'.2 (by decide)) hm199_533642)
                                              · have r533734 : g533642.toInt = 0 := gj_eq hc533731 (show Int32.toInt 0 = 0 by decide)
                                                have bg533642' : gB g533642 0 0 := gB_t0 r533734
                                                refine G_aload_n 9 dr_cX17_findDepth_218 rfl ?_
                                                refine G_iload 2 dr_cX17_findDepth_219 rfl ?_
                                                refine Gw_callV (As := [.int g533489]) (gV_ok D I) (cp_7901_Code_get l hl0 D I P407729 F531005 q407732 q528145 q533648 g533489 q528146 p528147 p528148 p533646 p533647 f533663 n533662 q533665 q533675 q533676 p533677 p533678 hm528143 hm533644 hm533664 hm533673 he531012 he533645 r533656 he533674 (gB_w bg533489' (by decide) (by decide)) (gB_w bp533647 (by decide) (by decide)) (by omega) (by omega) (by assumption) (by omega)) dr_cX17_findDepth_221 ⟨wr_10_161, wr_1_15, wr_10_141, by decide, rfl, (Nat.le_of_ble_eq_true rfl), (Nat.le_of_ble_eq_true rfl)⟩ wr_10_139 wr_10_140 hm528143 he531012 rfl (show 0 + 0 ≤ 0 by first | omega | decide) (show 0 + 0 ≤ 0 by first | omega | decide) (Nat.le_of_ble_eq_true rfl) (fun r533738 w533739 dc533735 ds533736 hp533737 => ?_) (fun _ _ _ _ _ z => z.elim)
                                                obtain ⟨rfl, rfl, hdc, hds, ht533740⟩ := hp533737
                                                change G _ _ _ _ _ _ _ (.ref q533665 :: _) _ _ _
                                                refine G_widen (cs' := 0) (sl' := 0) (by omega) (by omega) ?_
                                                refine G_iload 0 dr_cX17_findDepth_224 rfl ?_
                                                refine Gw_callV (As := [.int g533641]) (gV_ok D I) (cp_5159_Block_way l hl0 D I P407729 F531005 q533665 q533676 g533641 q533675 p533677 p533678 p533697 p533698 p533699 p533700 p533701 p533702 p533703 hm533673 hm533695 he533674 he533696 bp533677 bp533678 bp533697 bp533698 bp533701 bp533702 bp533703) dr_cX17_findDepth_226 ⟨wr_10_170, wr_1_38, wr_10_173, by decide, rfl, (Nat.le_of_ble_eq_true rfl), (Nat.le_of_ble_eq_true rfl)⟩ wr_10_171 wr_10_172 hm533673 he533674 rfl (show 0 + 0 ≤ 0 by first | omega | decide) (show 0 + 0 ≤ 0 by first | omega | decide) (Nat.le_of_ble_eq_true rfl) (fun r533744 w533745 dc533741 ds533742 hp533743 => ?_) (fun _ _ _ _ _ z => z.elim)
                                                obtain ⟨o533746, rfl, rfl, hdc, hds, bo533746, ht533747⟩ := hp533743
                                                change G _ _ _ _ _ _ _ (.int o533746 :: _) _ _ _
                                                refine G_widen (cs' := 0) (sl' := 0) (by omega) (by omega) ?_
                                                refine G_iload 6 dr_cX17_findDepth_229 rfl ?_
                                                refine G_icmp_eq 259 dr_cX17_findDepth_231 (by decide +kernel) (fun hc533748 => ?_) (fun hc533748 => ?_)
                                                · have r533749 : o533746.toInt = g531004.toInt := gC_eq hc533748
                                                  have bg531004'' : gB g531004 0 39 := ⟨by omega, by omega⟩
                                                  refine G_iconst 0 dr_cX17_findDepth_259 (by decide +kernel) ?_
                                                  refine G_istore (L' := [(11, .int 0), (12, .int g533641), (10, .int g533489), (9, .int g533490), (7, .long gl533491), (5, .long u531113), (4, .int g531004), (2, .long ol528179), (0, .ref q407731), (1, .ref q407732)]) dr_cX17_findDepth_260 (Nat.le_of_ble_eq_true rfl) rfl ?_
                                                  obtain ⟨z533750, hz533750⟩ : ∃ z : Int32, z = g533641 + Int32.ofInt 1 := ⟨_, rfl⟩
                                                  have ez533750 : z533750.toInt = g533641.toInt + 1 := gI_inc hz533750 (by decide) bg533641' (by decide) (by decide)
                                                  have bz533750 : gB z533750 1 2 := ⟨by omega, by omega⟩
                                                  refine G_iinc (L' := [(12, .int z533750), (11, .int 0), (10, .int g533489), (9, .int g533490), (7, .long gl533491), (5, .long u531113), (4, .int g531004), (2, .long ol528179), (0, .ref q407731), (1, .ref q407732)]) z533750 1 dr_cX17_findDepth_262 rfl hz533750.symm (Nat.le_of_ble_eq_true rfl) rfl ?_
                                                  refine G_goto 199 dr_cX17_findDepth_265 (by decide +kernel) ?_
                                                  exact ih199_533642 z533750 0 (gB_w bz533750 (by decide) (by decide)) (gB_w (gBl (show Int32.toInt 0 = 0 by decide)) (by decide) (by decide)) (fun k e1 ht => kt199_533643 k e1 (fun R c1 c2 c3 c4 c5 => c3 g533641 g533642 q528145 q533665 p533647 p533677 p533678 q533676 p533697 o533718 o533746 z533750 k e1 bg533641 bg533642 fq533670 hx533666 fq533688 ht533694 fq533709 fq533710 fq533711 fq533712 bo533718 ht533719 r533730 r533734 ht533740 bo533746 ht533747 r533749 ez533750 (ht R c1 c2 c3 c4 c5))) (mz_up ez533750 (Int.le_trans bg533641'.2 (by decide)) hm199_533642)
                                                · have r533751 : o533746.toInt ≠ g531004.toInt := gC_ne hc533748
                                                  refine G_lload 4 dr_cX17_findDepth_234 rfl ?_
                                                  refine G_aload_n 9 dr_cX17_findDepth_236 rfl ?_
                                                  refine G_iload 2 dr_cX17_findDepth_237 rfl ?_
                                                  refine Gw_callV (As := [.int g533489]) (gV_ok D I) (cp_7901_Code_get l hl0 D I P407729 F531005 q407732 q528145 q533648 g533489 q528146 p528147 p528148 p533646 p533647 f533663 n533662 q533665 q533675 q533676 p533677 p533678 hm528143 hm533644 hm533664 hm533673 he531012 he533645 r533656 he533674 (gB_w bg533489' (by decide) (by decide)) (gB_w bp533647 (by decide) (by decide)) (by omega) (by omega) (by assumption) (by omega)) dr_cX17_findDepth_239 ⟨wr_10_161, wr_1_15, wr_10_141, by decide, rfl, (Nat.le_of_ble_eq_true rfl), (Nat.le_of_ble_eq_true rfl)⟩ wr_10_139 wr_10_140 hm528143 he531012 rfl (show 0 + 0 ≤ 0 by first | omega | decide) (show 0 + 0 ≤ 0 by first | omega | decide) (Nat.le_of_ble_eq_true rfl) (fun r533755 w533756 dc533752 ds533753 hp533754 => ?_) (fun _ _ _ _ _ z => z.elim)
                                                  obtain ⟨rfl, rfl, hdc, hds, ht533757⟩ := hp533754
                                                  change G _ _ _ _ _ _ _ (.ref q533665 :: _) _ _ _
                                                  refine G_widen (cs' := 0) (sl' := 0) (by omega) (by omega) ?_
                                                  refine G_iload 0 dr_cX17_findDepth_242 rfl ?_
                                                  refine Gw_callV (As := [.int g533641]) (gV_ok D I) (cp_5159_Block_way l hl0 D I P407729 F531005 q533665 q533676 g533641 q533675 p533677 p533678 p533697 p533698 p533699 p533700 p533701 p533702 p533703 hm533673 hm533695 he533674 he533696 bp533677 bp533678 bp533697 bp533698 bp533701 bp533702 bp533703) dr_cX17_findDepth_244 ⟨wr_10_170, wr_1_38, wr_10_173, by decide, rfl, (Nat.le_of_ble_eq_true rfl), (Nat.le_of_ble_eq_true rfl)⟩ wr_10_171 wr_10_172 hm533673 he533674 rfl (show 0 + 0 ≤ 0 by first | omega | decide) (show 0 + 0 ≤ 0 by first | omega | decide) (Nat.le_of_ble_eq_true rfl) (fun r533761 w533762 dc533758 ds533759 hp533760 => ?_) (fun _ _ _ _ _ z => z.elim)
                                                  obtain ⟨o533763, rfl, rfl, hdc, hds, bo533763, ht533764⟩ := hp533760
                                                  change G _ _ _ _ _ _ _ (.int o533763 :: _) _ _ _
                                                  refine G_widen (cs' := 0) (sl' := 0) (by omega) (by omega) ?_
                                                  refine G_lushr dr_cX17_findDepth_247 (G_namL fun u533765 hu533765 => ?_)
                                                  refine G_lconst 1 dr_cX17_findDepth_248 rfl ?_
                                                  refine G_land dr_cX17_findDepth_249 (G_namL fun u533766 hu533766 => ?_)
                                                  refine G_lconst 0 dr_cX17_findDepth_250 rfl ?_
                                                  refine G_lcmp dr_cX17_findDepth_251 (G_nam fun z533767 hz533767 => ?_)
                                                  have bz533767 : gB z533767 (-1) 1 := gB_cmp hz533767
                                                  refine G_if_eq 259 dr_cX17_findDepth_252 (by decide +kernel) (fun hc533768 => ?_) (fun hc533768 => ?_)
                                                  · have r533769 : z533767.toInt = 0 := gj_eq hc533768 (show Int32.toInt 0 = 0 by decide)
                                                    have bz533767' : gB z533767 0 0 := ⟨by omega, by omega⟩
                                                    have lhc533768 := gC_cmpE hz533767 hc533768
                                                    have zhc533768 := rbit_0 hu533765 hu533766 lhc533768 (by omega) (by omega)
                                                    refine G_iconst 0 dr_cX17_findDepth_259 (by decide +kernel) ?_
                                                    refine G_istore (L' := [(11, .int 0), (12, .int g533641), (10, .int g533489), (9, .int g533490), (7, .long gl533491), (5, .long u531113), (4, .int g531004), (2, .long ol528179), (0, .ref q407731), (1, .ref q407732)]) dr_cX17_findDepth_260 (Nat.le_of_ble_eq_true rfl) rfl ?_
                                                    obtain ⟨z533770, hz533770⟩ : ∃ z : Int32, z = g533641 + Int32.ofInt 1 := ⟨_, rfl⟩
                                                    have ez533770 : z533770.toInt = g533641.toInt + 1 := gI_inc hz533770 (by decide) bg533641' (by decide) (by decide)
                                                    have bz533770 : gB z533770 1 2 := ⟨by omega, by omega⟩
                                                    refine G_iinc (L' := [(12, .int z533770), (11, .int 0), (10, .int g533489), (9, .int g533490), (7, .long gl533491), (5, .long u531113), (4, .int g531004), (2, .long ol528179), (0, .ref q407731), (1, .ref q407732)]) z533770 1 dr_cX17_findDepth_262 rfl hz533770.symm (Nat.le_of_ble_eq_true rfl) rfl ?_
                                                    refine G_goto 199 dr_cX17_findDepth_265 (by decide +kernel) ?_
                                                    exact ih199_533642 z533770 0 (gB_w bz533770 (by decide) (by decide)) (gB_w (gBl (show Int32.toInt 0 = 0 by decide)) (by decide) (by decide)) (fun k e1 ht => kt199_533643 k e1 (fun R c1 c2 c3 c4 c5 => c4 g533641 g533642 q528145 q533665 p533647 p533677 p533678 q533676 p533697 o533718 o533746 o533763 u533765 u533766 z533770 k e1 bg533641 bg533642 fq533670 hx533666 fq533688 ht533694 fq533709 fq533710 fq533711 fq533712 bo533718 ht533719 r533730 r533734 ht533740 bo533746 ht533747 r533751 ht533757 bo533763 ht533764 hu533765 hu533766 lhc533768 ez533770 (ht R c1 c2 c3 c4 c5))) (mz_up ez533770 (Int.le_trans bg533641'.2 (by decide)) hm199_533642)
                                                  · have r533771 : z533767.toInt ≠ 0 := gj_neq hc533768 (show Int32.toInt 0 = 0 by decide)
                                                    have lhc533768 := gC_cmpN hz533767 hc533768
                                                    refine G_iconst 1 dr_cX17_findDepth_255 (by decide +kernel) ?_
                                                    refine G_goto 260 dr_cX17_findDepth_256 (by decide +kernel) ?_
                                                    refine G_istore (L' := [(11, .int 1), (12, .int g533641), (10, .int g533489), (9, .int g533490), (7, .long gl533491), (5, .long u531113), (4, .int g531004), (2, .long ol528179), (0, .ref q407731), (1, .ref q407732)]) dr_cX17_findDepth_260 (Nat.le_of_ble_eq_true rfl) rfl ?_
                                                    obtain ⟨z533772, hz533772⟩ : ∃ z : Int32, z = g533641 + Int32.ofInt 1 := ⟨_, rfl⟩
                                                    have ez533772 : z533772.toInt = g533641.toInt + 1 := gI_inc hz533772 (by decide) bg533641' (by decide) (by decide)
                                                    have bz533772 : gB z533772 1 2 := ⟨by omega, by omega⟩
                                                    refine G_iinc (L' := [(12, .int z533772), (11, .int 1), (10, .int g533489), (9, .int g533490), (7, .long gl533491), (5, .long u531113), (4, .int g531004), (2, .long ol528179), (0, .ref q407731), (1, .ref q407732)]) z533772 1 dr_cX17_findDepth_262 rfl hz533772.symm (Nat.le_of_ble_eq_true rfl) rfl ?_
                                                    refine G_goto 199 dr_cX17_findDepth_265 (by decide +kernel) ?_
                                                    exact ih199_533642 z533772 1 (gB_w bz533772 (by decide) (by decide)) (gB_w (gBl (show Int32.toInt 1 = 1 by decide)) (by decide) (by decide)) (fun k e1 ht => kt199_533643 k e1 (fun R c1 c2 c3 c4 c5 => c5 g533641 g533642 q528145 q533665 p533647 p533677 p533678 q533676 p533697 o533718 o533746 o533763 u533765 u533766 z533772 k e1 bg533641 bg533642 fq533670 hx533666 fq533688 ht533694 fq533709 fq533710 fq533711 fq533712 bo533718 ht533719 r533730 r533734 ht533740 bo533746 ht533747 r533751 ht533757 bo533763 ht533764 hu533765 hu533766 lhc533768 ez533772 (ht R c1 c2 c3 c4 c5))) (mz_up ez533772 (Int.le_trans bg533641'.2 (by decide)) hm199_533642)
                                        exact hlp199_533642 (((3 : Int) - 0).toNat + 1) 0 0 (gB_w (gBl (show Int32.toInt 0 = 0 by decide)) (by decide) (by decide)) (gB_w (gBl (show Int32.toInt 0 = 0 by decide)) (by decide) (by decide)) (fun k e1 ht => ht) (Nat.lt_succ_self _)
                                      · have r533773 : z533514.toInt = 0 := gj_eq hc533515 (show Int32.toInt 0 = 0 by decide)
                                        have bz533514' : gB z533514 0 0 := ⟨by omega, by omega⟩
                                        have lhc533515 := gC_cmpE hz533514 hc533515
                                        refine G_goto 288 dr_cX17_findDepth_190 (by decide +kernel) ?_
                                        obtain ⟨z533774, hz533774⟩ : ∃ z : Int32, z = g533489 + Int32.ofInt 1 := ⟨_, rfl⟩
                                        have ez533774 : z533774.toInt = g533489.toInt + 1 := gI_inc hz533774 (by decide) bg533489' (by decide) (by decide)
                                        have bz533774 : gB z533774 1 1000000 := ⟨by omega, by omega⟩
                                        refine G_iinc (L' := [(10, .int z533774), (9, .int g533490), (7, .long gl533491), (5, .long u531113), (4, .int g531004), (2, .long ol528179), (0, .ref q407731), (1, .ref q407732)]) z533774 0 dr_cX17_findDepth_288 rfl hz533774.symm (Nat.le_of_ble_eq_true rfl) rfl ?_
                                        refine G_goto 158 dr_cX17_findDepth_291 (by decide +kernel) ?_
                                        exact ih158_533493 z533774 g533490 gl533491 (gB_w bz533774 (by decide) (by decide)) bg533490 (rpop_le gl533491) (by omega) (fun k e1 e2 ht => kt158_533494 k e1 e2 (fun R c1 c2 c3 c4 c5 => c5 g533489 g533490 gl533491 p528148 u533505 u533506 u533512 u533513 z533774 k e1 e2 bg533489 bg533490 x533492 x533493 fq533495 r533504 hu533505 hu533506 lhc533508 hu533512 hu533513 lhc533515 ez533774 (ht R c1 c2 c3 c4 c5))) (mz_up ez533774 (Int.le_trans bg533489'.2 (by decide)) hm158_533493)
                              exact hlp158_533493 (((1000001 : Int) - 0).toNat + 1) 0 0 gl533126 (gB_w (gBl (show Int32.toInt 0 = 0 by decide)) (by decide) (by decide)) (gB_w (gBl (show Int32.toInt 0 = 0 by decide)) (by decide) (by decide)) (rpop_le gl533126) (by have qa0 : Int32.toInt 0 = 0 := (by decide); omega) (fun k e1 e2 ht => ht) (Nat.lt_succ_self _)
                        exact hlp147_533127 ((64 - rpop u532489) + ((1 : Int)).toNat + 1) 1 u532489 (gB_w (gBl (show Int32.toInt 1 = 1 by decide)) (by decide) (by decide)) (rpop_le u532489) (fun k e1 ht => ht) (Nat.lt_succ_self _)
                      · have r533775 : z532485.toInt = 0 := gj_eq hc532486 (show Int32.toInt 0 = 0 by decide)
                        have bz532485' : gB z532485 0 0 := ⟨by omega, by omega⟩
                        have lhc532486 := gC_cmpE hz532485 hc532486
                        refine G_goto 333 dr_cX17_findDepth_132 (by decide +kernel) ?_
                        obtain ⟨z533776, hz533776⟩ : ∃ z : Int32, z = g531004 + Int32.ofInt 1 := ⟨_, rfl⟩
                        have ez533776 : z533776.toInt = g531004.toInt + 1 := gI_inc hz533776 (by decide) bg531004' (by decide) (by decide)
                        have bz533776 : gB z533776 1 1000000 := ⟨by omega, by omega⟩
                        refine G_iinc (L' := [(4, .int z533776), (9, .int g532473), (7, .long gl532474), (5, .long u531113), (2, .long ol528179), (0, .ref q407731), (1, .ref q407732)]) z533776 3 dr_cX17_findDepth_333 rfl hz533776.symm (Nat.le_of_ble_eq_true rfl) rfl ?_
                        refine G_goto 32 dr_cX17_findDepth_336 (by decide +kernel) ?_
                        refine G_lv (L' := [(4, .int z533776), (2, .long ol528179), (0, .ref q407731), (1, .ref q407732)]) [0, 4, 5, 6] rfl ?_
                        exact ih32_531009 F531005 z533776 (gB_w bz533776 (by decide) (by decide)) hT531006 hs531007 x531008 x531009 (fun k e1 ht => kt32_531010 k e1 (fun R c1 c2 c3 c4 => c3 F531005 g531004 p528148 u531100 u531101 ol531110 u531112 u531113 gl532474 z533776 k e1 bg531004 hT531006 hs531007 x531008 x531009 fq531016 r531099 hu531100 hu531101 lhc531103 ht531111 hu531112 hu531113 hx532484 lhc532486 ez533776 (ht R c1 c2 c3 c4))) (mz_up ez533776 (Int.le_trans bg531004'.2 (by decide)) hm32_531009)
                    · have r533777 : g532473.toInt < p528148.toInt := gC_nle hc532482
                      have bg532473' : gB g532473 0 999999 := ⟨by omega, by omega⟩
                      refine G_lload 2 dr_cX17_findDepth_84 rfl ?_
                      refine G_iload 0 dr_cX17_findDepth_86 rfl ?_
                      refine G_lushr dr_cX17_findDepth_88 (G_namL fun u533778 hu533778 => ?_)
                      refine G_lconst 1 dr_cX17_findDepth_89 rfl ?_
                      refine G_land dr_cX17_findDepth_90 (G_namL fun u533779 hu533779 => ?_)
                      refine G_lconst 0 dr_cX17_findDepth_91 rfl ?_
                      refine G_lcmp dr_cX17_findDepth_92 (G_nam fun z533780 hz533780 => ?_)
                      have bz533780 : gB z533780 (-1) 1 := gB_cmp hz533780
                      refine G_if_eq 119 dr_cX17_findDepth_93 (by decide +kernel) (fun hc533781 => ?_) (fun hc533781 => ?_)
                      · have r533782 : z533780.toInt = 0 := gj_eq hc533781 (show Int32.toInt 0 = 0 by decide)
                        have bz533780' : gB z533780 0 0 := ⟨by omega, by omega⟩
                        have lhc533781 := gC_cmpE hz533780 hc533781
                        obtain ⟨z533783, hz533783⟩ : ∃ z : Int32, z = g532473 + Int32.ofInt 1 := ⟨_, rfl⟩
                        have ez533783 : z533783.toInt = g532473.toInt + 1 := gI_inc hz533783 (by decide) bg532473' (by decide) (by decide)
                        have bz533783 : gB z533783 1 1000000 := ⟨by omega, by omega⟩
                        refine G_iinc (L' := [(9, .int z533783), (7, .long gl532474), (5, .long u531113), (4, .int g531004), (2, .long ol528179), (0, .ref q407731), (1, .ref q407732)]) z533783 0 dr_cX17_findDepth_119 rfl hz533783.symm (Nat.le_of_ble_eq_true rfl) rfl ?_
                        refine G_goto 75 dr_cX17_findDepth_122 (by decide +kernel) ?_
                        exact ih75_532474 z533783 gl532474 (gB_w bz533783 (by decide) (by decide)) (fun k e1 ht => kt75_532475 k e1 (fun R c1 c2 c3 c4 => c2 g532473 gl532474 p528148 u533778 u533779 z533783 k e1 bg532473 fq532476 r533777 hu533778 hu533779 lhc533781 ez533783 (ht R c1 c2 c3 c4))) (mz_up ez533783 (Int.le_trans bg532473'.2 (by decide)) hm75_532474)
                      · have r533784 : z533780.toInt ≠ 0 := gj_neq hc533781 (show Int32.toInt 0 = 0 by decide)
                        have lhc533781 := gC_cmpN hz533780 hc533781
                        refine G_aload_n 6 dr_cX17_findDepth_96 rfl ?_
                        refine G_iload 0 dr_cX17_findDepth_97 rfl ?_
                        have hm533785 : q528145 ∈ P407729 := RS_m hT531006 ht528149 (by decide)
                        obtain ⟨⟨p533787, p533788, q533789, he533786, r533790, r533791, r533792, r533794⟩, r533793⟩ := show rk_4 D I γ el F531005 q528145 from RS_o hT531006 ht528149
                        have bp533787 := gB_any p533787
                        have bp533788 : gB p533788 0 1000000 := ⟨by omega, by omega⟩
                        obtain ⟨r533795, r533796, n533803, f533804, r533797, r533798, r533799, r533800, r533801, r533802⟩ := rLC_n r533792 (by omega)
                        have hm533805 : q533789 ∈ P407729 := RS_m hT531006 r533795 (by decide)
                        obtain ⟨q533806, hx533807⟩ : ∃ x, x = el q528145 g532473.toInt.toNat := ⟨_, rfl⟩
                        have fq533811 : fR (F531005 q407732) 0 = q528145 := by rw [he531012]; rfl
                        have hx533808 : f533804 g532473.toNatClampNeg = some q533806 := (r533801 _ (show g532473.toInt.toNat < γ 2 q528145 by omega)).trans (by rw [hx533807])
                        have ht533812 : rKd γ q533806 2 := by rw [hx533807]; exact (r528160 _ (by omega)).resolve_right (fun z => absurd z.1 (by omega))
                        have ht533813 : rFm γ q533806 q528145 := by rw [hx533807]; exact (r533793 _ (show g532473.toInt.toNat < γ 2 q528145 by omega)).2.1
                        have hm533814 : q533806 ∈ P407729 := RS_m hT531006 ht533812 (by decide)
                        obtain ⟨q533816, q533817, p533818, p533819, he533815, ht533826, ht533820, ht533821, ht533822, ht533823, ht533824, bp533818, bp533819, r533825, r533827, r533828⟩ := show rk_2 γ q533806 (F531005 q533806) from RS_o hT531006 ht533812
                        have fq533829 : fI (F531005 q528145) 2 = p533788 := by rw [he533786]; rfl
                        refine Gw_callV (As := [.int g532473]) (gV_ok D I) (cp_7901_Code_get l hl0 D I P407729 F531005 q407732 q528145 q533789 g532473 q528146 p528147 p528148 p533787 p533788 f533804 n533803 q533806 q533816 q533817 p533818 p533819 hm528143 hm533785 hm533805 hm533814 he531012 he533786 r533797 he533815 (gB_w bg532473' (by decide) (by decide)) (gB_w bp533788 (by decide) (by decide)) (by omega) (by omega) (by assumption) (by omega)) dr_cX17_findDepth_99 ⟨wr_10_161, wr_1_15, wr_10_141, by decide, rfl, (Nat.le_of_ble_eq_true rfl), (Nat.le_of_ble_eq_true rfl)⟩ wr_10_139 wr_10_140 hm528143 he531012 rfl (show 0 + 0 ≤ 0 by first | omega | decide) (show 0 + 0 ≤ 0 by first | omega | decide) (Nat.le_of_ble_eq_true rfl) (fun r533833 w533834 dc533830 ds533831 hp533832 => ?_) (fun _ _ _ _ _ z => z.elim)
                        obtain ⟨rfl, rfl, hdc, hds, ht533835⟩ := hp533832
                        change G _ _ _ _ _ _ _ (.ref q533806 :: _) _ _ _
                        refine G_widen (cs' := 0) (sl' := 0) (by omega) (by omega) ?_
                        refine G_iload 3 dr_cX17_findDepth_102 rfl ?_
                        refine Gw_callS (As := [.ref q533806, .int g531004]) (gV_ok D I) (ct_7594_SpillForgeModel_leads l hl0 D I γ el P407729 F531005 q533806 g531004 hT531006 ht533812) dr_cX17_findDepth_104 ⟨wr_11_44, wr_1_14, wr_11_46, by decide, rfl, (Nat.le_of_ble_eq_true rfl), (Nat.le_of_ble_eq_true rfl)⟩ wr_11_45 (show 0 + 0 ≤ 0 by first | omega | decide) (show 0 + 0 ≤ 0 by first | omega | decide) (Nat.le_of_ble_eq_true rfl) (fun r533839 w533840 dc533836 ds533837 hp533838 => ?_) (fun _ _ _ _ _ z => z.elim)
                        obtain ⟨o533841, rfl, rfl, hdc, hds, bo533841, ht533842⟩ := hp533838
                        change G _ _ _ _ _ _ _ (.int o533841 :: _) _ _ _
                        refine G_widen (cs' := 0) (sl' := 0) (by omega) (by omega) ?_
                        refine G_if_eq 119 dr_cX17_findDepth_107 (by decide +kernel) (fun hc533843 => ?_) (fun hc533843 => ?_)
                        · have r533844 : o533841.toInt = 0 := gj_eq hc533843 (show Int32.toInt 0 = 0 by decide)
                          have bo533841' : gB o533841 0 0 := gB_t0 r533844
                          obtain ⟨z533845, hz533845⟩ : ∃ z : Int32, z = g532473 + Int32.ofInt 1 := ⟨_, rfl⟩
                          have ez533845 : z533845.toInt = g532473.toInt + 1 := gI_inc hz533845 (by decide) bg532473' (by decide) (by decide)
                          have bz533845 : gB z533845 1 1000000 := ⟨by omega, by omega⟩
                          refine G_iinc (L' := [(9, .int z533845), (7, .long gl532474), (5, .long u531113), (4, .int g531004), (2, .long ol528179), (0, .ref q407731), (1, .ref q407732)]) z533845 0 dr_cX17_findDepth_119 rfl hz533845.symm (Nat.le_of_ble_eq_true rfl) rfl ?_
                          refine G_goto 75 dr_cX17_findDepth_122 (by decide +kernel) ?_
                          exact ih75_532474 z533845 gl532474 (gB_w bz533845 (by decide) (by decide)) (fun k e1 ht => kt75_532475 k e1 (fun R c1 c2 c3 c4 => c3 g532473 gl532474 p528148 u533778 u533779 q528145 q533806 p533788 o533841 z533845 k e1 bg532473 fq532476 r533777 hu533778 hu533779 lhc533781 fq533811 hx533807 fq533829 ht533835 bo533841 ht533842 r533844 ez533845 (ht R c1 c2 c3 c4))) (mz_up ez533845 (Int.le_trans bg532473'.2 (by decide)) hm75_532474)
                        · have r533846 : o533841.toInt ≠ 0 := gj_neq hc533843 (show Int32.toInt 0 = 0 by decide)
                          have bo533841' : gB o533841 1 1 := gB_t1 bo533841 r533846
                          refine G_lload 1 dr_cX17_findDepth_110 rfl ?_
                          refine G_lconst 1 dr_cX17_findDepth_112 rfl ?_
                          refine G_iload 0 dr_cX17_findDepth_113 rfl ?_
                          refine G_lshl dr_cX17_findDepth_115 (G_namL fun u533847 hu533847 => ?_)
                          have qu533847 : lb_Q u533847 (g532473.toInt % 64 + 1) := lb_Qshl hu533847 (by omega)
                          refine G_lor dr_cX17_findDepth_116 (G_namL fun u533848 hu533848 => ?_)
                          have pmu533848 : rpop gl532474 ≤ rpop u533848 := rpop_or hu533848
                          refine G_lstore (L' := [(7, .long u533848), (9, .int g532473), (5, .long u531113), (4, .int g531004), (2, .long ol528179), (0, .ref q407731), (1, .ref q407732)]) dr_cX17_findDepth_117 (Nat.le_of_ble_eq_true rfl) rfl ?_
                          obtain ⟨z533849, hz533849⟩ : ∃ z : Int32, z = g532473 + Int32.ofInt 1 := ⟨_, rfl⟩
                          have ez533849 : z533849.toInt = g532473.toInt + 1 := gI_inc hz533849 (by decide) bg532473' (by decide) (by decide)
                          have bz533849 : gB z533849 1 1000000 := ⟨by omega, by omega⟩
                          refine G_iinc (L' := [(9, .int z533849), (7, .long u533848), (5, .long u531113), (4, .int g531004), (2, .long ol528179), (0, .ref q407731), (1, .ref q407732)]) z533849 1 dr_cX17_findDepth_119 rfl hz533849.symm (Nat.le_of_ble_eq_true rfl) rfl ?_
                          refine G_goto 75 dr_cX17_findDepth_122 (by decide +kernel) ?_
                          exact ih75_532474 z533849 u533848 (gB_w bz533849 (by decide) (by decide)) (fun k e1 ht => kt75_532475 k e1 (fun R c1 c2 c3 c4 => c4 g532473 gl532474 p528148 u533778 u533779 q528145 q533806 p533788 o533841 u533847 u533848 z533849 k e1 bg532473 fq532476 r533777 hu533778 hu533779 lhc533781 fq533811 hx533807 fq533829 ht533835 bo533841 ht533842 r533846 hu533847 hu533848 ez533849 (ht R c1 c2 c3 c4))) (mz_up ez533849 (Int.le_trans bg532473'.2 (by decide)) hm75_532474)
                exact hlp75_532474 (((1000001 : Int) - 0).toNat + 1) 0 0 (gB_w (gBl (show Int32.toInt 0 = 0 by decide)) (by decide) (by decide)) (fun k e1 ht => ht) (Nat.lt_succ_self _)
              · have r533850 : z531102.toInt = 0 := gj_eq hc531103 (show Int32.toInt 0 = 0 by decide)
                have bz531102' : gB z531102 0 0 := ⟨by omega, by omega⟩
                have lhc531103 := gC_cmpE hz531102 hc531103
                refine G_goto 333 dr_cX17_findDepth_52 (by decide +kernel) ?_
                obtain ⟨z533851, hz533851⟩ : ∃ z : Int32, z = g531004 + Int32.ofInt 1 := ⟨_, rfl⟩
                have ez533851 : z533851.toInt = g531004.toInt + 1 := gI_inc hz533851 (by decide) bg531004' (by decide) (by decide)
                have bz533851 : gB z533851 1 1000000 := ⟨by omega, by omega⟩
                refine G_iinc (L' := [(4, .int z533851), (2, .long ol528179), (0, .ref q407731), (1, .ref q407732)]) z533851 0 dr_cX17_findDepth_333 rfl hz533851.symm (Nat.le_of_ble_eq_true rfl) rfl ?_
                refine G_goto 32 dr_cX17_findDepth_336 (by decide +kernel) ?_
                exact ih32_531009 F531005 z533851 (gB_w bz533851 (by decide) (by decide)) hT531006 hs531007 x531008 x531009 (fun k e1 ht => kt32_531010 k e1 (fun R c1 c2 c3 c4 => c4 F531005 g531004 p528148 u531100 u531101 z533851 k e1 bg531004 hT531006 hs531007 x531008 x531009 fq531016 r531099 hu531100 hu531101 lhc531103 ez533851 (ht R c1 c2 c3 c4))) (mz_up ez533851 (Int.le_trans bg531004'.2 (by decide)) hm32_531009)
        exact hlp32_531009 (((1000001 : Int) - 0).toNat + 1) F528133 0 (gB_w (gBl (show Int32.toInt 0 = 0 by decide)) (by decide) (by decide)) hT528134 hs528135 x528136 x528137 (fun k e1 ht => ht) (Nat.lt_succ_self _)
      · have r533852 : g528132.toInt < p528148.toInt := gC_nle hc528171
        have bg528132' : gB g528132 0 999999 := ⟨by omega, by omega⟩
        have bp528148' : gB p528148 1 1000000 := ⟨by omega, by omega⟩
        refine G_aload_n 1 dr_cX17_findDepth_10 rfl ?_
        have fq533853 : fR (F528133 q407731) 4 = (γ 9 4) := by rw [he528141]; rfl
        refine Gp_get 4 hm528142 he528141 dr_cX17_findDepth_11 (gk_X17 D I) (Nat.le_of_ble_eq_true rfl) wr_7_78 rfl ?_
        refine G_iload_n 0 dr_cX17_findDepth_14 rfl ?_
        refine G_iconst 0 dr_cX17_findDepth_15 (by decide +kernel) ?_
        have hm533854 : (γ 9 4) ∈ P407729 := RS_m hT528134 ht407760 (by decide)
        obtain ⟨f533856, he533855⟩ := show rk_16 I (F528133 (γ 9 4)) from RS_o hT528134 ht407760
        refine Gp_iast 0 hm533854 he533855 dr_cX17_findDepth_16 rfl (gB_inr (by omega) (by omega)) (fun F533857 e533858 n533859 => ?_)
        obtain ⟨f533860, hf533860⟩ : ∃ z, z = upd f533856 g528132.toNatClampNeg 0 := ⟨_, rfl⟩
        rw [← hf533860] at e533858
        have he533861 : F533857 q407731 = .inr (22, [.ref (γ 9 0), .ref (γ 9 1), .ref (γ 9 2), .ref (γ 9 3), .ref (γ 9 4), .ref (γ 9 5), .ref (γ 9 6), .ref (γ 9 7), .ref (γ 9 8), .int p407739, .int p407740, .int p407741, .int p407742, .int p407743, .int p407744, .ref (γ 9 15), .ref (γ 9 16), .ref (γ 9 17), .ref (γ 9 18), .ref (γ 9 19), .ref (γ 9 20), .ref (γ 9 21), .ref (γ 9 22), .int p407745, .int p407746, .int p407747, .int p407748, .int p407749, .ref q407737, .ref (γ 9 29), .int p407750, .ref (γ 9 31), .int p407751, .int p407752, .int p407753, .ref q407738]) := (n533859 q407731 (rn_oa he528141 he533855)).trans he528141
        have he533862 : F533857 q407732 = .inr (18, [.ref q528145, .ref q528146, .int p528147, .int p528148]) := (n533859 q407732 (rn_oa he528144 he533855)).trans he528144
        have he533863 : F533857 (γ 9 4) = .inl (I .int, 40, .inl f533860) := e533858
        have hs533864 : rStr γ [] F407730 F533857 := rStr_put hs528135 n533859 ht407760 (by decide)
        have kp533865 : F533857 q407731 = F407730 q407731 := (n533859 q407731 (rn_ty htq407731 ht407760 (by decide))).trans x528136
        have kp533866 : F533857 (γ 9 3) = F407730 (γ 9 3) := (n533859 (γ 9 3) (rn_ty ht407759 ht407760 (by decide))).trans x528137
        obtain ⟨z533867, hz533867⟩ : ∃ z : Int32, z = g528132 + Int32.ofInt 1 := ⟨_, rfl⟩
        have ez533867 : z533867.toInt = g528132.toInt + 1 := gI_inc hz533867 (by decide) bg528132' (by decide) (by decide)
        have bz533867 : gB z533867 1 1000000 := ⟨by omega, by omega⟩
        refine G_iinc (L' := [(2, .int z533867), (0, .ref q407731), (1, .ref q407732)]) z533867 0 dr_cX17_findDepth_17 rfl hz533867.symm (Nat.le_of_ble_eq_true rfl) rfl ?_
        refine G_goto 2 dr_cX17_findDepth_20 (by decide +kernel) ?_
        have hT533868 : RS D I P407729 F533857 γ el := RS_set hT528134 n533859 ht407760 (by decide) ⟨f533860, he533863⟩
        exact ih2_528137 F533857 z533867 (gB_w bz533867 (by decide) (by decide)) hT533868 hs533864 kp533865 kp533866 (fun k e1 ht => kt2_528138 k e1 (fun R c1 c2 => c2 F528133 g528132 p528148 f533856 f533860 F533857 z533867 k e1 bg528132 hT528134 hs528135 x528136 x528137 fq528165 r533852 fq533853 he533855 hf533860 n533859 he533863 ez533867 (ht R c1 c2))) (mz_up ez533867 (Int.le_trans bg528132'.2 (by decide)) hm2_528137)
  exact hlp2_528137 (((1000001 : Int) - 0).toNat + 1) F407730 0 (gB_w (gBl (show Int32.toInt 0 = 0 by decide)) (by decide) (by decide)) hT (rStr_rf (γ := γ) (W := []) (F := F407730)) rfl rfl (fun k e1 ht => ht) (Nat.lt_succ_self _)
/- tl_RModel_weigh_74: F, l5; out: F -/
def tl_RModel_weigh_74 (D : va_G) (I : FieldType → ClassId) (γ el : Nat → Nat → Nat) (P : List Nat) (F : Nat → va_E) (q0 : Nat) (c1 : Nat) (l3_2 : Int32) (s1 : Nat → va_E) (s2 : Int32) (k : Nat) (e1 : Nat → va_E) : Prop := ∀ R : (Nat → va_E) → (Int32) → Nat → (Nat → va_E) → Prop,
  (∀ (F_2 : Nat → va_E) (l5_2 : Int32) (x1 : Nat) (x2 : Int32), gB l5_2 0 1000001 → RS D I P F_2 γ el → rStr γ [] F F_2 → (F_2 q0 = F q0) → (F_2 (γ 9 3) = F (γ 9 3)) → fR (F_2 c1) 0 = x1 → x2.toInt = (γ 2 x1 : Int) → fI (F_2 x1) 2 = x2 → x2.toInt < l5_2.toInt → R F_2 l5_2 195 F_2) →
  (∀ (F_2 : Nat → va_E) (l5_2 : Int32) (x1 : Nat) (x2 : Int32) (x3 : Nat) (x4 : Int32) (x5 : Int32) (x6 : Int32) (x7 : Int32) (x8 : Int32) (x9 : Int32) (x10 : Int32) (k : Nat) (e1 : Nat → va_E), gB l5_2 0 1000001 → RS D I P F_2 γ el → rStr γ [] F F_2 → (F_2 q0 = F q0) → (F_2 (γ 9 3) = F (γ 9 3)) → fR (F_2 c1) 0 = x1 → x2.toInt = (γ 2 x1 : Int) → fI (F_2 x1) 2 = x2 → l5_2.toInt ≤ x2.toInt → x2.toInt = (γ 2 x1 : Int) → x2.toInt ≤ l5_2.toInt → fR (F_2 c1) 1 = x3 → fI (F_2 x3) 0 = x4 → gB x5 0 1 → tr_RRow_sets x4 x5 → x5.toInt = 0 → fI (F_2 x3) 5 = x6 → gB x7 0 1 → tr_RRow_usesA x4 x6 x7 → x7.toInt = 0 → fI (F_2 x3) 6 = x8 → gB x9 0 1 → tr_RRow_usesB x4 x8 x9 → x9.toInt = 0 → x10.toInt = l5_2.toInt + 1 → R F_2 x10 k e1 → R F_2 l5_2 k e1) →
  (∀ (F_2 : Nat → va_E) (l5_2 : Int32) (x1 : Nat) (x2 : Int32) (x3 : Nat) (x4 : Int32) (x5 : Int32) (x6 : Int32) (x7 : Int32) (x8 : Int32) (x9 : Int32) (x10 : Int32) (x11 : Nat → Int32) (x12 : Int32) (x13 : Int32) (x14 : Nat → Int32) (x15 : Nat → va_E) (x16 : Int32) (k : Nat) (e1 : Nat → va_E), gB l5_2 0 1000001 → RS D I P F_2 γ el → rStr γ [] F F_2 → (F_2 q0 = F q0) → (F_2 (γ 9 3) = F (γ 9 3)) → fR (F_2 c1) 0 = x1 → x2.toInt = (γ 2 x1 : Int) → fI (F_2 x1) 2 = x2 → l5_2.toInt ≤ x2.toInt → x2.toInt = (γ 2 x1 : Int) → x2.toInt ≤ l5_2.toInt → fR (F_2 c1) 1 = x3 → fI (F_2 x3) 0 = x4 → gB x5 0 1 → tr_RRow_sets x4 x5 → x5.toInt = 0 → fI (F_2 x3) 5 = x6 → gB x7 0 1 → tr_RRow_usesA x4 x6 x7 → x7.toInt = 0 → fI (F_2 x3) 6 = x8 → gB x9 0 1 → tr_RRow_usesB x4 x8 x9 → x9.toInt ≠ 0 → fR (F_2 q0) 5 = (γ 9 5) → fI (F_2 x3) 3 = x10 → F_2 (γ 9 5) = .inl (I .int, 2000, .inl x11) → x12 = x11 x10.toNatClampNeg → x13 = x12 + l3_2 → x14 = upd x11 x10.toNatClampNeg x13 → (∀ b, b ≠ (γ 9 5) → x15 b = F_2 b) → x15 (γ 9 5) = .inl (I .int, 2000, .inl x14) → x16.toInt = l5_2.toInt + 1 → R x15 x16 k e1 → R F_2 l5_2 k e1) →
  (∀ (F_2 : Nat → va_E) (l5_2 : Int32) (x1 : Nat) (x2 : Int32) (x3 : Nat) (x4 : Int32) (x5 : Int32) (x6 : Int32) (x7 : Int32) (x8 : Int32) (x9 : Nat → Int32) (x10 : Int32) (x11 : Int32) (x12 : Nat → Int32) (x13 : Nat → va_E) (x14 : Int32) (x15 : Int32) (x16 : Int32) (k : Nat) (e1 : Nat → va_E), gB l5_2 0 1000001 → RS D I P F_2 γ el → rStr γ [] F F_2 → (F_2 q0 = F q0) → (F_2 (γ 9 3) = F (γ 9 3)) → fR (F_2 c1) 0 = x1 → x2.toInt = (γ 2 x1 : Int) → fI (F_2 x1) 2 = x2 → l5_2.toInt ≤ x2.toInt → x2.toInt = (γ 2 x1 : Int) → x2.toInt ≤ l5_2.toInt → fR (F_2 c1) 1 = x3 → fI (F_2 x3) 0 = x4 → gB x5 0 1 → tr_RRow_sets x4 x5 → x5.toInt = 0 → fI (F_2 x3) 5 = x6 → gB x7 0 1 → tr_RRow_usesA x4 x6 x7 → x7.toInt ≠ 0 → fR (F_2 q0) 5 = (γ 9 5) → fI (F_2 x3) 2 = x8 → F_2 (γ 9 5) = .inl (I .int, 2000, .inl x9) → x10 = x9 x8.toNatClampNeg → x11 = x10 + l3_2 → x12 = upd x9 x8.toNatClampNeg x11 → (∀ b, b ≠ (γ 9 5) → x13 b = F_2 b) → x13 (γ 9 5) = .inl (I .int, 2000, .inl x12) → fI (x13 x3) 0 = x4 → fI (x13 x3) 6 = x14 → gB x15 0 1 → tr_RRow_usesB x4 x14 x15 → x15.toInt = 0 → x16.toInt = l5_2.toInt + 1 → R x13 x16 k e1 → R F_2 l5_2 k e1) →
  (∀ (F_2 : Nat → va_E) (l5_2 : Int32) (x1 : Nat) (x2 : Int32) (x3 : Nat) (x4 : Int32) (x5 : Int32) (x6 : Int32) (x7 : Int32) (x8 : Int32) (x9 : Nat → Int32) (x10 : Int32) (x11 : Int32) (x12 : Nat → Int32) (x13 : Nat → va_E) (x14 : Int32) (x15 : Int32) (x16 : Int32) (x17 : Int32) (x18 : Int32) (x19 : Nat → Int32) (x20 : Nat → va_E) (x21 : Int32) (k : Nat) (e1 : Nat → va_E), gB l5_2 0 1000001 → RS D I P F_2 γ el → rStr γ [] F F_2 → (F_2 q0 = F q0) → (F_2 (γ 9 3) = F (γ 9 3)) → fR (F_2 c1) 0 = x1 → x2.toInt = (γ 2 x1 : Int) → fI (F_2 x1) 2 = x2 → l5_2.toInt ≤ x2.toInt → x2.toInt = (γ 2 x1 : Int) → x2.toInt ≤ l5_2.toInt → fR (F_2 c1) 1 = x3 → fI (F_2 x3) 0 = x4 → gB x5 0 1 → tr_RRow_sets x4 x5 → x5.toInt = 0 → fI (F_2 x3) 5 = x6 → gB x7 0 1 → tr_RRow_usesA x4 x6 x7 → x7.toInt ≠ 0 → fR (F_2 q0) 5 = (γ 9 5) → fI (F_2 x3) 2 = x8 → F_2 (γ 9 5) = .inl (I .int, 2000, .inl x9) → x10 = x9 x8.toNatClampNeg → x11 = x10 + l3_2 → x12 = upd x9 x8.toNatClampNeg x11 → (∀ b, b ≠ (γ 9 5) → x13 b = F_2 b) → x13 (γ 9 5) = .inl (I .int, 2000, .inl x12) → fI (x13 x3) 0 = x4 → fI (x13 x3) 6 = x14 → gB x15 0 1 → tr_RRow_usesB x4 x14 x15 → x15.toInt ≠ 0 → fR (x13 q0) 5 = (γ 9 5) → fI (x13 x3) 3 = x16 → x13 (γ 9 5) = .inl (I .int, 2000, .inl x12) → x17 = x12 x16.toNatClampNeg → x18 = x17 + l3_2 → x19 = upd x12 x16.toNatClampNeg x18 → (∀ b, b ≠ (γ 9 5) → x20 b = x13 b) → x20 (γ 9 5) = .inl (I .int, 2000, .inl x19) → x21.toInt = l5_2.toInt + 1 → R x20 x21 k e1 → R F_2 l5_2 k e1) →
  (∀ (F_2 : Nat → va_E) (l5_2 : Int32) (x1 : Nat) (x2 : Int32) (x3 : Nat) (x4 : Int32) (x5 : Int32) (x6 : Int32) (x7 : Nat → Int32) (x8 : Int32) (x9 : Int32) (x10 : Nat → Int32) (x11 : Nat → va_E) (x12 : Int32) (x13 : Int32) (x14 : Int32) (x15 : Int32) (x16 : Int32) (k : Nat) (e1 : Nat → va_E), gB l5_2 0 1000001 → RS D I P F_2 γ el → rStr γ [] F F_2 → (F_2 q0 = F q0) → (F_2 (γ 9 3) = F (γ 9 3)) → fR (F_2 c1) 0 = x1 → x2.toInt = (γ 2 x1 : Int) → fI (F_2 x1) 2 = x2 → l5_2.toInt ≤ x2.toInt → x2.toInt = (γ 2 x1 : Int) → x2.toInt ≤ l5_2.toInt → fR (F_2 c1) 1 = x3 → fI (F_2 x3) 0 = x4 → gB x5 0 1 → tr_RRow_sets x4 x5 → x5.toInt ≠ 0 → fR (F_2 q0) 5 = (γ 9 5) → fI (F_2 x3) 1 = x6 → F_2 (γ 9 5) = .inl (I .int, 2000, .inl x7) → x8 = x7 x6.toNatClampNeg → x9 = x8 + l3_2 → x10 = upd x7 x6.toNatClampNeg x9 → (∀ b, b ≠ (γ 9 5) → x11 b = F_2 b) → x11 (γ 9 5) = .inl (I .int, 2000, .inl x10) → fI (x11 x3) 0 = x4 → fI (x11 x3) 5 = x12 → gB x13 0 1 → tr_RRow_usesA x4 x12 x13 → x13.toInt = 0 → fI (x11 x3) 6 = x14 → gB x15 0 1 → tr_RRow_usesB x4 x14 x15 → x15.toInt = 0 → x16.toInt = l5_2.toInt + 1 → R x11 x16 k e1 → R F_2 l5_2 k e1) →
  (∀ (F_2 : Nat → va_E) (l5_2 : Int32) (x1 : Nat) (x2 : Int32) (x3 : Nat) (x4 : Int32) (x5 : Int32) (x6 : Int32) (x7 : Nat → Int32) (x8 : Int32) (x9 : Int32) (x10 : Nat → Int32) (x11 : Nat → va_E) (x12 : Int32) (x13 : Int32) (x14 : Int32) (x15 : Int32) (x16 : Int32) (x17 : Int32) (x18 : Int32) (x19 : Nat → Int32) (x20 : Nat → va_E) (x21 : Int32) (k : Nat) (e1 : Nat → va_E), gB l5_2 0 1000001 → RS D I P F_2 γ el → rStr γ [] F F_2 → (F_2 q0 = F q0) → (F_2 (γ 9 3) = F (γ 9 3)) → fR (F_2 c1) 0 = x1 → x2.toInt = (γ 2 x1 : Int) → fI (F_2 x1) 2 = x2 → l5_2.toInt ≤ x2.toInt → x2.toInt = (γ 2 x1 : Int) → x2.toInt ≤ l5_2.toInt → fR (F_2 c1) 1 = x3 → fI (F_2 x3) 0 = x4 → gB x5 0 1 → tr_RRow_sets x4 x5 → x5.toInt ≠ 0 → fR (F_2 q0) 5 = (γ 9 5) → fI (F_2 x3) 1 = x6 → F_2 (γ 9 5) = .inl (I .int, 2000, .inl x7) → x8 = x7 x6.toNatClampNeg → x9 = x8 + l3_2 → x10 = upd x7 x6.toNatClampNeg x9 → (∀ b, b ≠ (γ 9 5) → x11 b = F_2 b) → x11 (γ 9 5) = .inl (I .int, 2000, .inl x10) → fI (x11 x3) 0 = x4 → fI (x11 x3) 5 = x12 → gB x13 0 1 → tr_RRow_usesA x4 x12 x13 → x13.toInt = 0 → fI (x11 x3) 6 = x14 → gB x15 0 1 → tr_RRow_usesB x4 x14 x15 → x15.toInt ≠ 0 → fR (x11 q0) 5 = (γ 9 5) → fI (x11 x3) 3 = x16 → x11 (γ 9 5) = .inl (I .int, 2000, .inl x10) → x17 = x10 x16.toNatClampNeg → x18 = x17 + l3_2 → x19 = upd x10 x16.toNatClampNeg x18 → (∀ b, b ≠ (γ 9 5) → x20 b = x11 b) → x20 (γ 9 5) = .inl (I .int, 2000, .inl x19) → x21.toInt = l5_2.toInt + 1 → R x20 x21 k e1 → R F_2 l5_2 k e1) →
  (∀ (F_2 : Nat → va_E) (l5_2 : Int32) (x1 : Nat) (x2 : Int32) (x3 : Nat) (x4 : Int32) (x5 : Int32) (x6 : Int32) (x7 : Nat → Int32) (x8 : Int32) (x9 : Int32) (x10 : Nat → Int32) (x11 : Nat → va_E) (x12 : Int32) (x13 : Int32) (x14 : Int32) (x15 : Int32) (x16 : Int32) (x17 : Nat → Int32) (x18 : Nat → va_E) (x19 : Int32) (x20 : Int32) (x21 : Int32) (k : Nat) (e1 : Nat → va_E), gB l5_2 0 1000001 → RS D I P F_2 γ el → rStr γ [] F F_2 → (F_2 q0 = F q0) → (F_2 (γ 9 3) = F (γ 9 3)) → fR (F_2 c1) 0 = x1 → x2.toInt = (γ 2 x1 : Int) → fI (F_2 x1) 2 = x2 → l5_2.toInt ≤ x2.toInt → x2.toInt = (γ 2 x1 : Int) → x2.toInt ≤ l5_2.toInt → fR (F_2 c1) 1 = x3 → fI (F_2 x3) 0 = x4 → gB x5 0 1 → tr_RRow_sets x4 x5 → x5.toInt ≠ 0 → fR (F_2 q0) 5 = (γ 9 5) → fI (F_2 x3) 1 = x6 → F_2 (γ 9 5) = .inl (I .int, 2000, .inl x7) → x8 = x7 x6.toNatClampNeg → x9 = x8 + l3_2 → x10 = upd x7 x6.toNatClampNeg x9 → (∀ b, b ≠ (γ 9 5) → x11 b = F_2 b) → x11 (γ 9 5) = .inl (I .int, 2000, .inl x10) → fI (x11 x3) 0 = x4 → fI (x11 x3) 5 = x12 → gB x13 0 1 → tr_RRow_usesA x4 x12 x13 → x13.toInt ≠ 0 → fR (x11 q0) 5 = (γ 9 5) → fI (x11 x3) 2 = x14 → x11 (γ 9 5) = .inl (I .int, 2000, .inl x10) → x15 = x10 x14.toNatClampNeg → x16 = x15 + l3_2 → x17 = upd x10 x14.toNatClampNeg x16 → (∀ b, b ≠ (γ 9 5) → x18 b = x11 b) → x18 (γ 9 5) = .inl (I .int, 2000, .inl x17) → fI (x18 x3) 0 = x4 → fI (x18 x3) 6 = x19 → gB x20 0 1 → tr_RRow_usesB x4 x19 x20 → x20.toInt = 0 → x21.toInt = l5_2.toInt + 1 → R x18 x21 k e1 → R F_2 l5_2 k e1) →
  (∀ (F_2 : Nat → va_E) (l5_2 : Int32) (x1 : Nat) (x2 : Int32) (x3 : Nat) (x4 : Int32) (x5 : Int32) (x6 : Int32) (x7 : Nat → Int32) (x8 : Int32) (x9 : Int32) (x10 : Nat → Int32) (x11 : Nat → va_E) (x12 : Int32) (x13 : Int32) (x14 : Int32) (x15 : Int32) (x16 : Int32) (x17 : Nat → Int32) (x18 : Nat → va_E) (x19 : Int32) (x20 : Int32) (x21 : Int32) (x22 : Int32) (x23 : Int32) (x24 : Nat → Int32) (x25 : Nat → va_E) (x26 : Int32) (k : Nat) (e1 : Nat → va_E), gB l5_2 0 1000001 → RS D I P F_2 γ el → rStr γ [] F F_2 → (F_2 q0 = F q0) → (F_2 (γ 9 3) = F (γ 9 3)) → fR (F_2 c1) 0 = x1 → x2.toInt = (γ 2 x1 : Int) → fI (F_2 x1) 2 = x2 → l5_2.toInt ≤ x2.toInt → x2.toInt = (γ 2 x1 : Int) → x2.toInt ≤ l5_2.toInt → fR (F_2 c1) 1 = x3 → fI (F_2 x3) 0 = x4 → gB x5 0 1 → tr_RRow_sets x4 x5 → x5.toInt ≠ 0 → fR (F_2 q0) 5 = (γ 9 5) → fI (F_2 x3) 1 = x6 → F_2 (γ 9 5) = .inl (I .int, 2000, .inl x7) → x8 = x7 x6.toNatClampNeg → x9 = x8 + l3_2 → x10 = upd x7 x6.toNatClampNeg x9 → (∀ b, b ≠ (γ 9 5) → x11 b = F_2 b) → x11 (γ 9 5) = .inl (I .int, 2000, .inl x10) → fI (x11 x3) 0 = x4 → fI (x11 x3) 5 = x12 → gB x13 0 1 → tr_RRow_usesA x4 x12 x13 → x13.toInt ≠ 0 → fR (x11 q0) 5 = (γ 9 5) → fI (x11 x3) 2 = x14 → x11 (γ 9 5) = .inl (I .int, 2000, .inl x10) → x15 = x10 x14.toNatClampNeg → x16 = x15 + l3_2 → x17 = upd x10 x14.toNatClampNeg x16 → (∀ b, b ≠ (γ 9 5) → x18 b = x11 b) → x18 (γ 9 5) = .inl (I .int, 2000, .inl x17) → fI (x18 x3) 0 = x4 → fI (x18 x3) 6 = x19 → gB x20 0 1 → tr_RRow_usesB x4 x19 x20 → x20.toInt ≠ 0 → fR (x18 q0) 5 = (γ 9 5) → fI (x18 x3) 3 = x21 → x18 (γ 9 5) = .inl (I .int, 2000, .inl x17) → x22 = x17 x21.toNatClampNeg → x23 = x22 + l3_2 → x24 = upd x17 x21.toNatClampNeg x23 → (∀ b, b ≠ (γ 9 5) → x25 b = x18 b) → x25 (γ 9 5) = .inl (I .int, 2000, .inl x24) → x26.toInt = l5_2.toInt + 1 → R x25 x26 k e1 → R F_2 l5_2 k e1) →
  (∀ (F_2 : Nat → va_E) (l5_2 : Int32) (x1 : Nat) (x2 : Int32) (x3 : Nat) (x4 : Int32) (x5 : Int32) (x6 : Int32) (x7 : Int32) (x8 : Int32) (x9 : Int32) (x10 : Int32) (k : Nat) (e1 : Nat → va_E), gB l5_2 0 1000001 → RS D I P F_2 γ el → rStr γ [] F F_2 → (F_2 q0 = F q0) → (F_2 (γ 9 3) = F (γ 9 3)) → fR (F_2 c1) 0 = x1 → x2.toInt = (γ 2 x1 : Int) → fI (F_2 x1) 2 = x2 → l5_2.toInt ≤ x2.toInt → x2.toInt = (γ 2 x1 : Int) → l5_2.toInt < x2.toInt → x3 = el x1 l5_2.toInt.toNat → tr_RArrayList_get l5_2 x2 → fI (F_2 x3) 0 = x4 → gB x5 0 1 → tr_RRow_sets x4 x5 → x5.toInt = 0 → fI (F_2 x3) 5 = x6 → gB x7 0 1 → tr_RRow_usesA x4 x6 x7 → x7.toInt = 0 → fI (F_2 x3) 6 = x8 → gB x9 0 1 → tr_RRow_usesB x4 x8 x9 → x9.toInt = 0 → x10.toInt = l5_2.toInt + 1 → R F_2 x10 k e1 → R F_2 l5_2 k e1) →
  (∀ (F_2 : Nat → va_E) (l5_2 : Int32) (x1 : Nat) (x2 : Int32) (x3 : Nat) (x4 : Int32) (x5 : Int32) (x6 : Int32) (x7 : Int32) (x8 : Int32) (x9 : Int32) (x10 : Int32) (x11 : Nat → Int32) (x12 : Int32) (x13 : Int32) (x14 : Nat → Int32) (x15 : Nat → va_E) (x16 : Int32) (k : Nat) (e1 : Nat → va_E), gB l5_2 0 1000001 → RS D I P F_2 γ el → rStr γ [] F F_2 → (F_2 q0 = F q0) → (F_2 (γ 9 3) = F (γ 9 3)) → fR (F_2 c1) 0 = x1 → x2.toInt = (γ 2 x1 : Int) → fI (F_2 x1) 2 = x2 → l5_2.toInt ≤ x2.toInt → x2.toInt = (γ 2 x1 : Int) → l5_2.toInt < x2.toInt → x3 = el x1 l5_2.toInt.toNat → tr_RArrayList_get l5_2 x2 → fI (F_2 x3) 0 = x4 → gB x5 0 1 → tr_RRow_sets x4 x5 → x5.toInt = 0 → fI (F_2 x3) 5 = x6 → gB x7 0 1 → tr_RRow_usesA x4 x6 x7 → x7.toInt = 0 → fI (F_2 x3) 6 = x8 → gB x9 0 1 → tr_RRow_usesB x4 x8 x9 → x9.toInt ≠ 0 → fR (F_2 q0) 5 = (γ 9 5) → fI (F_2 x3) 3 = x10 → F_2 (γ 9 5) = .inl (I .int, 2000, .inl x11) → x12 = x11 x10.toNatClampNeg → x13 = x12 + l3_2 → x14 = upd x11 x10.toNatClampNeg x13 → (∀ b, b ≠ (γ 9 5) → x15 b = F_2 b) → x15 (γ 9 5) = .inl (I .int, 2000, .inl x14) → x16.toInt = l5_2.toInt + 1 → R x15 x16 k e1 → R F_2 l5_2 k e1) →
  (∀ (F_2 : Nat → va_E) (l5_2 : Int32) (x1 : Nat) (x2 : Int32) (x3 : Nat) (x4 : Int32) (x5 : Int32) (x6 : Int32) (x7 : Int32) (x8 : Int32) (x9 : Nat → Int32) (x10 : Int32) (x11 : Int32) (x12 : Nat → Int32) (x13 : Nat → va_E) (x14 : Int32) (x15 : Int32) (x16 : Int32) (k : Nat) (e1 : Nat → va_E), gB l5_2 0 1000001 → RS D I P F_2 γ el → rStr γ [] F F_2 → (F_2 q0 = F q0) → (F_2 (γ 9 3) = F (γ 9 3)) → fR (F_2 c1) 0 = x1 → x2.toInt = (γ 2 x1 : Int) → fI (F_2 x1) 2 = x2 → l5_2.toInt ≤ x2.toInt → x2.toInt = (γ 2 x1 : Int) → l5_2.toInt < x2.toInt → x3 = el x1 l5_2.toInt.toNat → tr_RArrayList_get l5_2 x2 → fI (F_2 x3) 0 = x4 → gB x5 0 1 → tr_RRow_sets x4 x5 → x5.toInt = 0 → fI (F_2 x3) 5 = x6 → gB x7 0 1 → tr_RRow_usesA x4 x6 x7 → x7.toInt ≠ 0 → fR (F_2 q0) 5 = (γ 9 5) → fI (F_2 x3) 2 = x8 → F_2 (γ 9 5) = .inl (I .int, 2000, .inl x9) → x10 = x9 x8.toNatClampNeg → x11 = x10 + l3_2 → x12 = upd x9 x8.toNatClampNeg x11 → (∀ b, b ≠ (γ 9 5) → x13 b = F_2 b) → x13 (γ 9 5) = .inl (I .int, 2000, .inl x12) → fI (x13 x3) 0 = x4 → fI (x13 x3) 6 = x14 → gB x15 0 1 → tr_RRow_usesB x4 x14 x15 → x15.toInt = 0 → x16.toInt = l5_2.toInt + 1 → R x13 x16 k e1 → R F_2 l5_2 k e1) →
  (∀ (F_2 : Nat → va_E) (l5_2 : Int32) (x1 : Nat) (x2 : Int32) (x3 : Nat) (x4 : Int32) (x5 : Int32) (x6 : Int32) (x7 : Int32) (x8 : Int32) (x9 : Nat → Int32) (x10 : Int32) (x11 : Int32) (x12 : Nat → Int32) (x13 : Nat → va_E) (x14 : Int32) (x15 : Int32) (x16 : Int32) (x17 : Int32) (x18 : Int32) (x19 : Nat → Int32) (x20 : Nat → va_E) (x21 : Int32) (k : Nat) (e1 : Nat → va_E), gB l5_2 0 1000001 → RS D I P F_2 γ el → rStr γ [] F F_2 → (F_2 q0 = F q0) → (F_2 (γ 9 3) = F (γ 9 3)) → fR (F_2 c1) 0 = x1 → x2.toInt = (γ 2 x1 : Int) → fI (F_2 x1) 2 = x2 → l5_2.toInt ≤ x2.toInt → x2.toInt = (γ 2 x1 : Int) → l5_2.toInt < x2.toInt → x3 = el x1 l5_2.toInt.toNat → tr_RArrayList_get l5_2 x2 → fI (F_2 x3) 0 = x4 → gB x5 0 1 → tr_RRow_sets x4 x5 → x5.toInt = 0 → fI (F_2 x3) 5 = x6 → gB x7 0 1 → tr_RRow_usesA x4 x6 x7 → x7.toInt ≠ 0 → fR (F_2 q0) 5 = (γ 9 5) → fI (F_2 x3) 2 = x8 → F_2 (γ 9 5) = .inl (I .int, 2000, .inl x9) → x10 = x9 x8.toNatClampNeg → x11 = x10 + l3_2 → x12 = upd x9 x8.toNatClampNeg x11 → (∀ b, b ≠ (γ 9 5) → x13 b = F_2 b) → x13 (γ 9 5) = .inl (I .int, 2000, .inl x12) → fI (x13 x3) 0 = x4 → fI (x13 x3) 6 = x14 → gB x15 0 1 → tr_RRow_usesB x4 x14 x15 → x15.toInt ≠ 0 → fR (x13 q0) 5 = (γ 9 5) → fI (x13 x3) 3 = x16 → x13 (γ 9 5) = .inl (I .int, 2000, .inl x12) → x17 = x12 x16.toNatClampNeg → x18 = x17 + l3_2 → x19 = upd x12 x16.toNatClampNeg x18 → (∀ b, b ≠ (γ 9 5) → x20 b = x13 b) → x20 (γ 9 5) = .inl (I .int, 2000, .inl x19) → x21.toInt = l5_2.toInt + 1 → R x20 x21 k e1 → R F_2 l5_2 k e1) →
  (∀ (F_2 : Nat → va_E) (l5_2 : Int32) (x1 : Nat) (x2 : Int32) (x3 : Nat) (x4 : Int32) (x5 : Int32) (x6 : Int32) (x7 : Nat → Int32) (x8 : Int32) (x9 : Int32) (x10 : Nat → Int32) (x11 : Nat → va_E) (x12 : Int32) (x13 : Int32) (x14 : Int32) (x15 : Int32) (x16 : Int32) (k : Nat) (e1 : Nat → va_E), gB l5_2 0 1000001 → RS D I P F_2 γ el → rStr γ [] F F_2 → (F_2 q0 = F q0) → (F_2 (γ 9 3) = F (γ 9 3)) → fR (F_2 c1) 0 = x1 → x2.toInt = (γ 2 x1 : Int) → fI (F_2 x1) 2 = x2 → l5_2.toInt ≤ x2.toInt → x2.toInt = (γ 2 x1 : Int) → l5_2.toInt < x2.toInt → x3 = el x1 l5_2.toInt.toNat → tr_RArrayList_get l5_2 x2 → fI (F_2 x3) 0 = x4 → gB x5 0 1 → tr_RRow_sets x4 x5 → x5.toInt ≠ 0 → fR (F_2 q0) 5 = (γ 9 5) → fI (F_2 x3) 1 = x6 → F_2 (γ 9 5) = .inl (I .int, 2000, .inl x7) → x8 = x7 x6.toNatClampNeg → x9 = x8 + l3_2 → x10 = upd x7 x6.toNatClampNeg x9 → (∀ b, b ≠ (γ 9 5) → x11 b = F_2 b) → x11 (γ 9 5) = .inl (I .int, 2000, .inl x10) → fI (x11 x3) 0 = x4 → fI (x11 x3) 5 = x12 → gB x13 0 1 → tr_RRow_usesA x4 x12 x13 → x13.toInt = 0 → fI (x11 x3) 6 = x14 → gB x15 0 1 → tr_RRow_usesB x4 x14 x15 → x15.toInt = 0 → x16.toInt = l5_2.toInt + 1 → R x11 x16 k e1 → R F_2 l5_2 k e1) →
  (∀ (F_2 : Nat → va_E) (l5_2 : Int32) (x1 : Nat) (x2 : Int32) (x3 : Nat) (x4 : Int32) (x5 : Int32) (x6 : Int32) (x7 : Nat → Int32) (x8 : Int32) (x9 : Int32) (x10 : Nat → Int32) (x11 : Nat → va_E) (x12 : Int32) (x13 : Int32) (x14 : Int32) (x15 : Int32) (x16 : Int32) (x17 : Int32) (x18 : Int32) (x19 : Nat → Int32) (x20 : Nat → va_E) (x21 : Int32) (k : Nat) (e1 : Nat → va_E), gB l5_2 0 1000001 → RS D I P F_2 γ el → rStr γ [] F F_2 → (F_2 q0 = F q0) → (F_2 (γ 9 3) = F (γ 9 3)) → fR (F_2 c1) 0 = x1 → x2.toInt = (γ 2 x1 : Int) → fI (F_2 x1) 2 = x2 → l5_2.toInt ≤ x2.toInt → x2.toInt = (γ 2 x1 : Int) → l5_2.toInt < x2.toInt → x3 = el x1 l5_2.toInt.toNat → tr_RArrayList_get l5_2 x2 → fI (F_2 x3) 0 = x4 → gB x5 0 1 → tr_RRow_sets x4 x5 → x5.toInt ≠ 0 → fR (F_2 q0) 5 = (γ 9 5) → fI (F_2 x3) 1 = x6 → F_2 (γ 9 5) = .inl (I .int, 2000, .inl x7) → x8 = x7 x6.toNatClampNeg → x9 = x8 + l3_2 → x10 = upd x7 x6.toNatClampNeg x9 → (∀ b, b ≠ (γ 9 5) → x11 b = F_2 b) → x11 (γ 9 5) = .inl (I .int, 2000, .inl x10) → fI (x11 x3) 0 = x4 → fI (x11 x3) 5 = x12 → gB x13 0 1 → tr_RRow_usesA x4 x12 x13 → x13.toInt = 0 → fI (x11 x3) 6 = x14 → gB x15 0 1 → tr_RRow_usesB x4 x14 x15 → x15.toInt ≠ 0 → fR (x11 q0) 5 = (γ 9 5) → fI (x11 x3) 3 = x16 → x11 (γ 9 5) = .inl (I .int, 2000, .inl x10) → x17 = x10 x16.toNatClampNeg → x18 = x17 + l3_2 → x19 = upd x10 x16.toNatClampNeg x18 → (∀ b, b ≠ (γ 9 5) → x20 b = x11 b) → x20 (γ 9 5) = .inl (I .int, 2000, .inl x19) → x21.toInt = l5_2.toInt + 1 → R x20 x21 k e1 → R F_2 l5_2 k e1) →
  (∀ (F_2 : Nat → va_E) (l5_2 : Int32) (x1 : Nat) (x2 : Int32) (x3 : Nat) (x4 : Int32) (x5 : Int32) (x6 : Int32) (x7 : Nat → Int32) (x8 : Int32) (x9 : Int32) (x10 : Nat → Int32) (x11 : Nat → va_E) (x12 : Int32) (x13 : Int32) (x14 : Int32) (x15 : Int32) (x16 : Int32) (x17 : Nat → Int32) (x18 : Nat → va_E) (x19 : Int32) (x20 : Int32) (x21 : Int32) (k : Nat) (e1 : Nat → va_E), gB l5_2 0 1000001 → RS D I P F_2 γ el → rStr γ [] F F_2 → (F_2 q0 = F q0) → (F_2 (γ 9 3) = F (γ 9 3)) → fR (F_2 c1) 0 = x1 → x2.toInt = (γ 2 x1 : Int) → fI (F_2 x1) 2 = x2 → l5_2.toInt ≤ x2.toInt → x2.toInt = (γ 2 x1 : Int) → l5_2.toInt < x2.toInt → x3 = el x1 l5_2.toInt.toNat → tr_RArrayList_get l5_2 x2 → fI (F_2 x3) 0 = x4 → gB x5 0 1 → tr_RRow_sets x4 x5 → x5.toInt ≠ 0 → fR (F_2 q0) 5 = (γ 9 5) → fI (F_2 x3) 1 = x6 → F_2 (γ 9 5) = .inl (I .int, 2000, .inl x7) → x8 = x7 x6.toNatClampNeg → x9 = x8 + l3_2 → x10 = upd x7 x6.toNatClampNeg x9 → (∀ b, b ≠ (γ 9 5) → x11 b = F_2 b) → x11 (γ 9 5) = .inl (I .int, 2000, .inl x10) → fI (x11 x3) 0 = x4 → fI (x11 x3) 5 = x12 → gB x13 0 1 → tr_RRow_usesA x4 x12 x13 → x13.toInt ≠ 0 → fR (x11 q0) 5 = (γ 9 5) → fI (x11 x3) 2 = x14 → x11 (γ 9 5) = .inl (I .int, 2000, .inl x10) → x15 = x10 x14.toNatClampNeg → x16 = x15 + l3_2 → x17 = upd x10 x14.toNatClampNeg x16 → (∀ b, b ≠ (γ 9 5) → x18 b = x11 b) → x18 (γ 9 5) = .inl (I .int, 2000, .inl x17) → fI (x18 x3) 0 = x4 → fI (x18 x3) 6 = x19 → gB x20 0 1 → tr_RRow_usesB x4 x19 x20 → x20.toInt = 0 → x21.toInt = l5_2.toInt + 1 → R x18 x21 k e1 → R F_2 l5_2 k e1) →
  (∀ (F_2 : Nat → va_E) (l5_2 : Int32) (x1 : Nat) (x2 : Int32) (x3 : Nat) (x4 : Int32) (x5 : Int32) (x6 : Int32) (x7 : Nat → Int32) (x8 : Int32) (x9 : Int32) (x10 : Nat → Int32) (x11 : Nat → va_E) (x12 : Int32) (x13 : Int32) (x14 : Int32) (x15 : Int32) (x16 : Int32) (x17 : Nat → Int32) (x18 : Nat → va_E) (x19 : Int32) (x20 : Int32) (x21 : Int32) (x22 : Int32) (x23 : Int32) (x24 : Nat → Int32) (x25 : Nat → va_E) (x26 : Int32) (k : Nat) (e1 : Nat → va_E), gB l5_2 0 1000001 → RS D I P F_2 γ el → rStr γ [] F F_2 → (F_2 q0 = F q0) → (F_2 (γ 9 3) = F (γ 9 3)) → fR (F_2 c1) 0 = x1 → x2.toInt = (γ 2 x1 : Int) → fI (F_2 x1) 2 = x2 → l5_2.toInt ≤ x2.toInt → x2.toInt = (γ 2 x1 : Int) → l5_2.toInt < x2.toInt → x3 = el x1 l5_2.toInt.toNat → tr_RArrayList_get l5_2 x2 → fI (F_2 x3) 0 = x4 → gB x5 0 1 → tr_RRow_sets x4 x5 → x5.toInt ≠ 0 → fR (F_2 q0) 5 = (γ 9 5) → fI (F_2 x3) 1 = x6 → F_2 (γ 9 5) = .inl (I .int, 2000, .inl x7) → x8 = x7 x6.toNatClampNeg → x9 = x8 + l3_2 → x10 = upd x7 x6.toNatClampNeg x9 → (∀ b, b ≠ (γ 9 5) → x11 b = F_2 b) → x11 (γ 9 5) = .inl (I .int, 2000, .inl x10) → fI (x11 x3) 0 = x4 → fI (x11 x3) 5 = x12 → gB x13 0 1 → tr_RRow_usesA x4 x12 x13 → x13.toInt ≠ 0 → fR (x11 q0) 5 = (γ 9 5) → fI (x11 x3) 2 = x14 → x11 (γ 9 5) = .inl (I .int, 2000, .inl x10) → x15 = x10 x14.toNatClampNeg → x16 = x15 + l3_2 → x17 = upd x10 x14.toNatClampNeg x16 → (∀ b, b ≠ (γ 9 5) → x18 b = x11 b) → x18 (γ 9 5) = .inl (I .int, 2000, .inl x17) → fI (x18 x3) 0 = x4 → fI (x18 x3) 6 = x19 → gB x20 0 1 → tr_RRow_usesB x4 x19 x20 → x20.toInt ≠ 0 → fR (x18 q0) 5 = (γ 9 5) → fI (x18 x3) 3 = x21 → x18 (γ 9 5) = .inl (I .int, 2000, .inl x17) → x22 = x17 x21.toNatClampNeg → x23 = x22 + l3_2 → x24 = upd x17 x21.toNatClampNeg x23 → (∀ b, b ≠ (γ 9 5) → x25 b = x18 b) → x25 (γ 9 5) = .inl (I .int, 2000, .inl x24) → x26.toInt = l5_2.toInt + 1 → R x25 x26 k e1 → R F_2 l5_2 k e1) →
  R s1 s2 k e1
/- tl_RModel_weigh_42: l4, l3; out: l3 -/
def tl_RModel_weigh_42 (D : va_G) (I : FieldType → ClassId) (γ el : Nat → Nat → Nat) (F_1 : Nat → va_E) (q0 : Nat) (l2_1 : Int32) (s1 : Int32) (s2 : Int32) (k : Nat) (e1 : Int32) : Prop := ∀ R : (Int32) → (Int32) → Nat → (Int32) → Prop,
  (∀ (l4_2 : Int32) (l3_2 : Int32) (x1 : Nat → Int32) (x2 : Int32), gB l4_2 0 2147483647 → fR (F_1 q0) 4 = (γ 9 4) → F_1 (γ 9 4) = .inl (I .int, 40, .inl x1) → x2 = x1 l2_1.toNatClampNeg → x2.toInt ≤ l4_2.toInt → R l4_2 l3_2 64 l3_2) →
  (∀ (l4_2 : Int32) (l3_2 : Int32) (x1 : Nat → Int32) (x2 : Int32) (x3 : Int32) (x4 : Int32) (k : Nat) (e1 : Int32), gB l4_2 0 2147483647 → fR (F_1 q0) 4 = (γ 9 4) → F_1 (γ 9 4) = .inl (I .int, 40, .inl x1) → x2 = x1 l2_1.toNatClampNeg → l4_2.toInt < x2.toInt → x3 = l3_2 * (10 : Int32) → x4.toInt = l4_2.toInt + 1 → R x4 x3 k e1 → R l4_2 l3_2 k e1) →
  R s1 s2 k e1
/- tl_RModel_weigh_29: F, l2; out: F -/
def tl_RModel_weigh_29 (D : va_G) (I : FieldType → ClassId) (γ el : Nat → Nat → Nat) (P : List Nat) (F : Nat → va_E) (q0 : Nat) (q1 : Nat) (s1 : Nat → va_E) (s2 : Int32) (k : Nat) (e1 : Nat → va_E) : Prop := ∀ R : (Nat → va_E) → (Int32) → Nat → (Nat → va_E) → Prop,
  (∀ (F_1 : Nat → va_E) (l2_1 : Int32) (x1 : Int32), gB l2_1 0 1000000 → RS D I P F_1 γ el → rStr γ [] F F_1 → (F_1 q0 = F q0) → (F_1 (γ 9 3) = F (γ 9 3)) → fI (F_1 q1) 3 = x1 → x1.toInt ≤ l2_1.toInt → R F_1 l2_1 201 F_1) →
  (∀ (F_1 : Nat → va_E) (l2_1 : Int32) (x1 : Int32) (x2 : Int32) (x3 : Nat) (x4 : Nat) (x5 : Int32) (x6 : Nat → va_E) (x7 : Int32) (k : Nat) (e1 : Nat → va_E), gB l2_1 0 1000000 → RS D I P F_1 γ el → rStr γ [] F F_1 → (F_1 q0 = F q0) → (F_1 (γ 9 3) = F (γ 9 3)) → fI (F_1 q1) 3 = x1 → l2_1.toInt < x1.toInt → tl_RModel_weigh_42 D I γ el F_1 q0 l2_1 (0 : Int32) (1 : Int32) 64 x2 → fR (F_1 q1) 0 = x3 → x4 = el x3 l2_1.toInt.toNat → fI (F_1 x3) 2 = x5 → tr_RCode_get l2_1 x5 → tl_RModel_weigh_74 D I γ el P F q0 x4 x2 F_1 (0 : Int32) 195 x6 → x7.toInt = l2_1.toInt + 1 → R x6 x7 k e1 → R F_1 l2_1 k e1) →
  R s1 s2 k e1
/- tl_RModel_weigh_7: F, l2; out: F -/
def tl_RModel_weigh_7 (D : va_G) (I : FieldType → ClassId) (γ el : Nat → Nat → Nat) (P : List Nat) (F : Nat → va_E) (q0 : Nat) (s1 : Nat → va_E) (s2 : Int32) (k : Nat) (e1 : Nat → va_E) : Prop := ∀ R : (Nat → va_E) → (Int32) → Nat → (Nat → va_E) → Prop,
  (∀ (F_1 : Nat → va_E) (l2_1 : Int32), gB l2_1 0 2000 → RS D I P F_1 γ el → rStr γ [] F F_1 → (F_1 q0 = F q0) → (F_1 (γ 9 3) = F (γ 9 3)) → 2000 ≤ l2_1.toInt → R F_1 l2_1 27 F_1) →
  (∀ (F_1 : Nat → va_E) (l2_1 : Int32) (x1 : Nat → Int32) (x2 : Nat → Int32) (x3 : Nat → va_E) (x4 : Int32) (k : Nat) (e1 : Nat → va_E), gB l2_1 0 2000 → RS D I P F_1 γ el → rStr γ [] F F_1 → (F_1 q0 = F q0) → (F_1 (γ 9 3) = F (γ 9 3)) → l2_1.toInt < 2000 → fR (F_1 q0) 5 = (γ 9 5) → F_1 (γ 9 5) = .inl (I .int, 2000, .inl x1) → x2 = upd x1 l2_1.toNatClampNeg 0 → (∀ b, b ≠ (γ 9 5) → x3 b = F_1 b) → x3 (γ 9 5) = .inl (I .int, 2000, .inl x2) → x4.toInt = l2_1.toInt + 1 → R x3 x4 k e1 → R F_1 l2_1 k e1) →
  R s1 s2 k e1
/- tr_RModel_weigh: F -/
def tr_RModel_weigh (D : va_G) (I : FieldType → ClassId) (γ el : Nat → Nat → Nat) (P : List Nat) (F : Nat → va_E) (q0 : Nat) (q1 : Nat) (o1 : Nat → va_E) : Prop := ∀ R : (Nat → va_E) → Prop,
  (∀ (x1 : Nat → va_E) (x2 : Nat → va_E) (x3 : Nat → va_E), RS D I P x1 γ el → rStr γ [] F x1 → (x1 q0 = F q0) → (x1 (γ 9 3) = F (γ 9 3)) → tr_RModel_findDepth2 D I γ el P F q0 q1 x1 → tl_RModel_weigh_7 D I γ el P F q0 x1 (0 : Int32) 27 x2 → tl_RModel_weigh_29 D I γ el P F q0 q1 x2 (0 : Int32) 201 x3 → R x3) →
  R o1
