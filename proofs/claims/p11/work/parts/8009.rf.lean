abbrev ky_582690_SpillForgeModel_run : gKey := (cX17_run, 7, "SpillForgeModel", (some FieldType.int), [], "run", fun _ _ => True)
def pt_582690_SpillForgeModel_run (D : va_G) (I : FieldType → ClassId) (γ el : Nat → Nat → Nat) (P582684 : List Nat) (F582685 : Nat → va_E) (q582686 : Nat) (q582687 : Nat) (p582688 : Int32) : Option Value → va_W → Nat → Nat → Prop := fun r w dc ds => ∃ (F587996 : Nat → va_E) (o587995 : Int32), r = some (.int o587995) ∧ w = va_pl P582684 F587996 ∧ RS D I P582684 F587996 γ el ∧ rStr γ [97] F582685 F587996 ∧ dc ≤ 0 ∧ ds ≤ 0 ∧ gB o587995 0 5 ∧ (fI (F587996 q582686) 9).toInt = (fI (F582685 q582686) 9).toInt ∧ (fI (F587996 q582686) 10).toInt = (fI (F582685 q582686) 10).toInt ∧ (fI (F587996 q582686) 32).toInt = (fI (F582685 q582686) 32).toInt ∧ tr_RModel_run D I γ el P582684 F582685 q582686 q582687 p582688 o587995 F587996
set_option maxRecDepth 100000 in
set_option maxHeartbeats 4000000 in
theorem ct_582690_SpillForgeModel_run (l : Launch) (hl0 : l.stackTraces = false) (D : va_G) (I : FieldType → ClassId) (γ el : Nat → Nat → Nat) (P582684 : List Nat) (F582685 : Nat → va_E) (q582686 : Nat) (q582687 : Nat) (p582688 : Int32) (hT : RS D I P582684 F582685 γ el) (htq582686 : rKd γ q582686 10) (htq582687 : rKd γ q582687 9) (bp582688 : gB p582688 1 100000) (x582689 : 0 < γ 6 (γ 1 q582687)) : CtA (gV D I) l yX17_run cX17_run 7 (some FieldType.int) 4 85 0 0 [.ref q582686, .ref q582687, .int p582688] (va_pl P582684 F582685) (pt_582690_SpillForgeModel_run D I γ el P582684 F582685 q582686 q582687 p582688) gNA := by
  refine CtA_of hl0 (by decide) (Nat.le_of_ble_eq_true rfl) ?_
  have hm582691 : q582686 ∈ P582684 := RS_m hT htq582686 (by decide)
  refine rk10_e (show rk_10 γ (F582685 q582686) from RS_o hT htq582686) (fun q582693 q582694 p582695 p582696 p582697 p582698 p582699 p582700 p582701 p582702 p582703 p582704 p582705 p582706 p582707 p582708 p582709 he582692 hB582736 ht582710 ht582711 ht582712 ht582713 ht582714 ht582715 ht582716 ht582717 ht582718 ht582719 ht582720 ht582721 ht582722 ht582723 ht582724 ht582725 ht582726 ht582727 ht582728 ht582729 ht582730 ht582731 ht582732 ht582733 hB582737 => ?_)
  have ac582738 : (fI (F582685 q582686) 26).toInt = p582704.toInt := by rw [he582692]; rfl
  have bp582704 : gB p582704 0 100000 := (hB582736.2.2.2.2.2.1)
  have ac582739 : (fI (F582685 q582686) 9).toInt = p582695.toInt := by rw [he582692]; rfl
  have bp582695 : gB p582695 0 1 := (hB582736.1)
  have ac582740 : (fI (F582685 q582686) 10).toInt = p582696.toInt := by rw [he582692]; rfl
  have bp582696 : gB p582696 0 1 := (hB582736.2.1)
  have ac582741 : (fI (F582685 q582686) 32).toInt = p582707.toInt := by rw [he582692]; rfl
  have bp582707 : gB p582707 0 8192 := (hB582736.2.2.2.2.2.2.2.1)
  refine G_iconst 0 dr_cX17_run_0 (by decide +kernel) ?_
  refine G_istore_n (L' := [(3, .int 0), (0, .ref q582686), (1, .ref q582687), (2, .int p582688)]) dr_cX17_run_1 (Nat.le_of_ble_eq_true rfl) rfl ?_
  have hlp2_587085 : ∀ (n2_587085 : Nat) (F587080 : Nat → va_E) (g587079 : Int32), gB g587079 0 2000 → RS D I P582684 F587080 γ el → rStr γ [97] F582685 F587080 → (fI (F587080 q582686) 9).toInt = (fI (F582685 q582686) 9).toInt → (fI (F587080 q582686) 10).toInt = (fI (F582685 q582686) 10).toInt → (fI (F587080 q582686) 32).toInt = (fI (F582685 q582686) 32).toInt → (∀ (k : Nat) (e1 : Nat → va_E), tl_RModel_run_2 D I γ el P582684 F582685 q582686 F587080 g587079 k e1 → tl_RModel_run_2 D I γ el P582684 F582685 q582686 F582685 (0 : Int32) k e1) → ((2001 : Int) - g587079.toInt).toNat < n2_587085 → G (gV D I) l (gRm 4 85 0 0) (gMA (gV D I) (pt_582690_SpillForgeModel_run D I γ el P582684 F582685 q582686 q582687 p582688) gNA 0 0) ky_582690_SpillForgeModel_run 2 [(3, .int g587079), (0, .ref q582686), (1, .ref q582687), (2, .int p582688)] [] (va_pl P582684 F587080) 0 0 := by
    intro n2_587085
    induction n2_587085 with
    | zero => intro F587080 g587079 bg587079 hT587081 hs587082 x587083 x587084 x587085 kt2_587086 hm2_587085; exact absurd hm2_587085 (Nat.not_lt_zero _)
    | succ n2_587085 ih2_587085 =>
      intro F587080 g587079 bg587079 hT587081 hs587082 x587083 x587084 x587085 kt2_587086 hm2_587085
      have hs587087 : rStr γ [97] F582685 F587080 := fun b h0 hb hw => (hs587082 b h0 hb hw).trans ((rStr_rf (γ := γ) (W := [97]) (F := F582685)) b h0 hb hw).symm
      have hs587088 : rStr γ [97] F582685 F587080 := rStr_tr (rStr_rf (γ := γ) (W := [97]) (F := F582685)) hs587087
      have hm587089 : q582686 ∈ P582684 := RS_m hT587081 htq582686 (by decide)
      refine rk10_e (show rk_10 γ (F587080 q582686) from RS_o hT587081 htq582686) (fun q587091 q587092 p587093 p587094 p587095 p587096 p587097 p587098 p587099 p587100 p587101 p587102 p587103 p587104 p587105 p587106 p587107 he587090 hB587134 ht587108 ht587109 ht587110 ht587111 ht587112 ht587113 ht587114 ht587115 ht587116 ht587117 ht587118 ht587119 ht587120 ht587121 ht587122 ht587123 ht587124 ht587125 ht587126 ht587127 ht587128 ht587129 ht587130 ht587131 hB587135 => ?_)
      have ac587136 : (fI (F587080 q582686) 26).toInt = p587102.toInt := by rw [he587090]; rfl
      have bp587102 : gB p587102 0 100000 := (hB587134.2.2.2.2.2.1)
      have ac587137 : (fI (F587080 q582686) 9).toInt = p587093.toInt := by rw [he587090]; rfl
      have bp587093 : gB p587093 0 1 := (hB587134.1)
      have ac587138 : (fI (F587080 q582686) 10).toInt = p587094.toInt := by rw [he587090]; rfl
      have bp587094 : gB p587094 0 1 := (hB587134.2.1)
      have ac587139 : (fI (F587080 q582686) 32).toInt = p587105.toInt := by rw [he587090]; rfl
      have bp587105 : gB p587105 0 8192 := (hB587134.2.2.2.2.2.2.2.1)
      have ac587140 : (fI (F587080 q582686) 26).toInt = p587102.toInt := by rw [he587090]; rfl
      have ac587141 : (fI (F587080 q582686) 9).toInt = p587093.toInt := by rw [he587090]; rfl
      have ac587142 : (fI (F587080 q582686) 10).toInt = p587094.toInt := by rw [he587090]; rfl
      have ac587143 : (fI (F587080 q582686) 32).toInt = p587105.toInt := by rw [he587090]; rfl
      refine G_iload_n 0 dr_cX17_run_2 rfl ?_
      refine G_sipush 2000 dr_cX17_run_3 (by decide +kernel) ?_
      refine G_icmp_ge 29 dr_cX17_run_6 (by decide +kernel) (fun hc587144 => ?_) (fun hc587144 => ?_)
      · have r587145 : 2000 ≤ g587079.toInt := gj_leL hc587144 (show Int32.toInt 2000 = 2000 by decide)
        have bg587079' : gB g587079 2000 2000 := ⟨by omega, by omega⟩
        have hx587146 : tl_RModel_run_2 D I γ el P582684 F582685 q582686 F582685 (0 : Int32) 29 F587080 := kt2_587086 29 F587080 (fun R c1 c2 => c1 F587080 g587079 bg587079 hT587081 hs587082 x587083 x587084 x587085 r587145)
        refine G_aload_n 1 dr_cX17_run_29 rfl ?_
        refine G_iconst 0 dr_cX17_run_30 (by decide +kernel) ?_
        refine Gp_put 24 hm587089 he587090 dr_cX17_run_31 (gk_X17 D I) (Nat.le_of_ble_eq_true rfl) wr_7_98 rfl rfl rfl (Nat.le_of_ble_eq_true rfl) (fun F587147 e587148 n587149 => ?_)
        have he587150 : F587147 q582686 = .inr (22, [.ref (γ 9 0), .ref (γ 9 1), .ref (γ 9 2), .ref (γ 9 3), .ref (γ 9 4), .ref (γ 9 5), .ref (γ 9 6), .ref (γ 9 7), .ref (γ 9 8), .int p587093, .int p587094, .int p587095, .int p587096, .int p587097, .int p587098, .ref (γ 9 15), .ref (γ 9 16), .ref (γ 9 17), .ref (γ 9 18), .ref (γ 9 19), .ref (γ 9 20), .ref (γ 9 21), .ref (γ 9 22), .int p587099, .int 0, .int p587101, .int p587102, .int p587103, .ref q587091, .ref (γ 9 29), .int p587104, .ref (γ 9 31), .int p587105, .int p587106, .int p587107, .ref q587092]) := e587148
        have hs587151 : rStr γ [97] F582685 F587147 := rStr_put hs587082 n587149 htq582686 (by decide)
        have fq587152 : F587147 q582686 = cF (F587080 q582686) 24 (.int 0) := by rw [he587150, he587090]; rfl
        refine G_aload_n 1 dr_cX17_run_34 rfl ?_
        refine G_iconst 0 dr_cX17_run_35 (by decide +kernel) ?_
        refine Gp_put 25 hm587089 he587150 dr_cX17_run_36 (gk_X17 D I) (Nat.le_of_ble_eq_true rfl) wr_7_99 rfl rfl rfl (Nat.le_of_ble_eq_true rfl) (fun F587153 e587154 n587155 => ?_)
        have he587156 : F587153 q582686 = .inr (22, [.ref (γ 9 0), .ref (γ 9 1), .ref (γ 9 2), .ref (γ 9 3), .ref (γ 9 4), .ref (γ 9 5), .ref (γ 9 6), .ref (γ 9 7), .ref (γ 9 8), .int p587093, .int p587094, .int p587095, .int p587096, .int p587097, .int p587098, .ref (γ 9 15), .ref (γ 9 16), .ref (γ 9 17), .ref (γ 9 18), .ref (γ 9 19), .ref (γ 9 20), .ref (γ 9 21), .ref (γ 9 22), .int p587099, .int 0, .int 0, .int p587102, .int p587103, .ref q587091, .ref (γ 9 29), .int p587104, .ref (γ 9 31), .int p587105, .int p587106, .int p587107, .ref q587092]) := e587154
        have hs587157 : rStr γ [97] F582685 F587153 := rStr_put hs587151 n587155 htq582686 (by decide)
        have n587158 : ∀ b, b ≠ q582686 → F587153 b = F587080 b := fun b hb => (n587155 b hb).trans (n587149 b hb)
        have fq587159 : F587153 q582686 = cF (F587147 q582686) 25 (.int 0) := by rw [he587156, he587150]; rfl
        refine G_aload_n 1 dr_cX17_run_39 rfl ?_
        refine G_iconst 0 dr_cX17_run_40 (by decide +kernel) ?_
        refine Gp_put 26 hm587089 he587156 dr_cX17_run_41 (gk_X17 D I) (Nat.le_of_ble_eq_true rfl) wr_7_100 rfl rfl rfl (Nat.le_of_ble_eq_true rfl) (fun F587160 e587161 n587162 => ?_)
        have he587163 : F587160 q582686 = .inr (22, [.ref (γ 9 0), .ref (γ 9 1), .ref (γ 9 2), .ref (γ 9 3), .ref (γ 9 4), .ref (γ 9 5), .ref (γ 9 6), .ref (γ 9 7), .ref (γ 9 8), .int p587093, .int p587094, .int p587095, .int p587096, .int p587097, .int p587098, .ref (γ 9 15), .ref (γ 9 16), .ref (γ 9 17), .ref (γ 9 18), .ref (γ 9 19), .ref (γ 9 20), .ref (γ 9 21), .ref (γ 9 22), .int p587099, .int 0, .int 0, .int 0, .int p587103, .ref q587091, .ref (γ 9 29), .int p587104, .ref (γ 9 31), .int p587105, .int p587106, .int p587107, .ref q587092]) := e587161
        have hs587164 : rStr γ [97] F582685 F587160 := rStr_put hs587157 n587162 htq582686 (by decide)
        have n587165 : ∀ b, b ≠ q582686 → F587160 b = F587080 b := fun b hb => (n587162 b hb).trans (n587158 b hb)
        have fq587166 : F587160 q582686 = cF (F587153 q582686) 26 (.int 0) := by rw [he587163, he587156]; rfl
        refine G_aload_n 1 dr_cX17_run_44 rfl ?_
        refine G_iconst 0 dr_cX17_run_45 (by decide +kernel) ?_
        refine Gp_put 27 hm587089 he587163 dr_cX17_run_46 (gk_X17 D I) (Nat.le_of_ble_eq_true rfl) wr_7_101 rfl rfl rfl (Nat.le_of_ble_eq_true rfl) (fun F587167 e587168 n587169 => ?_)
        have he587170 : F587167 q582686 = .inr (22, [.ref (γ 9 0), .ref (γ 9 1), .ref (γ 9 2), .ref (γ 9 3), .ref (γ 9 4), .ref (γ 9 5), .ref (γ 9 6), .ref (γ 9 7), .ref (γ 9 8), .int p587093, .int p587094, .int p587095, .int p587096, .int p587097, .int p587098, .ref (γ 9 15), .ref (γ 9 16), .ref (γ 9 17), .ref (γ 9 18), .ref (γ 9 19), .ref (γ 9 20), .ref (γ 9 21), .ref (γ 9 22), .int p587099, .int 0, .int 0, .int 0, .int 0, .ref q587091, .ref (γ 9 29), .int p587104, .ref (γ 9 31), .int p587105, .int p587106, .int p587107, .ref q587092]) := e587168
        have hs587171 : rStr γ [97] F582685 F587167 := rStr_put hs587164 n587169 htq582686 (by decide)
        have n587172 : ∀ b, b ≠ q582686 → F587167 b = F587080 b := fun b hb => (n587169 b hb).trans (n587165 b hb)
        have fq587173 : F587167 q582686 = cF (F587160 q582686) 27 (.int 0) := by rw [he587170, he587163]; rfl
        refine G_iconst 0 dr_cX17_run_49 (by decide +kernel) ?_
        refine G_istore_n (L' := [(3, .int 0), (0, .ref q582686), (1, .ref q582687), (2, .int p582688)]) dr_cX17_run_50 (Nat.le_of_ble_eq_true rfl) rfl ?_
        refine G_iconst 0 dr_cX17_run_51 (by decide +kernel) ?_
        refine G_istore (L' := [(4, .int 0), (3, .int 0), (0, .ref q582686), (1, .ref q582687), (2, .int p582688)]) dr_cX17_run_52 (Nat.le_of_ble_eq_true rfl) rfl ?_
        have hT587174 : RS D I P582684 F587167 γ el := RS_set hT587081 n587172 htq582686 (by decide) ⟨q587091, q587092, p587093, p587094, p587095, p587096, p587097, p587098, p587099, 0, 0, 0, 0, p587104, p587105, p587106, p587107, he587170, ⟨bp587093, bp587094, (hB587134.2.2.1), (hB587134.2.2.2.1), (gB_w (gBl (show Int32.toInt 0 = 0 by decide)) (by decide) (by decide)), (gB_w (gBl (show Int32.toInt 0 = 0 by decide)) (by decide) (by decide)), (gB_w (gBl (show Int32.toInt 0 = 0 by decide)) (by decide) (by decide)), bp587105, (hB587134.2.2.2.2.2.2.2.2)⟩, ht587108, ht587109, ht587110, ht587111, ht587112, ht587113, ht587114, ht587115, ht587116, ht587117, ht587118, ht587119, ht587120, ht587121, ht587122, ht587123, ht587124, ht587125, ht587126, ht587127, ht587128, ht587129, ht587130, ht587131, hB587135⟩
        have hlp54_587528 : ∀ (n54_587528 : Nat) (F587521 : Nat → va_E) (g587519 : Int32) (g587520 : Int32), gB g587519 0 39 → gB g587520 0 1000000 → RS D I P582684 F587521 γ el → rStr γ [97] F582685 F587521 → g587519.toInt < γ 6 (γ 1 q582687) → (fI (F587521 q582686) 26).toInt ≤ p582688.toInt → (fI (F587521 q582686) 9).toInt = (fI (F582685 q582686) 9).toInt → (fI (F587521 q582686) 10).toInt = (fI (F582685 q582686) 10).toInt → (fI (F587521 q582686) 32).toInt = (fI (F582685 q582686) 32).toInt → (∀ (k : Nat) (e1 : Nat) (e2 : Nat → va_E) (e3 : Int32), tl_RModel_run_54 D I γ el P582684 F582685 q582687 q582686 p582688 F587521 g587519 g587520 k e1 e2 e3 → tl_RModel_run_54 D I γ el P582684 F582685 q582687 q582686 p582688 F587167 (0 : Int32) (0 : Int32) k e1 e2 e3) → (p582688.toInt - (fI (F587521 q582686) 26).toInt).toNat < n54_587528 → G (gV D I) l (gRm 4 85 0 0) (gMA (gV D I) (pt_582690_SpillForgeModel_run D I γ el P582684 F582685 q582686 q582687 p582688) gNA 0 0) ky_582690_SpillForgeModel_run 54 [(4, .int g587520), (3, .int g587519), (0, .ref q582686), (1, .ref q582687), (2, .int p582688)] [] (va_pl P582684 F587521) 0 0 := by
          intro n54_587528
          induction n54_587528 with
          | zero => intro F587521 g587519 g587520 bg587519 bg587520 hT587522 hs587523 x587524 x587525 x587526 x587527 x587528 kt54_587529 hm54_587528; exact absurd hm54_587528 (Nat.not_lt_zero _)
          | succ n54_587528 ih54_587528 =>
            intro F587521 g587519 g587520 bg587519 bg587520 hT587522 hs587523 x587524 x587525 x587526 x587527 x587528 kt54_587529 hm54_587528
            have hs587530 : rStr γ [97] F587167 F587521 := fun b h0 hb hw => (hs587523 b h0 hb hw).trans (hs587171 b h0 hb hw).symm
            have hs587531 : rStr γ [97] F582685 F587521 := rStr_tr hs587171 hs587530
            have hm587532 : q582686 ∈ P582684 := RS_m hT587522 htq582686 (by decide)
            refine rk10_e (show rk_10 γ (F587521 q582686) from RS_o hT587522 htq582686) (fun q587534 q587535 p587536 p587537 p587538 p587539 p587540 p587541 p587542 p587543 p587544 p587545 p587546 p587547 p587548 p587549 p587550 he587533 hB587577 ht587551 ht587552 ht587553 ht587554 ht587555 ht587556 ht587557 ht587558 ht587559 ht587560 ht587561 ht587562 ht587563 ht587564 ht587565 ht587566 ht587567 ht587568 ht587569 ht587570 ht587571 ht587572 ht587573 ht587574 hB587578 => ?_)
            have ac587579 : (fI (F587521 q582686) 26).toInt = p587545.toInt := by rw [he587533]; rfl
            have bp587545 : gB p587545 0 100000 := (hB587577.2.2.2.2.2.1)
            have ac587580 : (fI (F587521 q582686) 9).toInt = p587536.toInt := by rw [he587533]; rfl
            have bp587536 : gB p587536 0 1 := (hB587577.1)
            have ac587581 : (fI (F587521 q582686) 10).toInt = p587537.toInt := by rw [he587533]; rfl
            have bp587537 : gB p587537 0 1 := (hB587577.2.1)
            have ac587582 : (fI (F587521 q582686) 32).toInt = p587548.toInt := by rw [he587533]; rfl
            have bp587548 : gB p587548 0 8192 := (hB587577.2.2.2.2.2.2.2.1)
            have ac587583 : (fI (F587521 q582686) 26).toInt = p587545.toInt := by rw [he587533]; rfl
            have ac587584 : (fI (F587521 q582686) 9).toInt = p587536.toInt := by rw [he587533]; rfl
            have ac587585 : (fI (F587521 q582686) 10).toInt = p587537.toInt := by rw [he587533]; rfl
            have ac587586 : (fI (F587521 q582686) 32).toInt = p587548.toInt := by rw [he587533]; rfl
            refine G_aload_n 3 dr_cX17_run_54 rfl ?_
            refine G_iload_n 1 dr_cX17_run_55 rfl ?_
            have hm587587 : q582687 ∈ P582684 := RS_m hT587522 htq582687 (by decide)
            obtain ⟨q587589, q587590, p587591, p587592, he587588, ht587608, ht587593, ht587594, ht587595, ht587596, r587597, r587598, r587599, r587600, r587601, r587602, r587603, r587604, r587605, r587606, r587607⟩ := show rk_9 γ el q582687 (F587521 q582687) from RS_o hT587522 htq582687
            have bp587591 : gB p587591 0 1000000 := ⟨by omega, by omega⟩
            have bp587592 : gB p587592 0 1000000 := ⟨by omega, by omega⟩
            have hm587609 : q587589 ∈ P582684 := RS_m hT587522 ht587593 (by decide)
            obtain ⟨⟨p587611, p587612, q587613, he587610, r587614, r587615, r587616, r587618⟩, r587617⟩ := show rk_4 D I γ el F587521 q587589 from RS_o hT587522 ht587593
            have bp587611 := gB_any p587611
            have bp587612 : gB p587612 0 1000000 := ⟨by omega, by omega⟩
            obtain ⟨r587619, r587620, n587627, f587628, r587621, r587622, r587623, r587624, r587625, r587626⟩ := rLC_n r587616 (by omega)
            have hm587629 : q587613 ∈ P582684 := RS_m hT587522 r587619 (by decide)
            obtain ⟨q587630, hx587631⟩ : ∃ x, x = el q587589 g587519.toInt.toNat := ⟨_, rfl⟩
            have fq587635 : fR (F587521 q582687) 0 = q587589 := by rw [he587588]; rfl
            have hx587632 : f587628 g587519.toNatClampNeg = some q587630 := (r587625 _ (show g587519.toInt.toNat < γ 2 q587589 by omega)).trans (by rw [hx587631])
            have ht587636 : rKd γ q587630 2 := by rw [hx587631]; exact (r587604 _ (by omega)).resolve_right (fun z => absurd z.1 (by omega))
            have ht587637 : rFm γ q587630 q587589 := by rw [hx587631]; exact (r587617 _ (show g587519.toInt.toNat < γ 2 q587589 by omega)).2.1
            have hm587638 : q587630 ∈ P582684 := RS_m hT587522 ht587636 (by decide)
            obtain ⟨q587640, q587641, p587642, p587643, he587639, ht587650, ht587644, ht587645, ht587646, ht587647, ht587648, bp587642, bp587643, r587649, r587651, r587652⟩ := show rk_2 γ q587630 (F587521 q587630) from RS_o hT587522 ht587636
            have fm587653 : γ 6 (γ 1 q587630) = γ 6 (γ 1 q582687) := by rw [show γ 1 q587630 = γ 1 q587589 from ht587637, show γ 1 q587589 = γ 1 q582687 from ht587594]
            have fq587654 : fI (F587521 q587589) 2 = p587612 := by rw [he587610]; rfl
            refine Gw_callV (As := [.int g587519]) (gV_ok D I) (cp_7901_Code_get l hl0 D I P582684 F587521 q582687 q587589 q587613 g587519 q587590 p587591 p587592 p587611 p587612 f587628 n587627 q587630 q587640 q587641 p587642 p587643 hm587587 hm587609 hm587629 hm587638 he587588 he587610 r587621 he587639 (gB_w bg587519 (by decide) (by decide)) (gB_w bp587612 (by decide) (by decide)) (by omega) (by omega) (by assumption) (by omega)) dr_cX17_run_56 ⟨wr_10_161, wr_1_15, wr_10_141, by decide, rfl, (Nat.le_of_ble_eq_true rfl), (Nat.le_of_ble_eq_true rfl)⟩ wr_10_139 wr_10_140 hm587587 he587588 rfl (show 0 + 0 ≤ 0 by first | omega | decide) (show 0 + 0 ≤ 0 by first | omega | decide) (Nat.le_of_ble_eq_true rfl) (fun r587658 w587659 dc587655 ds587656 hp587657 => ?_) (fun _ _ _ _ _ z => z.elim)
            obtain ⟨rfl, rfl, hdc, hds, ht587660⟩ := hp587657
            change G _ _ _ _ _ _ _ (.ref q587630 :: _) _ _ _
            refine G_widen (cs' := 0) (sl' := 0) (by omega) (by omega) ?_
            refine G_astore (L' := [(5, .ref q587630), (4, .int g587520), (3, .int g587519), (0, .ref q582686), (1, .ref q582687), (2, .int p582688)]) dr_cX17_run_59 (Nat.le_of_ble_eq_true rfl) rfl ?_
            refine G_aload_n 3 dr_cX17_run_61 rfl ?_
            have fq587661 : fI (F587521 q582686) 26 = p587545 := by rw [he587533]; rfl
            refine Gp_get 26 hm587532 he587533 dr_cX17_run_62 (gk_X17 D I) (Nat.le_of_ble_eq_true rfl) wr_7_100 rfl ?_
            refine G_iload_n 5 dr_cX17_run_65 rfl ?_
            refine G_icmp_ne 71 dr_cX17_run_66 (by decide +kernel) (fun hc587662 => ?_) (fun hc587662 => ?_)
            · have r587663 : p587545.toInt ≠ p582688.toInt := gC_ne hc587662
              refine G_aload_n 3 dr_cX17_run_71 rfl ?_
              refine G_dup dr_cX17_run_72 rfl ?_
              refine Gp_get 26 hm587532 he587533 dr_cX17_run_73 (gk_X17 D I) (Nat.le_of_ble_eq_true rfl) wr_7_100 rfl ?_
              refine G_iconst 1 dr_cX17_run_76 (by decide +kernel) ?_
              refine G_iadd dr_cX17_run_77 (G_nam fun z587664 hz587664 => ?_)
              have ez587664 : z587664.toInt = p587545.toInt + 1 := by rw [gI_add hz587664 bp587545 (gBl (show Int32.toInt 1 = 1 by decide)) (by decide) (by decide), show Int32.toInt 1 = 1 from by decide]
              have bz587664 : gB z587664 1 100001 := gB_add (gI_add hz587664 bp587545 (gBl (show Int32.toInt 1 = 1 by decide)) (by decide) (by decide)) bp587545 (gBl (show Int32.toInt 1 = 1 by decide)) (by decide) (by decide)
              refine Gp_put 26 hm587532 he587533 dr_cX17_run_78 (gk_X17 D I) (Nat.le_of_ble_eq_true rfl) wr_7_100 rfl rfl rfl (Nat.le_of_ble_eq_true rfl) (fun F587665 e587666 n587667 => ?_)
              have he587668 : F587665 q582687 = .inr (18, [.ref q587589, .ref q587590, .int p587591, .int p587592]) := (n587667 q582687 (rn_oo he587588 he587533 (by decide))).trans he587588
              have he587669 : F587665 q587589 = .inr (4, [.int p587611, .ref q587613, .int p587612]) := (n587667 q587589 (rn_oo he587610 he587533 (by decide))).trans he587610
              have he587670 : F587665 q587613 = .inl (I (.object "java/lang/Object"), n587627, .inr (.inr (.inr (.inr f587628)))) := (n587667 q587613 (rn_ao r587621 he587533)).trans r587621
              have he587671 : F587665 q587630 = .inr (17, [.ref q587640, .ref q587641, .int p587642, .int p587643]) := (n587667 q587630 (rn_oo he587639 he587533 (by decide))).trans he587639
              have he587672 : F587665 q582686 = .inr (22, [.ref (γ 9 0), .ref (γ 9 1), .ref (γ 9 2), .ref (γ 9 3), .ref (γ 9 4), .ref (γ 9 5), .ref (γ 9 6), .ref (γ 9 7), .ref (γ 9 8), .int p587536, .int p587537, .int p587538, .int p587539, .int p587540, .int p587541, .ref (γ 9 15), .ref (γ 9 16), .ref (γ 9 17), .ref (γ 9 18), .ref (γ 9 19), .ref (γ 9 20), .ref (γ 9 21), .ref (γ 9 22), .int p587542, .int p587543, .int p587544, .int z587664, .int p587546, .ref q587534, .ref (γ 9 29), .int p587547, .ref (γ 9 31), .int p587548, .int p587549, .int p587550, .ref q587535]) := e587666
              have hs587673 : rStr γ [97] F582685 F587665 := rStr_put hs587523 n587667 htq582686 (by decide)
              have fq587674 : F587665 q582686 = cF (F587521 q582686) 26 (.int z587664) := by rw [he587672, he587533]; rfl
              refine G_iload 1 dr_cX17_run_81 rfl ?_
              refine G_aload 0 dr_cX17_run_83 rfl ?_
              have fq587675 : fR (F587665 q587630) 0 = q587640 := by rw [he587671]; rfl
              refine Gp_get 0 hm587638 he587671 dr_cX17_run_85 (gk_X12 D I) (Nat.le_of_ble_eq_true rfl) wr_9_220 rfl ?_
              have hT587676 : RS D I P582684 F587665 γ el := RS_set hT587522 n587667 htq582686 (by decide) ⟨q587534, q587535, p587536, p587537, p587538, p587539, p587540, p587541, p587542, p587543, p587544, z587664, p587546, p587547, p587548, p587549, p587550, he587672, ⟨bp587536, bp587537, (hB587577.2.2.1), (hB587577.2.2.2.1), (hB587577.2.2.2.2.1), ⟨by omega, by omega⟩, (hB587577.2.2.2.2.2.2.1), bp587548, (hB587577.2.2.2.2.2.2.2.2)⟩, ht587551, ht587552, ht587553, ht587554, ht587555, ht587556, ht587557, ht587558, ht587559, ht587560, ht587561, ht587562, ht587563, ht587564, ht587565, ht587566, ht587567, ht587568, ht587569, ht587570, ht587571, ht587572, ht587573, ht587574, hB587578⟩
              have hm587677 : q587640 ∈ P582684 := RS_m hT587676 ht587644 (by decide)
              obtain ⟨⟨p587679, p587680, q587681, he587678, r587682, r587683, r587684, r587686⟩, r587685⟩ := show rk_3 D I γ el F587665 q587640 from RS_o hT587676 ht587644
              have bp587679 := gB_any p587679
              have bp587680 : gB p587680 0 1000000 := ⟨by omega, by omega⟩
              have fq587687 : p587680.toInt = (γ 2 q587640 : Int) := by omega
              have fq587688 : fI (F587665 q587640) 2 = p587680 := by rw [he587678]; rfl
              refine Gw_callV (As := []) (gV_ok D I) (cp_7_ArrayList_size l hl0 D I P582684 F587665 q587640 p587679 q587681 p587680 hm587677 he587678 (gB_w bp587680 (by decide) (by decide))) dr_cX17_run_88 ⟨wr_10_200, wr_1_18, wr_9_160, by decide, rfl, (Nat.le_of_ble_eq_true rfl), (Nat.le_of_ble_eq_true rfl)⟩ wr_9_158 wr_9_159 hm587677 he587678 rfl (show 0 + 0 ≤ 0 by first | omega | decide) (show 0 + 0 ≤ 0 by first | omega | decide) (Nat.le_of_ble_eq_true rfl) (fun r587692 w587693 dc587689 ds587690 hp587691 => ?_) (fun _ _ _ _ _ z => z.elim)
              obtain ⟨rfl, rfl, hdc, hds⟩ := hp587691
              change G _ _ _ _ _ _ _ (.int p587680 :: _) _ _ _
              refine G_widen (cs' := 0) (sl' := 0) (by omega) (by omega) ?_
              refine G_icmp_ge 127 dr_cX17_run_91 (by decide +kernel) (fun hc587694 => ?_) (fun hc587694 => ?_)
              · have r587695 : p587680.toInt ≤ g587520.toInt := gC_le hc587694
                refine G_aload 0 dr_cX17_run_127 rfl ?_
                have fq587696 : fR (F587665 q587630) 1 = q587641 := by rw [he587671]; rfl
                refine Gp_get 1 hm587638 he587671 dr_cX17_run_129 (gk_X12 D I) (Nat.le_of_ble_eq_true rfl) wr_9_223 rfl ?_
                refine G_astore (L' := [(6, .ref q587641), (5, .ref q587630), (4, .int g587520), (3, .int g587519), (0, .ref q582686), (1, .ref q582687), (2, .int p582688)]) dr_cX17_run_132 (Nat.le_of_ble_eq_true rfl) rfl ?_
                refine G_aload 0 dr_cX17_run_134 rfl ?_
                have hm587697 : q587641 ∈ P582684 := RS_m hT587676 ht587646 (by decide)
                obtain ⟨p587699, p587700, p587701, p587702, p587703, p587704, p587705, he587698, bp587699, bp587700, bp587703, bp587704, bp587705, r587706, r587707, r587708, r587709, r587710⟩ := show rk_1 γ q587641 (F587665 q587641) from RS_o hT587676 ht587646
                have bp587701 := gB_any p587701
                have bp587702 := gB_any p587702
                have fq587711 : fI (F587665 q587641) 0 = p587699 := by rw [he587698]; rfl
                refine Gp_get 0 hm587697 he587698 dr_cX17_run_136 (gk_X15 D I) (Nat.le_of_ble_eq_true rfl) wr_9_177 rfl ?_
                refine G_bipush 32 dr_cX17_run_139 (by decide +kernel) ?_
                refine G_icmp_ne 164 dr_cX17_run_141 (by decide +kernel) (fun hc587712 => ?_) (fun hc587712 => ?_)
                · have r587713 : p587699.toInt ≠ 32 := gj_neq hc587712 (show Int32.toInt 32 = 32 by decide)
                  have bp587699' : gB p587699 0 31 := ⟨by omega, by omega⟩
                  refine G_aload 0 dr_cX17_run_164 rfl ?_
                  refine Gp_get 0 hm587697 he587698 dr_cX17_run_166 (gk_X15 D I) (Nat.le_of_ble_eq_true rfl) wr_9_177 rfl ?_
                  refine G_bipush 30 dr_cX17_run_169 (by decide +kernel) ?_
                  refine G_icmp_eq 191 dr_cX17_run_171 (by decide +kernel) (fun hc587714 => ?_) (fun hc587714 => ?_)
                  · have r587715 : p587699.toInt = 30 := gj_eq hc587714 (show Int32.toInt 30 = 30 by decide)
                    have bp587699'' : gB p587699 30 30 := ⟨by omega, by omega⟩
                    refine G_aload 1 dr_cX17_run_191 rfl ?_
                    have fq587716 : fI (F587665 q587630) 2 = p587642 := by rw [he587671]; rfl
                    refine Gp_get 2 hm587638 he587671 dr_cX17_run_193 (gk_X12 D I) (Nat.le_of_ble_eq_true rfl) wr_9_229 rfl ?_
                    refine G_goto 204 dr_cX17_run_196 (by decide +kernel) ?_
                    refine G_istore_n (L' := [(3, .int p587642), (6, .ref q587641), (5, .ref q587630), (4, .int g587520), (0, .ref q582686), (1, .ref q582687), (2, .int p582688)]) dr_cX17_run_204 (Nat.le_of_ble_eq_true rfl) rfl ?_
                    refine G_iconst 0 dr_cX17_run_205 (by decide +kernel) ?_
                    refine G_istore (L' := [(4, .int 0), (3, .int p587642), (6, .ref q587641), (5, .ref q587630), (0, .ref q582686), (1, .ref q582687), (2, .int p582688)]) dr_cX17_run_206 (Nat.le_of_ble_eq_true rfl) rfl ?_
                    refine G_goto 54 dr_cX17_run_208 (by decide +kernel) ?_
                    refine G_lv (L' := [(4, .int 0), (3, .int p587642), (0, .ref q582686), (1, .ref q582687), (2, .int p582688)]) [0, 1, 4, 5, 6] rfl ?_
                    have ac587717 : (fI (F587665 q582686) 26).toInt = z587664.toInt := by rw [he587672]; rfl
                    have ac587718 : (fI (F587665 q582686) 9).toInt = p587536.toInt := by rw [he587672]; rfl
                    have ac587719 : (fI (F587665 q582686) 10).toInt = p587537.toInt := by rw [he587672]; rfl
                    have ac587720 : (fI (F587665 q582686) 32).toInt = p587548.toInt := by rw [he587672]; rfl
                    exact ih54_587528 F587665 p587642 0 bp587642 (gB_w (gBl (show Int32.toInt 0 = 0 by decide)) (by decide) (by decide)) hT587676 hs587673 (by have qa0 : Int32.toInt 0 = 0 := (by decide); omega) (by omega) (by omega) (by omega) (by omega) (fun k e1 e2 e3 ht => kt54_587529 k e1 e2 e3 (fun R c1 c2 c3 c4 c5 c6 c7 => c1 F587521 g587519 g587520 q587589 q587630 p587612 p587545 z587664 F587665 q587640 p587680 q587641 p587699 p587642 k e1 e2 e3 bg587519 bg587520 hT587522 hs587523 x587524 x587525 x587526 x587527 x587528 fq587635 hx587631 fq587654 ht587660 fq587661 r587663 ez587664 n587667 fq587674 fq587675 fq587687 fq587688 r587695 fq587696 fq587711 r587713 r587715 fq587716 (ht R c1 c2 c3 c4 c5 c6 c7))) (by have qa0 : Int32.toInt 0 = 0 := (by decide); omega)
                  · have r587721 : p587699.toInt ≠ 30 := gj_neq hc587714 (show Int32.toInt 30 = 30 by decide)
                    refine G_aload_n 4 dr_cX17_run_174 rfl ?_
                    refine G_aload 0 dr_cX17_run_175 rfl ?_
                    have fq587722 : fI (F587665 q587641) 5 = p587704 := by rw [he587698]; rfl
                    refine Gp_get 5 hm587697 he587698 dr_cX17_run_177 (gk_X15 D I) (Nat.le_of_ble_eq_true rfl) wr_9_197 rfl ?_
                    refine G_aload 0 dr_cX17_run_180 rfl ?_
                    have fq587723 : fI (F587665 q587641) 2 = p587701 := by rw [he587698]; rfl
                    refine Gp_get 2 hm587697 he587698 dr_cX17_run_182 (gk_X15 D I) (Nat.le_of_ble_eq_true rfl) wr_9_186 rfl ?_
                    refine Gw_callV (As := [.int p587704, .int p587701]) (gV_ok D I) (ct_7532_SpillForgeModel_value l hl0 D I γ el P582684 F587665 q582686 p587704 p587701 hT587676 htq582686 bp587704 (by omega)) dr_cX17_run_185 ⟨wr_11_100, wr_1_14, wr_11_103, by decide, rfl, (Nat.le_of_ble_eq_true rfl), (Nat.le_of_ble_eq_true rfl)⟩ wr_11_102 wr_p_115 hm587532 he587672 rfl (show 0 + 0 ≤ 0 by first | omega | decide) (show 0 + 0 ≤ 0 by first | omega | decide) (Nat.le_of_ble_eq_true rfl) (fun r587727 w587728 dc587724 ds587725 hp587726 => ?_) (fun _ _ _ _ _ z => z.elim)
                    obtain ⟨o587729, rfl, rfl, hdc, hds, ht587730⟩ := hp587726
                    have bo587729 := gB_any o587729
                    change G _ _ _ _ _ _ _ (.int o587729 :: _) _ _ _
                    refine G_widen (cs' := 0) (sl' := 0) (by omega) (by omega) ?_
                    refine G_if_eq 199 dr_cX17_run_188 (by decide +kernel) (fun hc587731 => ?_) (fun hc587731 => ?_)
                    · have r587732 : o587729.toInt = 0 := gj_eq hc587731 (show Int32.toInt 0 = 0 by decide)
                      have bo587729' : gB o587729 0 0 := ⟨by omega, by omega⟩
                      refine G_aload 1 dr_cX17_run_199 rfl ?_
                      have fq587733 : fI (F587665 q587630) 3 = p587643 := by rw [he587671]; rfl
                      refine Gp_get 3 hm587638 he587671 dr_cX17_run_201 (gk_X12 D I) (Nat.le_of_ble_eq_true rfl) wr_9_233 rfl ?_
                      refine G_istore_n (L' := [(3, .int p587643), (6, .ref q587641), (5, .ref q587630), (4, .int g587520), (0, .ref q582686), (1, .ref q582687), (2, .int p582688)]) dr_cX17_run_204 (Nat.le_of_ble_eq_true rfl) rfl ?_
                      refine G_iconst 0 dr_cX17_run_205 (by decide +kernel) ?_
                      refine G_istore (L' := [(4, .int 0), (3, .int p587643), (6, .ref q587641), (5, .ref q587630), (0, .ref q582686), (1, .ref q582687), (2, .int p582688)]) dr_cX17_run_206 (Nat.le_of_ble_eq_true rfl) rfl ?_
                      refine G_goto 54 dr_cX17_run_208 (by decide +kernel) ?_
                      refine G_lv (L' := [(4, .int 0), (3, .int p587643), (0, .ref q582686), (1, .ref q582687), (2, .int p582688)]) [0, 1, 4, 5, 6] rfl ?_
                      have ac587734 : (fI (F587665 q582686) 26).toInt = z587664.toInt := by rw [he587672]; rfl
                      have ac587735 : (fI (F587665 q582686) 9).toInt = p587536.toInt := by rw [he587672]; rfl
                      have ac587736 : (fI (F587665 q582686) 10).toInt = p587537.toInt := by rw [he587672]; rfl
                      have ac587737 : (fI (F587665 q582686) 32).toInt = p587548.toInt := by rw [he587672]; rfl
                      exact ih54_587528 F587665 p587643 0 bp587643 (gB_w (gBl (show Int32.toInt 0 = 0 by decide)) (by decide) (by decide)) hT587676 hs587673 (by have qa0 : Int32.toInt 0 = 0 := (by decide); omega) (by omega) (by omega) (by omega) (by omega) (fun k e1 e2 e3 ht => kt54_587529 k e1 e2 e3 (fun R c1 c2 c3 c4 c5 c6 c7 => c2 F587521 g587519 g587520 q587589 q587630 p587612 p587545 z587664 F587665 q587640 p587680 q587641 p587699 p587704 p587701 o587729 p587643 k e1 e2 e3 bg587519 bg587520 hT587522 hs587523 x587524 x587525 x587526 x587527 x587528 fq587635 hx587631 fq587654 ht587660 fq587661 r587663 ez587664 n587667 fq587674 fq587675 fq587687 fq587688 r587695 fq587696 fq587711 r587713 r587721 fq587722 fq587723 ht587730 r587732 fq587733 (ht R c1 c2 c3 c4 c5 c6 c7))) (by have qa0 : Int32.toInt 0 = 0 := (by decide); omega)
                    · have r587738 : o587729.toInt ≠ 0 := gj_neq hc587731 (show Int32.toInt 0 = 0 by decide)
                      refine G_aload 1 dr_cX17_run_191 rfl ?_
                      have fq587739 : fI (F587665 q587630) 2 = p587642 := by rw [he587671]; rfl
                      refine Gp_get 2 hm587638 he587671 dr_cX17_run_193 (gk_X12 D I) (Nat.le_of_ble_eq_true rfl) wr_9_229 rfl ?_
                      refine G_goto 204 dr_cX17_run_196 (by decide +kernel) ?_
                      refine G_istore_n (L' := [(3, .int p587642), (6, .ref q587641), (5, .ref q587630), (4, .int g587520), (0, .ref q582686), (1, .ref q582687), (2, .int p582688)]) dr_cX17_run_204 (Nat.le_of_ble_eq_true rfl) rfl ?_
                      refine G_iconst 0 dr_cX17_run_205 (by decide +kernel) ?_
                      refine G_istore (L' := [(4, .int 0), (3, .int p587642), (6, .ref q587641), (5, .ref q587630), (0, .ref q582686), (1, .ref q582687), (2, .int p582688)]) dr_cX17_run_206 (Nat.le_of_ble_eq_true rfl) rfl ?_
                      refine G_goto 54 dr_cX17_run_208 (by decide +kernel) ?_
                      refine G_lv (L' := [(4, .int 0), (3, .int p587642), (0, .ref q582686), (1, .ref q582687), (2, .int p582688)]) [0, 1, 4, 5, 6] rfl ?_
                      have ac587740 : (fI (F587665 q582686) 26).toInt = z587664.toInt := by rw [he587672]; rfl
                      have ac587741 : (fI (F587665 q582686) 9).toInt = p587536.toInt := by rw [he587672]; rfl
                      have ac587742 : (fI (F587665 q582686) 10).toInt = p587537.toInt := by rw [he587672]; rfl
                      have ac587743 : (fI (F587665 q582686) 32).toInt = p587548.toInt := by rw [he587672]; rfl
                      exact ih54_587528 F587665 p587642 0 bp587642 (gB_w (gBl (show Int32.toInt 0 = 0 by decide)) (by decide) (by decide)) hT587676 hs587673 (by have qa0 : Int32.toInt 0 = 0 := (by decide); omega) (by omega) (by omega) (by omega) (by omega) (fun k e1 e2 e3 ht => kt54_587529 k e1 e2 e3 (fun R c1 c2 c3 c4 c5 c6 c7 => c3 F587521 g587519 g587520 q587589 q587630 p587612 p587545 z587664 F587665 q587640 p587680 q587641 p587699 p587704 p587701 o587729 p587642 k e1 e2 e3 bg587519 bg587520 hT587522 hs587523 x587524 x587525 x587526 x587527 x587528 fq587635 hx587631 fq587654 ht587660 fq587661 r587663 ez587664 n587667 fq587674 fq587675 fq587687 fq587688 r587695 fq587696 fq587711 r587713 r587721 fq587722 fq587723 ht587730 r587738 fq587739 (ht R c1 c2 c3 c4 c5 c6 c7))) (by have qa0 : Int32.toInt 0 = 0 := (by decide); omega)
                · have r587744 : p587699.toInt = 32 := gj_eq hc587712 (show Int32.toInt 32 = 32 by decide)
                  have bp587699' : gB p587699 32 32 := ⟨by omega, by omega⟩
                  have hx587745 : tl_RModel_run_54 D I γ el P582684 F582685 q582687 q582686 p582688 F587167 (0 : Int32) (0 : Int32) 144 q587641 F587665 (0 : Int32) := kt54_587529 144 q587641 F587665 (0 : Int32) (fun R c1 c2 c3 c4 c5 c6 c7 => c4 F587521 g587519 g587520 q587589 q587630 p587612 p587545 z587664 F587665 q587640 p587680 q587641 p587699 bg587519 bg587520 hT587522 hs587523 x587524 x587525 x587526 x587527 x587528 fq587635 hx587631 fq587654 ht587660 fq587661 r587663 ez587664 n587667 fq587674 fq587675 fq587687 fq587688 r587695 fq587696 fq587711 r587744)
                  refine G_aload_n 4 dr_cX17_run_144 rfl ?_
                  refine G_aload_n 4 dr_cX17_run_145 rfl ?_
                  refine G_aload 0 dr_cX17_run_146 rfl ?_
                  have fq587746 : fI (F587665 q587641) 5 = p587704 := by rw [he587698]; rfl
                  refine Gp_get 5 hm587697 he587698 dr_cX17_run_148 (gk_X15 D I) (Nat.le_of_ble_eq_true rfl) wr_9_197 rfl ?_
                  refine G_aload 0 dr_cX17_run_151 rfl ?_
                  have fq587747 : fI (F587665 q587641) 2 = p587701 := by rw [he587698]; rfl
                  refine Gp_get 2 hm587697 he587698 dr_cX17_run_153 (gk_X15 D I) (Nat.le_of_ble_eq_true rfl) wr_9_186 rfl ?_
                  refine Gw_callV (As := [.int p587704, .int p587701]) (gV_ok D I) (ct_7532_SpillForgeModel_value l hl0 D I γ el P582684 F587665 q582686 p587704 p587701 hT587676 htq582686 bp587704 (by omega)) dr_cX17_run_156 ⟨wr_11_100, wr_1_14, wr_11_103, by decide, rfl, (Nat.le_of_ble_eq_true rfl), (Nat.le_of_ble_eq_true rfl)⟩ wr_11_102 wr_p_115 hm587532 he587672 rfl (show 0 + 0 ≤ 0 by first | omega | decide) (show 0 + 0 ≤ 0 by first | omega | decide) (Nat.le_of_ble_eq_true rfl) (fun r587751 w587752 dc587748 ds587749 hp587750 => ?_) (fun _ _ _ _ _ z => z.elim)
                  obtain ⟨o587753, rfl, rfl, hdc, hds, ht587754⟩ := hp587750
                  have bo587753 := gB_any o587753
                  change G _ _ _ _ _ _ _ (.int o587753 :: _) _ _ _
                  refine G_widen (cs' := 0) (sl' := 0) (by omega) (by omega) ?_
                  refine Gp_put 24 hm587532 he587672 dr_cX17_run_159 (gk_X17 D I) (Nat.le_of_ble_eq_true rfl) wr_7_98 rfl rfl rfl (Nat.le_of_ble_eq_true rfl) (fun F587755 e587756 n587757 => ?_)
                  have he587758 : F587755 q582687 = .inr (18, [.ref q587589, .ref q587590, .int p587591, .int p587592]) := (n587757 q582687 (rn_oo he587668 he587672 (by decide))).trans he587668
                  have he587759 : F587755 q587589 = .inr (4, [.int p587611, .ref q587613, .int p587612]) := (n587757 q587589 (rn_oo he587669 he587672 (by decide))).trans he587669
                  have he587760 : F587755 q587613 = .inl (I (.object "java/lang/Object"), n587627, .inr (.inr (.inr (.inr f587628)))) := (n587757 q587613 (rn_ao he587670 he587672)).trans he587670
                  have he587761 : F587755 q587630 = .inr (17, [.ref q587640, .ref q587641, .int p587642, .int p587643]) := (n587757 q587630 (rn_oo he587671 he587672 (by decide))).trans he587671
                  have he587762 : F587755 q587640 = .inr (4, [.int p587679, .ref q587681, .int p587680]) := (n587757 q587640 (rn_oo he587678 he587672 (by decide))).trans he587678
                  have he587763 : F587755 q587641 = .inr (20, [.int p587699, .int p587700, .int p587701, .int p587702, .int p587703, .int p587704, .int p587705]) := (n587757 q587641 (rn_oo he587698 he587672 (by decide))).trans he587698
                  have he587764 : F587755 q582686 = .inr (22, [.ref (γ 9 0), .ref (γ 9 1), .ref (γ 9 2), .ref (γ 9 3), .ref (γ 9 4), .ref (γ 9 5), .ref (γ 9 6), .ref (γ 9 7), .ref (γ 9 8), .int p587536, .int p587537, .int p587538, .int p587539, .int p587540, .int p587541, .ref (γ 9 15), .ref (γ 9 16), .ref (γ 9 17), .ref (γ 9 18), .ref (γ 9 19), .ref (γ 9 20), .ref (γ 9 21), .ref (γ 9 22), .int p587542, .int o587753, .int p587544, .int z587664, .int p587546, .ref q587534, .ref (γ 9 29), .int p587547, .ref (γ 9 31), .int p587548, .int p587549, .int p587550, .ref q587535]) := e587756
                  have hs587765 : rStr γ [97] F582685 F587755 := rStr_put hs587673 n587757 htq582686 (by decide)
                  have fq587766 : F587755 q582686 = cF (F587665 q582686) 24 (.int o587753) := by rw [he587764, he587672]; rfl
                  refine G_iconst 0 dr_cX17_run_162 (by decide +kernel) ?_
                  have hT587767 : RS D I P582684 F587755 γ el := RS_set hT587676 n587757 htq582686 (by decide) ⟨q587534, q587535, p587536, p587537, p587538, p587539, p587540, p587541, p587542, o587753, p587544, z587664, p587546, p587547, p587548, p587549, p587550, he587764, ⟨bp587536, bp587537, (hB587577.2.2.1), (hB587577.2.2.2.1), (hB587577.2.2.2.2.1), ⟨by omega, by omega⟩, (hB587577.2.2.2.2.2.2.1), bp587548, (hB587577.2.2.2.2.2.2.2.2)⟩, ht587551, ht587552, ht587553, ht587554, ht587555, ht587556, ht587557, ht587558, ht587559, ht587560, ht587561, ht587562, ht587563, ht587564, ht587565, ht587566, ht587567, ht587568, ht587569, ht587570, ht587571, ht587572, ht587573, ht587574, hB587578⟩
                  have ac587768 : (fI (F587755 q582686) 26).toInt = z587664.toInt := by rw [he587764]; rfl
                  have ac587769 : (fI (F587755 q582686) 9).toInt = p587536.toInt := by rw [he587764]; rfl
                  have ac587770 : (fI (F587755 q582686) 10).toInt = p587537.toInt := by rw [he587764]; rfl
                  have ac587771 : (fI (F587755 q582686) 32).toInt = p587548.toInt := by rw [he587764]; rfl
                  exact G_iretA dr_cX17_run_163 rfl (Nat.le_of_ble_eq_true rfl) (Nat.le_of_ble_eq_true rfl) ⟨F587755, 0, rfl, rfl, hT587767, hs587765, (Nat.le_of_ble_eq_true rfl), (Nat.le_of_ble_eq_true rfl), (gB_w (gBl (show Int32.toInt 0 = 0 by decide)) (by decide) (by decide)), (by have qa0 : Int32.toInt 0 = 0 := (by decide); omega), (by have qa0 : Int32.toInt 0 = 0 := (by decide); omega), (by have qa0 : Int32.toInt 0 = 0 := (by decide); omega), (fun R c1 c2 c3 => c1 F587080 F587147 F587153 F587160 F587167 q587641 F587665 p587704 p587701 o587753 F587755 hx587146 n587149 fq587152 n587155 fq587159 n587162 fq587166 n587169 fq587173 hx587745 fq587746 fq587747 ht587754 n587757 fq587766)⟩
              · have r587772 : g587520.toInt < p587680.toInt := gC_nle hc587694
                have bg587520' : gB g587520 0 999999 := ⟨by omega, by omega⟩
                have bp587680' : gB p587680 1 1000000 := ⟨by omega, by omega⟩
                refine G_aload_n 3 dr_cX17_run_94 rfl ?_
                refine G_aload 0 dr_cX17_run_95 rfl ?_
                refine Gp_get 0 hm587638 he587671 dr_cX17_run_97 (gk_X12 D I) (Nat.le_of_ble_eq_true rfl) wr_9_220 rfl ?_
                refine G_iload 1 dr_cX17_run_100 rfl ?_
                obtain ⟨r587773, r587774, n587781, f587782, r587775, r587776, r587777, r587778, r587779, r587780⟩ := rLC_n r587684 (by omega)
                have hm587783 : q587681 ∈ P582684 := RS_m hT587676 r587773 (by decide)
                obtain ⟨q587784, hx587785⟩ : ∃ x, x = el q587640 g587520.toInt.toNat := ⟨_, rfl⟩
                have hx587786 : f587782 g587520.toNatClampNeg = some q587784 := (r587779 _ (show g587520.toInt.toNat < γ 2 q587640 by omega)).trans (by rw [hx587785])
                have ht587787 : rKd γ q587784 1 := by rw [hx587785]; exact (r587685 _ (show g587520.toInt.toNat < γ 2 q587640 by omega)).1
                have ht587788 : rFm γ q587784 q587640 := by rw [hx587785]; exact (r587685 _ (show g587520.toInt.toNat < γ 2 q587640 by omega)).2.1
                refine Gw_callV (As := [.int g587520]) (gV_ok D I) (cp_22_ArrayList_get l hl0 D I P582684 F587665 q587640 q587681 g587520 p587679 p587680 f587782 n587781 q587784 hm587677 hm587783 he587678 r587775 (gB_w bg587520' (by decide) (by decide)) (gB_w bp587680' (by decide) (by decide)) (by omega) (by omega) (by assumption) (by omega)) dr_cX17_run_102 ⟨wr_10_201, wr_1_18, wr_10_65, by decide, rfl, (Nat.le_of_ble_eq_true rfl), (Nat.le_of_ble_eq_true rfl)⟩ wr_10_63 wr_10_64 hm587677 he587678 rfl (show 0 + 0 ≤ 0 by first | omega | decide) (show 0 + 0 ≤ 0 by first | omega | decide) (Nat.le_of_ble_eq_true rfl) (fun r587792 w587793 dc587789 ds587790 hp587791 => ?_) (fun _ _ _ _ _ z => z.elim)
                obtain ⟨rfl, rfl, hdc, hds, ht587794⟩ := hp587791
                change G _ _ _ _ _ _ _ (.ref q587784 :: _) _ _ _
                refine G_widen (cs' := 0) (sl' := 0) (by omega) (by omega) ?_
                have hm587795 : q587784 ∈ P582684 := RS_m hT587676 ht587787 (by decide)
                obtain ⟨p587797, p587798, p587799, p587800, p587801, p587802, p587803, he587796, bp587797, bp587798, bp587801, bp587802, bp587803, r587804, r587805, r587806, r587807, r587808⟩ := show rk_1 γ q587784 (F587665 q587784) from RS_o hT587676 ht587787
                have bp587799 := gB_any p587799
                have bp587800 := gB_any p587800
                refine Gp_cast hm587795 he587796 rfl dr_cX17_run_105 wr_10_202 (gr_cast 1 rfl) ?_
                have ac587809 : (fI (F587665 q582686) 26).toInt = z587664.toInt := by rw [he587672]; rfl
                have ac587810 : (fI (F587665 q582686) 9).toInt = p587536.toInt := by rw [he587672]; rfl
                have ac587811 : (fI (F587665 q582686) 10).toInt = p587537.toInt := by rw [he587672]; rfl
                have ac587812 : (fI (F587665 q582686) 32).toInt = p587548.toInt := by rw [he587672]; rfl
                refine Gw_callV (As := [.ref q587784]) (gV_ok D I) (ct_583470_SpillForgeModel_step l hl0 D I γ el P582684 F587665 q582686 q587784 hT587676 htq582686 ht587787) dr_cX17_run_108 ⟨wr_11_96, wr_1_14, wr_11_99, by decide, rfl, (Nat.le_of_ble_eq_true rfl), (Nat.le_of_ble_eq_true rfl)⟩ wr_11_98 wr_p_114 hm587532 he587672 rfl (show 0 + 0 ≤ 0 by first | omega | decide) (show 0 + 0 ≤ 0 by first | omega | decide) (Nat.le_of_ble_eq_true rfl) (fun r587816 w587817 dc587813 ds587814 hp587815 => ?_) (fun _ _ _ _ _ z => z.elim)
                obtain ⟨F587824, o587818, rfl, rfl, hT587825, hs587826, hdc, hds, bo587818, x587819, x587820, x587821, x587822, ht587823⟩ := hp587815
                have he587827 : F587824 q582687 = .inr (18, [.ref q587589, .ref q587590, .int p587591, .int p587592]) := (hs587826 q582687 (rT0 htq582687 (by decide)) (rT1 htq582687 (by decide)) (rT2 htq582687 (by decide))).trans he587668
                have he587828 : F587824 q587589 = .inr (4, [.int p587611, .ref q587613, .int p587612]) := (hs587826 q587589 (rT0 ht587593 (by decide)) (rT1 ht587593 (by decide)) (rT2 ht587593 (by decide))).trans he587669
                have he587829 : F587824 q587613 = .inl (I (.object "java/lang/Object"), n587627, .inr (.inr (.inr (.inr f587628)))) := (hs587826 q587613 (rT0 r587619 (by decide)) (rT1 r587619 (by decide)) (rT2 r587619 (by decide))).trans he587670
                have he587830 : F587824 q587630 = .inr (17, [.ref q587640, .ref q587641, .int p587642, .int p587643]) := (hs587826 q587630 (rT0 ht587636 (by decide)) (rT1 ht587636 (by decide)) (rT2 ht587636 (by decide))).trans he587671
                have he587831 : F587824 q587640 = .inr (4, [.int p587679, .ref q587681, .int p587680]) := (hs587826 q587640 (rT0 ht587644 (by decide)) (rT1 ht587644 (by decide)) (rT2 ht587644 (by decide))).trans he587678
                have he587832 : F587824 q587681 = .inl (I (.object "java/lang/Object"), n587781, .inr (.inr (.inr (.inr f587782)))) := (hs587826 q587681 (rT0 r587773 (by decide)) (rT1 r587773 (by decide)) (rT2 r587773 (by decide))).trans r587775
                have he587833 : F587824 q587784 = .inr (20, [.int p587797, .int p587798, .int p587799, .int p587800, .int p587801, .int p587802, .int p587803]) := (hs587826 q587784 (rT0 ht587787 (by decide)) (rT1 ht587787 (by decide)) (rT2 ht587787 (by decide))).trans he587796
                have hs587834 : rStr γ [97] F582685 F587824 := rStr_tr hs587673 hs587826
                change G _ _ _ _ _ _ _ (.int o587818 :: _) _ _ _
                refine G_widen (cs' := 0) (sl' := 0) (by omega) (by omega) ?_
                refine G_istore (L' := [(6, .int o587818), (5, .ref q587630), (4, .int g587520), (3, .int g587519), (0, .ref q582686), (1, .ref q582687), (2, .int p582688)]) dr_cX17_run_111 (Nat.le_of_ble_eq_true rfl) rfl ?_
                refine G_iload 0 dr_cX17_run_113 rfl ?_
                refine G_if_lt 121 dr_cX17_run_115 (by decide +kernel) (fun hc587835 => ?_) (fun hc587835 => ?_)
                · have r587836 : o587818.toInt < 0 := gj_lt hc587835 (show Int32.toInt 0 = 0 by decide)
                  have bo587818' : gB o587818 (-1) (-1) := ⟨by omega, by omega⟩
                  obtain ⟨z587837, hz587837⟩ : ∃ z : Int32, z = g587520 + Int32.ofInt 1 := ⟨_, rfl⟩
                  have ez587837 : z587837.toInt = g587520.toInt + 1 := gI_inc hz587837 (by decide) bg587520' (by decide) (by decide)
                  have bz587837 : gB z587837 1 1000000 := ⟨by omega, by omega⟩
                  refine G_iinc (L' := [(4, .int z587837), (6, .int o587818), (5, .ref q587630), (3, .int g587519), (0, .ref q582686), (1, .ref q582687), (2, .int p582688)]) z587837 2 dr_cX17_run_121 rfl hz587837.symm (Nat.le_of_ble_eq_true rfl) rfl ?_
                  refine G_goto 54 dr_cX17_run_124 (by decide +kernel) ?_
                  refine G_lv (L' := [(4, .int z587837), (3, .int g587519), (0, .ref q582686), (1, .ref q582687), (2, .int p582688)]) [0, 3, 4, 5, 6] rfl ?_
                  have hm587838 : q582686 ∈ P582684 := RS_m hT587825 htq582686 (by decide)
                  refine rk10_e (show rk_10 γ (F587824 q582686) from RS_o hT587825 htq582686) (fun q587840 q587841 p587842 p587843 p587844 p587845 p587846 p587847 p587848 p587849 p587850 p587851 p587852 p587853 p587854 p587855 p587856 he587839 hB587883 ht587857 ht587858 ht587859 ht587860 ht587861 ht587862 ht587863 ht587864 ht587865 ht587866 ht587867 ht587868 ht587869 ht587870 ht587871 ht587872 ht587873 ht587874 ht587875 ht587876 ht587877 ht587878 ht587879 ht587880 hB587884 => ?_)
                  have ac587885 : (fI (F587824 q582686) 26).toInt = p587851.toInt := by rw [he587839]; rfl
                  have bp587851 : gB p587851 0 100000 := (hB587883.2.2.2.2.2.1)
                  have ac587886 : (fI (F587824 q582686) 9).toInt = p587842.toInt := by rw [he587839]; rfl
                  have bp587842 : gB p587842 0 1 := (hB587883.1)
                  have ac587887 : (fI (F587824 q582686) 10).toInt = p587843.toInt := by rw [he587839]; rfl
                  have bp587843 : gB p587843 0 1 := (hB587883.2.1)
                  have ac587888 : (fI (F587824 q582686) 32).toInt = p587854.toInt := by rw [he587839]; rfl
                  have bp587854 : gB p587854 0 8192 := (hB587883.2.2.2.2.2.2.2.1)
                  have ac587889 : (fI (F587824 q582686) 26).toInt = p587851.toInt := by rw [he587839]; rfl
                  have ac587890 : (fI (F587824 q582686) 9).toInt = p587842.toInt := by rw [he587839]; rfl
                  have ac587891 : (fI (F587824 q582686) 10).toInt = p587843.toInt := by rw [he587839]; rfl
                  have ac587892 : (fI (F587824 q582686) 32).toInt = p587854.toInt := by rw [he587839]; rfl
                  exact ih54_587528 F587824 g587519 z587837 bg587519 (gB_w bz587837 (by decide) (by decide)) hT587825 hs587834 (by omega) (by omega) (by omega) (by omega) (by omega) (fun k e1 e2 e3 ht => kt54_587529 k e1 e2 e3 (fun R c1 c2 c3 c4 c5 c6 c7 => c5 F587521 g587519 g587520 q587589 q587630 p587612 p587545 z587664 F587665 q587640 p587680 q587784 o587818 F587824 z587837 k e1 e2 e3 bg587519 bg587520 hT587522 hs587523 x587524 x587525 x587526 x587527 x587528 fq587635 hx587631 fq587654 ht587660 fq587661 r587663 ez587664 n587667 fq587674 fq587675 fq587687 fq587688 r587772 hx587785 ht587794 bo587818 hT587825 hs587826 x587819 x587820 x587821 x587822 ht587823 r587836 ez587837 (ht R c1 c2 c3 c4 c5 c6 c7))) (by omega)
                · have r587893 : 0 ≤ o587818.toInt := gj_nlt hc587835 (show Int32.toInt 0 = 0 by decide)
                  have bo587818' : gB o587818 0 5 := ⟨by omega, by omega⟩
                  have hx587894 : tl_RModel_run_54 D I γ el P582684 F582685 q582687 q582686 p582688 F587167 (0 : Int32) (0 : Int32) 118 (0 : Nat) F587824 o587818 := kt54_587529 118 (0 : Nat) F587824 o587818 (fun R c1 c2 c3 c4 c5 c6 c7 => c6 F587521 g587519 g587520 q587589 q587630 p587612 p587545 z587664 F587665 q587640 p587680 q587784 o587818 F587824 bg587519 bg587520 hT587522 hs587523 x587524 x587525 x587526 x587527 x587528 fq587635 hx587631 fq587654 ht587660 fq587661 r587663 ez587664 n587667 fq587674 fq587675 fq587687 fq587688 r587772 hx587785 ht587794 bo587818 hT587825 hs587826 x587819 x587820 x587821 x587822 ht587823 r587893)
                  refine G_iload 0 dr_cX17_run_118 rfl ?_
                  have hm587895 : q582686 ∈ P582684 := RS_m hT587825 htq582686 (by decide)
                  refine rk10_e (show rk_10 γ (F587824 q582686) from RS_o hT587825 htq582686) (fun q587897 q587898 p587899 p587900 p587901 p587902 p587903 p587904 p587905 p587906 p587907 p587908 p587909 p587910 p587911 p587912 p587913 he587896 hB587940 ht587914 ht587915 ht587916 ht587917 ht587918 ht587919 ht587920 ht587921 ht587922 ht587923 ht587924 ht587925 ht587926 ht587927 ht587928 ht587929 ht587930 ht587931 ht587932 ht587933 ht587934 ht587935 ht587936 ht587937 hB587941 => ?_)
                  have ac587942 : (fI (F587824 q582686) 26).toInt = p587908.toInt := by rw [he587896]; rfl
                  have bp587908 : gB p587908 0 100000 := (hB587940.2.2.2.2.2.1)
                  have ac587943 : (fI (F587824 q582686) 9).toInt = p587899.toInt := by rw [he587896]; rfl
                  have bp587899 : gB p587899 0 1 := (hB587940.1)
                  have ac587944 : (fI (F587824 q582686) 10).toInt = p587900.toInt := by rw [he587896]; rfl
                  have bp587900 : gB p587900 0 1 := (hB587940.2.1)
                  have ac587945 : (fI (F587824 q582686) 32).toInt = p587911.toInt := by rw [he587896]; rfl
                  have bp587911 : gB p587911 0 8192 := (hB587940.2.2.2.2.2.2.2.1)
                  have ac587946 : (fI (F587824 q582686) 26).toInt = p587908.toInt := by rw [he587896]; rfl
                  have ac587947 : (fI (F587824 q582686) 9).toInt = p587899.toInt := by rw [he587896]; rfl
                  have ac587948 : (fI (F587824 q582686) 10).toInt = p587900.toInt := by rw [he587896]; rfl
                  have ac587949 : (fI (F587824 q582686) 32).toInt = p587911.toInt := by rw [he587896]; rfl
                  exact G_iretA dr_cX17_run_120 rfl (Nat.le_of_ble_eq_true rfl) (Nat.le_of_ble_eq_true rfl) ⟨F587824, o587818, rfl, rfl, hT587825, hs587834, (Nat.le_of_ble_eq_true rfl), (Nat.le_of_ble_eq_true rfl), bo587818', (by omega), (by omega), (by omega), (fun R c1 c2 c3 => c2 F587080 F587147 F587153 F587160 F587167 F587824 o587818 hx587146 n587149 fq587152 n587155 fq587159 n587162 fq587166 n587169 fq587173 hx587894)⟩
            · have r587950 : p587545.toInt = p582688.toInt := gC_eq hc587662
              have bp587545' : gB p587545 1 100000 := ⟨by omega, by omega⟩
              have hx587951 : tl_RModel_run_54 D I γ el P582684 F582685 q582687 q582686 p582688 F587167 (0 : Int32) (0 : Int32) 69 (0 : Nat) F587521 (0 : Int32) := kt54_587529 69 (0 : Nat) F587521 (0 : Int32) (fun R c1 c2 c3 c4 c5 c6 c7 => c7 F587521 g587519 g587520 q587589 q587630 p587612 p587545 bg587519 bg587520 hT587522 hs587523 x587524 x587525 x587526 x587527 x587528 fq587635 hx587631 fq587654 ht587660 fq587661 r587950)
              refine G_iconst 4 dr_cX17_run_69 (by decide +kernel) ?_
              have ac587952 : (fI (F587521 q582686) 26).toInt = p587545.toInt := by rw [he587533]; rfl
              have ac587953 : (fI (F587521 q582686) 9).toInt = p587536.toInt := by rw [he587533]; rfl
              have ac587954 : (fI (F587521 q582686) 10).toInt = p587537.toInt := by rw [he587533]; rfl
              have ac587955 : (fI (F587521 q582686) 32).toInt = p587548.toInt := by rw [he587533]; rfl
              exact G_iretA dr_cX17_run_70 rfl (Nat.le_of_ble_eq_true rfl) (Nat.le_of_ble_eq_true rfl) ⟨F587521, 4, rfl, rfl, hT587522, hs587523, (Nat.le_of_ble_eq_true rfl), (Nat.le_of_ble_eq_true rfl), (gB_w (gBl (show Int32.toInt 4 = 4 by decide)) (by decide) (by decide)), (by have qa0 : Int32.toInt 4 = 4 := (by decide); omega), (by have qa0 : Int32.toInt 4 = 4 := (by decide); omega), (by have qa0 : Int32.toInt 4 = 4 := (by decide); omega), (fun R c1 c2 c3 => c3 F587080 F587147 F587153 F587160 F587167 F587521 hx587146 n587149 fq587152 n587155 fq587159 n587162 fq587166 n587169 fq587173 hx587951)⟩
        have ac587956 : (fI (F587167 q582686) 26).toInt = 0 := by rw [he587170]; show Int32.toInt 0 = 0; decide
        have ac587957 : (fI (F587167 q582686) 9).toInt = p587093.toInt := by rw [he587170]; rfl
        have ac587958 : (fI (F587167 q582686) 10).toInt = p587094.toInt := by rw [he587170]; rfl
        have ac587959 : (fI (F587167 q582686) 32).toInt = p587105.toInt := by rw [he587170]; rfl
        exact hlp54_587528 ((p582688.toInt - (fI (F587167 q582686) 26).toInt).toNat + 1) F587167 0 0 (gB_w (gBl (show Int32.toInt 0 = 0 by decide)) (by decide) (by decide)) (gB_w (gBl (show Int32.toInt 0 = 0 by decide)) (by decide) (by decide)) hT587174 hs587171 (by have qa0 : Int32.toInt 0 = 0 := (by decide); omega) (by omega) (by omega) (by omega) (by omega) (fun k e1 e2 e3 ht => ht) (Nat.lt_succ_self _)
      · have r587960 : g587079.toInt < 2000 := gj_nleL hc587144 (show Int32.toInt 2000 = 2000 by decide)
        have bg587079' : gB g587079 0 1999 := ⟨by omega, by omega⟩
        refine G_aload_n 1 dr_cX17_run_9 rfl ?_
        have fq587961 : fR (F587080 q582686) 20 = (γ 9 20) := by rw [he587090]; rfl
        refine Gp_get 20 hm587089 he587090 dr_cX17_run_10 (gk_X17 D I) (Nat.le_of_ble_eq_true rfl) wr_7_94 rfl ?_
        refine G_iload_n 0 dr_cX17_run_13 rfl ?_
        refine G_iconst 0 dr_cX17_run_14 (by decide +kernel) ?_
        have hm587962 : (γ 9 20) ∈ P582684 := RS_m hT587081 ht587124 (by decide)
        obtain ⟨f587964, he587963⟩ := show rk_22 I (F587080 (γ 9 20)) from RS_o hT587081 ht587124
        refine Gp_iast 0 hm587962 he587963 dr_cX17_run_15 rfl (gB_in bg587079' (by decide) (by decide)) (fun F587965 e587966 n587967 => ?_)
        obtain ⟨f587968, hf587968⟩ : ∃ z, z = upd f587964 g587079.toNatClampNeg 0 := ⟨_, rfl⟩
        rw [← hf587968] at e587966
        have he587969 : F587965 q582686 = .inr (22, [.ref (γ 9 0), .ref (γ 9 1), .ref (γ 9 2), .ref (γ 9 3), .ref (γ 9 4), .ref (γ 9 5), .ref (γ 9 6), .ref (γ 9 7), .ref (γ 9 8), .int p587093, .int p587094, .int p587095, .int p587096, .int p587097, .int p587098, .ref (γ 9 15), .ref (γ 9 16), .ref (γ 9 17), .ref (γ 9 18), .ref (γ 9 19), .ref (γ 9 20), .ref (γ 9 21), .ref (γ 9 22), .int p587099, .int p587100, .int p587101, .int p587102, .int p587103, .ref q587091, .ref (γ 9 29), .int p587104, .ref (γ 9 31), .int p587105, .int p587106, .int p587107, .ref q587092]) := (n587967 q582686 (rn_oa he587090 he587963)).trans he587090
        have he587970 : F587965 (γ 9 20) = .inl (I .int, 2000, .inl f587968) := e587966
        have hs587971 : rStr γ [97] F582685 F587965 := rStr_put hs587082 n587967 ht587124 (by decide)
        refine G_aload_n 1 dr_cX17_run_16 rfl ?_
        have fq587972 : fR (F587965 q582686) 21 = (γ 9 21) := by rw [he587969]; rfl
        refine Gp_get 21 hm587089 he587969 dr_cX17_run_17 (gk_X17 D I) (Nat.le_of_ble_eq_true rfl) wr_7_95 rfl ?_
        refine G_iload_n 0 dr_cX17_run_20 rfl ?_
        refine G_iconst 0 dr_cX17_run_21 (by decide +kernel) ?_
        have hT587973 : RS D I P582684 F587965 γ el := RS_set hT587081 n587967 ht587124 (by decide) ⟨f587968, he587970⟩
        have hm587974 : (γ 9 21) ∈ P582684 := RS_m hT587973 ht587125 (by decide)
        obtain ⟨f587976, he587975⟩ := show rk_23 I (F587965 (γ 9 21)) from RS_o hT587973 ht587125
        refine Gp_iast 0 hm587974 he587975 dr_cX17_run_22 rfl (gB_in bg587079' (by decide) (by decide)) (fun F587977 e587978 n587979 => ?_)
        obtain ⟨f587980, hf587980⟩ : ∃ z, z = upd f587976 g587079.toNatClampNeg 0 := ⟨_, rfl⟩
        rw [← hf587980] at e587978
        have he587981 : F587977 q582686 = .inr (22, [.ref (γ 9 0), .ref (γ 9 1), .ref (γ 9 2), .ref (γ 9 3), .ref (γ 9 4), .ref (γ 9 5), .ref (γ 9 6), .ref (γ 9 7), .ref (γ 9 8), .int p587093, .int p587094, .int p587095, .int p587096, .int p587097, .int p587098, .ref (γ 9 15), .ref (γ 9 16), .ref (γ 9 17), .ref (γ 9 18), .ref (γ 9 19), .ref (γ 9 20), .ref (γ 9 21), .ref (γ 9 22), .int p587099, .int p587100, .int p587101, .int p587102, .int p587103, .ref q587091, .ref (γ 9 29), .int p587104, .ref (γ 9 31), .int p587105, .int p587106, .int p587107, .ref q587092]) := (n587979 q582686 (rn_oa he587969 he587975)).trans he587969
        have he587982 : F587977 (γ 9 20) = .inl (I .int, 2000, .inl f587968) := (n587979 (γ 9 20) (rn_ty ht587124 ht587125 (by decide))).trans he587970
        have he587983 : F587977 (γ 9 21) = .inl (I .int, 2000, .inl f587980) := e587978
        have hs587984 : rStr γ [97] F582685 F587977 := rStr_put hs587971 n587979 ht587125 (by decide)
        obtain ⟨z587985, hz587985⟩ : ∃ z : Int32, z = g587079 + Int32.ofInt 1 := ⟨_, rfl⟩
        have ez587985 : z587985.toInt = g587079.toInt + 1 := gI_inc hz587985 (by decide) bg587079' (by decide) (by decide)
        have bz587985 : gB z587985 1 2000 := ⟨by omega, by omega⟩
        refine G_iinc (L' := [(3, .int z587985), (0, .ref q582686), (1, .ref q582687), (2, .int p582688)]) z587985 0 dr_cX17_run_23 rfl hz587985.symm (Nat.le_of_ble_eq_true rfl) rfl ?_
        refine G_goto 2 dr_cX17_run_26 (by decide +kernel) ?_
        have hT587986 : RS D I P582684 F587977 γ el := RS_set hT587973 n587979 ht587125 (by decide) ⟨f587980, he587983⟩
        have ac587987 : (fI (F587977 q582686) 26).toInt = p587102.toInt := by rw [he587981]; rfl
        have ac587988 : (fI (F587977 q582686) 9).toInt = p587093.toInt := by rw [he587981]; rfl
        have ac587989 : (fI (F587977 q582686) 10).toInt = p587094.toInt := by rw [he587981]; rfl
        have ac587990 : (fI (F587977 q582686) 32).toInt = p587105.toInt := by rw [he587981]; rfl
        exact ih2_587085 F587977 z587985 (gB_w bz587985 (by decide) (by decide)) hT587986 hs587984 (by omega) (by omega) (by omega) (fun k e1 ht => kt2_587086 k e1 (fun R c1 c2 => c2 F587080 g587079 f587964 f587968 F587965 f587976 f587980 F587977 z587985 k e1 bg587079 hT587081 hs587082 x587083 x587084 x587085 r587960 fq587961 he587963 hf587968 n587967 he587970 fq587972 he587975 hf587980 n587979 he587983 ez587985 (ht R c1 c2))) (mz_up ez587985 (Int.le_trans bg587079'.2 (by decide)) hm2_587085)
  have ac587991 : (fI (F582685 q582686) 26).toInt = p582704.toInt := by rw [he582692]; rfl
  have ac587992 : (fI (F582685 q582686) 9).toInt = p582695.toInt := by rw [he582692]; rfl
  have ac587993 : (fI (F582685 q582686) 10).toInt = p582696.toInt := by rw [he582692]; rfl
  have ac587994 : (fI (F582685 q582686) 32).toInt = p582707.toInt := by rw [he582692]; rfl
  exact hlp2_587085 (((2001 : Int) - 0).toNat + 1) F582685 0 (gB_w (gBl (show Int32.toInt 0 = 0 by decide)) (by decide) (by decide)) hT (rStr_rf (γ := γ) (W := [97]) (F := F582685)) (by omega) (by omega) (by omega) (fun k e1 ht => ht) (Nat.lt_succ_self _)
/- tr_RModel_run2: result, F -/
def tr_RModel_run2 (D : va_G) (I : FieldType → ClassId) (γ el : Nat → Nat → Nat) (P : List Nat) (F : Nat → va_E) (q0 : Nat) (a1 : Int32) (a2 : Int32) (o1 : Int32) (o2 : Nat → va_E) : Prop := ∀ R : (Int32) → (Nat → va_E) → Prop,
  (∀ (x1 : Nat → va_E) (x2 : Nat → va_E), (∀ b, b ≠ q0 → x1 b = F b) → x1 q0 = cF (F q0) 30 (.int 0) → a2.toInt < 1 → RS D I P x2 γ el → rStr γ [] x1 x2 → (fI (x2 q0) 9).toInt = (fI (x1 q0) 9).toInt → (fI (x2 q0) 10).toInt = (fI (x1 q0) 10).toInt → (fI (x2 q0) 32).toInt = (fI (x1 q0) 32).toInt → (fI (x2 q0) 30).toInt = 1 → tr_RModel_no D I γ el x1 q0 (1 : Int32) x2 → R (0 : Int32) x2) →
  (∀ (x1 : Nat → va_E) (x2 : Int32) (x3 : Int32) (x4 : Nat → va_E) (x5 : Nat → va_E), (∀ b, b ≠ q0 → x1 b = F b) → x1 q0 = cF (F q0) 30 (.int 0) → 1 ≤ a2.toInt → a2.toInt ≤ 100000 → a1.toInt = 0 → fI (x1 q0) 9 = x2 → x2.toInt ≠ 0 → fR (x1 q0) 6 = (γ 9 6) → gB x3 0 5 → RS D I P x4 γ el → rStr γ [97] x1 x4 → (fI (x4 q0) 9).toInt = (fI (x1 q0) 9).toInt → (fI (x4 q0) 10).toInt = (fI (x1 q0) 10).toInt → (fI (x4 q0) 32).toInt = (fI (x1 q0) 32).toInt → tr_RModel_run D I γ el P x1 q0 (γ 9 6) a2 x3 x4 → (∀ b, b ≠ q0 → x5 b = x4 b) → x5 q0 = cF (x4 q0) 23 (.int x3) → fI (x5 q0) 23 = x3 → R x3 x5) →
  (∀ (x1 : Nat → va_E) (x2 : Int32) (x3 : Nat → va_E), (∀ b, b ≠ q0 → x1 b = F b) → x1 q0 = cF (F q0) 30 (.int 0) → 1 ≤ a2.toInt → a2.toInt ≤ 100000 → a1.toInt = 0 → fI (x1 q0) 9 = x2 → x2.toInt = 0 → RS D I P x3 γ el → rStr γ [] x1 x3 → (fI (x3 q0) 9).toInt = (fI (x1 q0) 9).toInt → (fI (x3 q0) 10).toInt = (fI (x1 q0) 10).toInt → (fI (x3 q0) 32).toInt = (fI (x1 q0) 32).toInt → (fI (x3 q0) 30).toInt = 2 → tr_RModel_no D I γ el x1 q0 (2 : Int32) x3 → R (0 : Int32) x3) →
  (∀ (x1 : Nat → va_E) (x2 : Int32) (x3 : Int32) (x4 : Nat → va_E) (x5 : Nat → va_E), (∀ b, b ≠ q0 → x1 b = F b) → x1 q0 = cF (F q0) 30 (.int 0) → 1 ≤ a2.toInt → a2.toInt ≤ 100000 → a1.toInt ≠ 0 → fI (x1 q0) 10 = x2 → x2.toInt ≠ 0 → fR (x1 q0) 7 = (γ 9 7) → gB x3 0 5 → RS D I P x4 γ el → rStr γ [97] x1 x4 → (fI (x4 q0) 9).toInt = (fI (x1 q0) 9).toInt → (fI (x4 q0) 10).toInt = (fI (x1 q0) 10).toInt → (fI (x4 q0) 32).toInt = (fI (x1 q0) 32).toInt → tr_RModel_run D I γ el P x1 q0 (γ 9 7) a2 x3 x4 → (∀ b, b ≠ q0 → x5 b = x4 b) → x5 q0 = cF (x4 q0) 23 (.int x3) → fI (x5 q0) 23 = x3 → R x3 x5) →
  (∀ (x1 : Nat → va_E) (x2 : Int32) (x3 : Nat → va_E), (∀ b, b ≠ q0 → x1 b = F b) → x1 q0 = cF (F q0) 30 (.int 0) → 1 ≤ a2.toInt → a2.toInt ≤ 100000 → a1.toInt ≠ 0 → fI (x1 q0) 10 = x2 → x2.toInt = 0 → RS D I P x3 γ el → rStr γ [] x1 x3 → (fI (x3 q0) 9).toInt = (fI (x1 q0) 9).toInt → (fI (x3 q0) 10).toInt = (fI (x1 q0) 10).toInt → (fI (x3 q0) 32).toInt = (fI (x1 q0) 32).toInt → (fI (x3 q0) 30).toInt = 2 → tr_RModel_no D I γ el x1 q0 (2 : Int32) x3 → R (0 : Int32) x3) →
  (∀ (x1 : Nat → va_E) (x2 : Nat → va_E), (∀ b, b ≠ q0 → x1 b = F b) → x1 q0 = cF (F q0) 30 (.int 0) → 1 ≤ a2.toInt → 100000 < a2.toInt → RS D I P x2 γ el → rStr γ [] x1 x2 → (fI (x2 q0) 9).toInt = (fI (x1 q0) 9).toInt → (fI (x2 q0) 10).toInt = (fI (x1 q0) 10).toInt → (fI (x2 q0) 32).toInt = (fI (x1 q0) 32).toInt → (fI (x2 q0) 30).toInt = 1 → tr_RModel_no D I γ el x1 q0 (1 : Int32) x2 → R (0 : Int32) x2) →
  R o1 o2
