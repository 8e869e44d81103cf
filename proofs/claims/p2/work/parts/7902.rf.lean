abbrev ky_215180_Block_ways : gKey := (cX12_ways, 1, "SpillForgeModel$Block", (some FieldType.int), [], "ways", fun _ _ => True)
def pp_215180_Block_ways (D : va_G) (I : FieldType → ClassId) (P215166 : List Nat) (F215167 : Nat → va_E) (q215168 : Nat) (q215169 : Nat) (qo215170 : Nat) (p215171 : Int32) (p215172 : Int32) (p215173 : Int32) (p215174 : Int32) (p215175 : Int32) (p215176 : Int32) (p215177 : Int32) (p215178 : Int32) (p215179 : Int32) : Option Value → va_W → Nat → Nat → Prop := fun r w dc ds => ∃ (o215190 : Int32), r = some (.int o215190) ∧ w = va_pl P215166 F215167 ∧ dc ≤ 0 ∧ ds ≤ 0 ∧ gB o215190 0 2 ∧ ((o215190.toInt = 0 ∧ p215173.toInt = 32) ∨ (o215190.toInt = 1 ∧ p215173.toInt ≠ 32 ∧ (p215173.toInt = 30 ∨ p215171.toInt = p215172.toInt)) ∨ (o215190.toInt = 2 ∧ p215173.toInt ≠ 32 ∧ p215173.toInt ≠ 30 ∧ p215171.toInt ≠ p215172.toInt))
set_option maxRecDepth 100000 in
set_option maxHeartbeats 4000000 in
theorem cp_215180_Block_ways (l : Launch) (hl0 : l.stackTraces = false) (D : va_G) (I : FieldType → ClassId) (P215166 : List Nat) (F215167 : Nat → va_E) (q215168 : Nat) (q215169 : Nat) (qo215170 : Nat) (p215171 : Int32) (p215172 : Int32) (p215173 : Int32) (p215174 : Int32) (p215175 : Int32) (p215176 : Int32) (p215177 : Int32) (p215178 : Int32) (p215179 : Int32) (hmq215168 : q215168 ∈ P215166) (hmq215169 : q215169 ∈ P215166) (heq215168 : F215167 q215168 = .inr (17, [.ref qo215170, .ref q215169, .int p215171, .int p215172])) (heq215169 : F215167 q215169 = .inr (20, [.int p215173, .int p215174, .int p215175, .int p215176, .int p215177, .int p215178, .int p215179])) (bp215171 : gB p215171 0 39) (bp215172 : gB p215172 0 39) (bp215173 : gB p215173 0 32) (bp215174 : gB p215174 0 1999) (bp215177 : gB p215177 0 1999) (bp215178 : gB p215178 0 1) (bp215179 : gB p215179 0 1) : CtA (gV D I) l yX12_ways cX12_ways 1 (some FieldType.int) 0 0 0 0 [.ref q215168] (va_pl P215166 F215167) (pp_215180_Block_ways D I P215166 F215167 q215168 q215169 qo215170 p215171 p215172 p215173 p215174 p215175 p215176 p215177 p215178 p215179) gNA := by
  refine CtA_of hl0 (by decide) (Nat.le_of_ble_eq_true rfl) ?_
  have bp215175 := gB_any p215175
  have bp215176 := gB_any p215176
  refine G_aload_n 0 dr_cX12_ways_0 rfl ?_
  refine Gp_get 1 hmq215168 heq215168 dr_cX12_ways_1 (gk_X12 D I) (Nat.le_of_ble_eq_true rfl) wr_9_222 rfl ?_
  refine Gp_get 0 hmq215169 heq215169 dr_cX12_ways_4 (gk_X15 D I) (Nat.le_of_ble_eq_true rfl) wr_9_176 rfl ?_
  refine G_bipush 32 dr_cX12_ways_7 (by decide +kernel) ?_
  refine G_icmp_ne 16 dr_cX12_ways_9 (by decide +kernel) (fun hc215181 => ?_) (fun hc215181 => ?_)
  · have r215182 : p215173.toInt ≠ 32 := gj_neq hc215181 (show Int32.toInt 32 = 32 by decide)
    have bp215173' : gB p215173 0 31 := ⟨by omega, by omega⟩
    refine G_aload_n 0 dr_cX12_ways_16 rfl ?_
    refine Gp_get 1 hmq215168 heq215168 dr_cX12_ways_17 (gk_X12 D I) (Nat.le_of_ble_eq_true rfl) wr_9_222 rfl ?_
    refine Gp_get 0 hmq215169 heq215169 dr_cX12_ways_20 (gk_X15 D I) (Nat.le_of_ble_eq_true rfl) wr_9_176 rfl ?_
    refine G_bipush 30 dr_cX12_ways_23 (by decide +kernel) ?_
    refine G_icmp_eq 39 dr_cX12_ways_25 (by decide +kernel) (fun hc215183 => ?_) (fun hc215183 => ?_)
    · have r215184 : p215173.toInt = 30 := gj_eq hc215183 (show Int32.toInt 30 = 30 by decide)
      have bp215173'' : gB p215173 30 30 := ⟨by omega, by omega⟩
      refine G_iconst 1 dr_cX12_ways_39 (by decide +kernel) ?_
      refine G_goto 44 dr_cX12_ways_40 (by decide +kernel) ?_
      exact G_iretA dr_cX12_ways_44 rfl (Nat.le_of_ble_eq_true rfl) (Nat.le_of_ble_eq_true rfl) ⟨1, rfl, rfl, (Nat.le_of_ble_eq_true rfl), (Nat.le_of_ble_eq_true rfl), (gB_w (gBl (show Int32.toInt 1 = 1 by decide)) (by decide) (by decide)), (by have qa0 : Int32.toInt 1 = 1 := (by decide); omega)⟩
    · have r215185 : p215173.toInt ≠ 30 := gj_neq hc215183 (show Int32.toInt 30 = 30 by decide)
      refine G_aload_n 0 dr_cX12_ways_28 rfl ?_
      refine Gp_get 2 hmq215168 heq215168 dr_cX12_ways_29 (gk_X12 D I) (Nat.le_of_ble_eq_true rfl) wr_9_226 rfl ?_
      refine G_aload_n 0 dr_cX12_ways_32 rfl ?_
      refine Gp_get 3 hmq215168 heq215168 dr_cX12_ways_33 (gk_X12 D I) (Nat.le_of_ble_eq_true rfl) wr_9_230 rfl ?_
      refine G_icmp_ne 43 dr_cX12_ways_36 (by decide +kernel) (fun hc215186 => ?_) (fun hc215186 => ?_)
      · have r215187 : p215171.toInt ≠ p215172.toInt := gC_ne hc215186
        refine G_iconst 2 dr_cX12_ways_43 (by decide +kernel) ?_
        exact G_iretA dr_cX12_ways_44 rfl (Nat.le_of_ble_eq_true rfl) (Nat.le_of_ble_eq_true rfl) ⟨2, rfl, rfl, (Nat.le_of_ble_eq_true rfl), (Nat.le_of_ble_eq_true rfl), (gB_w (gBl (show Int32.toInt 2 = 2 by decide)) (by decide) (by decide)), (by have qa0 : Int32.toInt 2 = 2 := (by decide); omega)⟩
      · have r215188 : p215171.toInt = p215172.toInt := gC_eq hc215186
        refine G_iconst 1 dr_cX12_ways_39 (by decide +kernel) ?_
        refine G_goto 44 dr_cX12_ways_40 (by decide +kernel) ?_
        exact G_iretA dr_cX12_ways_44 rfl (Nat.le_of_ble_eq_true rfl) (Nat.le_of_ble_eq_true rfl) ⟨1, rfl, rfl, (Nat.le_of_ble_eq_true rfl), (Nat.le_of_ble_eq_true rfl), (gB_w (gBl (show Int32.toInt 1 = 1 by decide)) (by decide) (by decide)), (by have qa0 : Int32.toInt 1 = 1 := (by decide); omega)⟩
  · have r215189 : p215173.toInt = 32 := gj_eq hc215181 (show Int32.toInt 32 = 32 by decide)
    have bp215173' : gB p215173 32 32 := ⟨by omega, by omega⟩
    refine G_iconst 0 dr_cX12_ways_12 (by decide +kernel) ?_
    refine G_goto 44 dr_cX12_ways_13 (by decide +kernel) ?_
    exact G_iretA dr_cX12_ways_44 rfl (Nat.le_of_ble_eq_true rfl) (Nat.le_of_ble_eq_true rfl) ⟨0, rfl, rfl, (Nat.le_of_ble_eq_true rfl), (Nat.le_of_ble_eq_true rfl), (gB_w (gBl (show Int32.toInt 0 = 0 by decide)) (by decide) (by decide)), (by have qa0 : Int32.toInt 0 = 0 := (by decide); omega)⟩
abbrev ky_215314_Block_way : gKey := (cX12_way, 2, "SpillForgeModel$Block", (some FieldType.int), [], "way", fun _ _ => True)
def pp_215314_Block_way (D : va_G) (I : FieldType → ClassId) (P215299 : List Nat) (F215300 : Nat → va_E) (q215301 : Nat) (q215302 : Nat) (p215303 : Int32) (qo215304 : Nat) (p215305 : Int32) (p215306 : Int32) (p215307 : Int32) (p215308 : Int32) (p215309 : Int32) (p215310 : Int32) (p215311 : Int32) (p215312 : Int32) (p215313 : Int32) : Option Value → va_W → Nat → Nat → Prop := fun r w dc ds => ∃ (o215318 : Int32), r = some (.int o215318) ∧ w = va_pl P215299 F215300 ∧ dc ≤ 0 ∧ ds ≤ 0 ∧ gB o215318 0 39 ∧ ((p215303.toInt = 0 ∧ o215318.toInt = p215305.toInt) ∨ (p215303.toInt ≠ 0 ∧ o215318.toInt = p215306.toInt))
set_option maxRecDepth 100000 in
set_option maxHeartbeats 4000000 in
theorem cp_215314_Block_way (l : Launch) (hl0 : l.stackTraces = false) (D : va_G) (I : FieldType → ClassId) (P215299 : List Nat) (F215300 : Nat → va_E) (q215301 : Nat) (q215302 : Nat) (p215303 : Int32) (qo215304 : Nat) (p215305 : Int32) (p215306 : Int32) (p215307 : Int32) (p215308 : Int32) (p215309 : Int32) (p215310 : Int32) (p215311 : Int32) (p215312 : Int32) (p215313 : Int32) (hmq215301 : q215301 ∈ P215299) (hmq215302 : q215302 ∈ P215299) (heq215301 : F215300 q215301 = .inr (17, [.ref qo215304, .ref q215302, .int p215305, .int p215306])) (heq215302 : F215300 q215302 = .inr (20, [.int p215307, .int p215308, .int p215309, .int p215310, .int p215311, .int p215312, .int p215313])) (bp215305 : gB p215305 0 39) (bp215306 : gB p215306 0 39) (bp215307 : gB p215307 0 32) (bp215308 : gB p215308 0 1999) (bp215311 : gB p215311 0 1999) (bp215312 : gB p215312 0 1) (bp215313 : gB p215313 0 1) : CtA (gV D I) l yX12_way cX12_way 2 (some FieldType.int) 0 0 0 0 [.ref q215301, .int p215303] (va_pl P215299 F215300) (pp_215314_Block_way D I P215299 F215300 q215301 q215302 p215303 qo215304 p215305 p215306 p215307 p215308 p215309 p215310 p215311 p215312 p215313) gNA := by
  refine CtA_of hl0 (by decide) (Nat.le_of_ble_eq_true rfl) ?_
  have bp215303 := gB_any p215303
  have bp215309 := gB_any p215309
  have bp215310 := gB_any p215310
  refine G_iload_n 1 dr_cX12_way_0 rfl ?_
  refine G_if_ne 11 dr_cX12_way_1 (by decide +kernel) (fun hc215315 => ?_) (fun hc215315 => ?_)
  · have r215316 : p215303.toInt ≠ 0 := gj_neq hc215315 (show Int32.toInt 0 = 0 by decide)
    refine G_aload_n 0 dr_cX12_way_11 rfl ?_
    refine Gp_get 3 hmq215301 heq215301 dr_cX12_way_12 (gk_X12 D I) (Nat.le_of_ble_eq_true rfl) wr_9_230 rfl ?_
    exact G_iretA dr_cX12_way_15 rfl (Nat.le_of_ble_eq_true rfl) (Nat.le_of_ble_eq_true rfl) ⟨p215306, rfl, rfl, (Nat.le_of_ble_eq_true rfl), (Nat.le_of_ble_eq_true rfl), bp215306, (by omega)⟩
  · have r215317 : p215303.toInt = 0 := gj_eq hc215315 (show Int32.toInt 0 = 0 by decide)
    have bp215303' : gB p215303 0 0 := ⟨by omega, by omega⟩
    refine G_aload_n 0 dr_cX12_way_4 rfl ?_
    refine Gp_get 2 hmq215301 heq215301 dr_cX12_way_5 (gk_X12 D I) (Nat.le_of_ble_eq_true rfl) wr_9_226 rfl ?_
    refine G_goto 15 dr_cX12_way_8 (by decide +kernel) ?_
    exact G_iretA dr_cX12_way_15 rfl (Nat.le_of_ble_eq_true rfl) (Nat.le_of_ble_eq_true rfl) ⟨p215305, rfl, rfl, (Nat.le_of_ble_eq_true rfl), (Nat.le_of_ble_eq_true rfl), bp215305, (by omega)⟩
abbrev ky_214926_SpillForgeModel_behind : gKey := (cX17_behind, 4, "SpillForgeModel", none, [], "behind", fun _ _ => True)
def pt_214926_SpillForgeModel_behind (D : va_G) (I : FieldType → ClassId) (γ el : Nat → Nat → Nat) (P214922 : List Nat) (F214923 : Nat → va_E) (q214924 : Nat) (q214925 : Nat) : Option Value → va_W → Nat → Nat → Prop := fun r w dc ds => ∃ (F217895 : Nat → va_E), r = none ∧ w = va_pl P214922 F217895 ∧ RS D I P214922 F217895 γ el ∧ rStr γ [] F214923 F217895 ∧ dc ≤ 0 ∧ ds ≤ 0 ∧ (∀ k : Nat, k < 2048 → rbt (cL (F217895 (γ 9 2))) k = bhV (fI (F214923 (γ 15 q214925)) 0).toInt (fI (F214923 q214925) 2).toInt (fI (F214923 q214925) 3).toInt (lvS γ F214923) k) ∧ rLv γ F214923 F217895
set_option maxRecDepth 100000 in
set_option maxHeartbeats 4000000 in
theorem ct_214926_SpillForgeModel_behind (l : Launch) (hl0 : l.stackTraces = false) (D : va_G) (I : FieldType → ClassId) (γ el : Nat → Nat → Nat) (P214922 : List Nat) (F214923 : Nat → va_E) (q214924 : Nat) (q214925 : Nat) (hT : RS D I P214922 F214923 γ el) (htq214924 : rKd γ q214924 10) (htq214925 : rKd γ q214925 2) : CtA (gV D I) l yX17_behind cX17_behind 4 none 1 21 0 0 [.ref q214924, .ref q214925] (va_pl P214922 F214923) (pt_214926_SpillForgeModel_behind D I γ el P214922 F214923 q214924 q214925) gNA := by
  refine CtA_of hl0 (by decide) (Nat.le_of_ble_eq_true rfl) ?_
  have hm214927 : q214924 ∈ P214922 := RS_m hT htq214924 (by decide)
  obtain ⟨q214929, q214930, p214931, p214932, p214933, p214934, p214935, p214936, p214937, p214938, p214939, p214940, p214941, p214942, p214943, p214944, p214945, he214928, hB214972, ht214946, ht214947, ht214948, ht214949, ht214950, ht214951, ht214952, ht214953, ht214954, ht214955, ht214956, ht214957, ht214958, ht214959, ht214960, ht214961, ht214962, ht214963, ht214964, ht214965, ht214966, ht214967, ht214968, ht214969, hB214973⟩ := show rk_10 γ (F214923 q214924) from RS_o hT htq214924
  have hm214974 : (γ 9 2) ∈ P214922 := RS_m hT ht214950 (by decide)
  obtain ⟨f214976, he214975, wf214976⟩ := show rk_35 I (F214923 (γ 9 2)) from RS_o hT ht214950
  have hm214977 : q214925 ∈ P214922 := RS_m hT htq214925 (by decide)
  obtain ⟨q214979, q214980, p214981, p214982, he214978, ht214989, ht214983, ht214984, ht214985, ht214986, ht214987, bp214981, bp214982, r214988, r214990, r214991⟩ := show rk_2 γ q214925 (F214923 q214925) from RS_o hT htq214925
  have hm214992 : q214980 ∈ P214922 := RS_m hT ht214985 (by decide)
  obtain ⟨p214994, p214995, p214996, p214997, p214998, p214999, p215000, he214993, bp214994, bp214995, bp214998, bp214999, bp215000, r215001, r215002, r215003, r215004⟩ := show rk_1 γ q214980 (F214923 q214980) from RS_o hT ht214985
  have bp214996 := gB_any p214996
  have bp214997 := gB_any p214997
  have fe1 : (fI (F214923 q214925) 2).toInt = p214981.toInt := by rw [he214978]; rfl
  have fe2 : (fI (F214923 q214925) 3).toInt = p214982.toInt := by rw [he214978]; rfl
  have fe3 : (fI (F214923 (γ 15 q214925)) 0).toInt = p214994.toInt := by rw [ht214989.2.1, he214993]; rfl
  refine G_iconst 0 dr_cX17_behind_0 (by decide +kernel) ?_
  refine G_istore_n (L' := [(2, .int 0), (0, .ref q214924), (1, .ref q214925)]) dr_cX17_behind_1 (Nat.le_of_ble_eq_true rfl) rfl ?_
  have hlp2_217294 : ∀ (n2_217294 : Nat) (F217290 : Nat → va_E) (g217289 : Int32), gB g217289 0 32 → RS D I P214922 F217290 γ el → rStr γ [] F214923 F217290 → (∀ j : Nat, (j : Int) < g217289.toInt → cL (F217290 (γ 9 2)) j = 0) → rLv γ F214923 F217290 → ((33 : Int) - g217289.toInt).toNat < n2_217294 → G (gV D I) l (gRm 1 21 0 0) (gMA (gV D I) (pt_214926_SpillForgeModel_behind D I γ el P214922 F214923 q214924 q214925) gNA 0 0) ky_214926_SpillForgeModel_behind 2 [(2, .int g217289), (0, .ref q214924), (1, .ref q214925)] [] (va_pl P214922 F217290) 0 0 := by
    intro n2_217294
    induction n2_217294 with
    | zero => intro F217290 g217289 bg217289 hT217291 hs217292 x217293 x217294 hm2_217294; exact absurd hm2_217294 (Nat.not_lt_zero _)
    | succ n2_217294 ih2_217294 =>
      intro F217290 g217289 bg217289 hT217291 hs217292 x217293 x217294 hm2_217294
      have hs217296 : rStr γ [] F214923 F217290 := fun b h0 hb hw => (hs217292 b h0 hb hw).trans ((rStr_rf (γ := γ) (W := []) (F := F214923)) b h0 hb hw).symm
      have he217297 : F217290 q214925 = .inr (17, [.ref q214979, .ref q214980, .int p214981, .int p214982]) := (hs217296 q214925 (rT0 htq214925 (by decide)) (rT1 htq214925 (by decide)) (rT2 htq214925 (by decide))).trans he214978
      have he217298 : F217290 q214980 = .inr (20, [.int p214994, .int p214995, .int p214996, .int p214997, .int p214998, .int p214999, .int p215000]) := (hs217296 q214980 (rT0 ht214985 (by decide)) (rT1 ht214985 (by decide)) (rT2 ht214985 (by decide))).trans he214993
      have hs217299 : rStr γ [] F214923 F217290 := rStr_tr (rStr_rf (γ := γ) (W := []) (F := F214923)) hs217296
      refine G_iload_n 0 dr_cX17_behind_2 rfl ?_
      refine G_bipush 32 dr_cX17_behind_3 (by decide +kernel) ?_
      refine G_icmp_ge 21 dr_cX17_behind_5 (by decide +kernel) (fun hc217300 => ?_) (fun hc217300 => ?_)
      · have r217301 : 32 ≤ g217289.toInt := gj_leL hc217300 (show Int32.toInt 32 = 32 by decide)
        have bg217289' : gB g217289 32 32 := ⟨by omega, by omega⟩
        refine G_iconst 0 dr_cX17_behind_21 (by decide +kernel) ?_
        refine G_istore_n (L' := [(2, .int 0), (0, .ref q214924), (1, .ref q214925)]) dr_cX17_behind_22 (Nat.le_of_ble_eq_true rfl) rfl ?_
        have hlp23_217571 : ∀ (n23_217571 : Nat) (F217566 : Nat → va_E) (g217565 : Int32), gB g217565 0 2 → RS D I P214922 F217566 γ el → rStr γ [] F214923 F217566 → (∀ k : Nat, k < 2048 → rbt (cL (F217566 (γ 9 2))) k = wyV g217565.toInt (fI (F214923 q214925) 2).toInt (fI (F214923 q214925) 3).toInt (lvS γ F214923) k) → rLv γ F214923 F217566 → (g217565.toInt = 0 ∨ ((fI (F214923 (γ 15 q214925)) 0).toInt ≠ 32 ∧ (g217565.toInt = 1 ∨ (g217565.toInt = 2 ∧ (fI (F214923 (γ 15 q214925)) 0).toInt ≠ 30 ∧ (fI (F214923 q214925) 2).toInt ≠ (fI (F214923 q214925) 3).toInt)))) → ((3 : Int) - g217565.toInt).toNat < n23_217571 → G (gV D I) l (gRm 1 21 0 0) (gMA (gV D I) (pt_214926_SpillForgeModel_behind D I γ el P214922 F214923 q214924 q214925) gNA 0 0) ky_214926_SpillForgeModel_behind 23 [(2, .int g217565), (0, .ref q214924), (1, .ref q214925)] [] (va_pl P214922 F217566) 0 0 := by
          intro n23_217571
          induction n23_217571 with
          | zero => intro F217566 g217565 bg217565 hT217567 hs217568 x217569 x217570 x217571 hm23_217571; exact absurd hm23_217571 (Nat.not_lt_zero _)
          | succ n23_217571 ih23_217571 =>
            intro F217566 g217565 bg217565 hT217567 hs217568 x217569 x217570 x217571 hm23_217571
            have hs217573 : rStr γ [] F217290 F217566 := fun b h0 hb hw => (hs217568 b h0 hb hw).trans (hs217292 b h0 hb hw).symm
            have he217574 : F217566 q214925 = .inr (17, [.ref q214979, .ref q214980, .int p214981, .int p214982]) := (hs217573 q214925 (rT0 htq214925 (by decide)) (rT1 htq214925 (by decide)) (rT2 htq214925 (by decide))).trans he217297
            have he217575 : F217566 q214980 = .inr (20, [.int p214994, .int p214995, .int p214996, .int p214997, .int p214998, .int p214999, .int p215000]) := (hs217573 q214980 (rT0 ht214985 (by decide)) (rT1 ht214985 (by decide)) (rT2 ht214985 (by decide))).trans he217298
            have hs217576 : rStr γ [] F214923 F217566 := rStr_tr hs217292 hs217573
            refine G_iload_n 0 dr_cX17_behind_23 rfl ?_
            refine G_aload_n 2 dr_cX17_behind_24 rfl ?_
            refine Gw_callV (As := []) (gV_ok D I) (cp_215180_Block_ways l hl0 D I P214922 F217566 q214925 q214980 q214979 p214981 p214982 p214994 p214995 p214996 p214997 p214998 p214999 p215000 hm214977 hm214992 he217574 he217575 bp214981 bp214982 bp214994 bp214995 bp214998 bp214999 bp215000) dr_cX17_behind_25 ⟨wr_10_166, wr_1_38, wr_10_169, by decide, rfl, (Nat.le_of_ble_eq_true rfl), (Nat.le_of_ble_eq_true rfl)⟩ wr_10_167 wr_10_168 hm214977 he217574 rfl (show 0 + 0 ≤ 0 by first | omega | decide) (show 0 + 0 ≤ 0 by first | omega | decide) (Nat.le_of_ble_eq_true rfl) (fun r217580 w217581 dc217577 ds217578 hp217579 => ?_) (fun _ _ _ _ _ z => z.elim)
            obtain ⟨o217582, rfl, rfl, hdc, hds, bo217582, x217583⟩ := hp217579
            change G _ _ _ _ _ _ _ (.int o217582 :: _) _ _ _
            refine G_widen (cs' := 0) (sl' := 0) (by omega) (by omega) ?_
            refine G_icmp_ge 72 dr_cX17_behind_28 (by decide +kernel) (fun hc217584 => ?_) (fun hc217584 => ?_)
            · have r217585 : o217582.toInt ≤ g217565.toInt := gC_le hc217584
              have hm217586 : q214924 ∈ P214922 := RS_m hT217567 htq214924 (by decide)
              obtain ⟨q217588, q217589, p217590, p217591, p217592, p217593, p217594, p217595, p217596, p217597, p217598, p217599, p217600, p217601, p217602, p217603, p217604, he217587, hB217631, ht217605, ht217606, ht217607, ht217608, ht217609, ht217610, ht217611, ht217612, ht217613, ht217614, ht217615, ht217616, ht217617, ht217618, ht217619, ht217620, ht217621, ht217622, ht217623, ht217624, ht217625, ht217626, ht217627, ht217628, hB217632⟩ := show rk_10 γ (F217566 q214924) from RS_o hT217567 htq214924
              exact G_vretA dr_cX17_behind_72 rfl (Nat.le_of_ble_eq_true rfl) (Nat.le_of_ble_eq_true rfl) ⟨F217566, rfl, rfl, hT217567, hs217568, (Nat.le_of_ble_eq_true rfl), (Nat.le_of_ble_eq_true rfl), (fun k hk => (x217569 k hk).trans (bh_of (by omega))), x217570⟩
            · have r217633 : g217565.toInt < o217582.toInt := gC_nle hc217584
              have bg217565' : gB g217565 0 1 := ⟨by omega, by omega⟩
              have bo217582' : gB o217582 1 2 := ⟨by omega, by omega⟩
              refine G_iconst 0 dr_cX17_behind_31 (by decide +kernel) ?_
              refine G_istore_n (L' := [(3, .int 0), (2, .int g217565), (0, .ref q214924), (1, .ref q214925)]) dr_cX17_behind_32 (Nat.le_of_ble_eq_true rfl) rfl ?_
              have hlp33_217737 : ∀ (n33_217737 : Nat) (F217732 : Nat → va_E) (g217731 : Int32), gB g217731 0 32 → RS D I P214922 F217732 γ el → rStr γ [] F214923 F217732 → (∀ k : Nat, k < 2048 → rbt (cL (F217732 (γ 9 2))) k = if (k : Int) < 64 * g217731.toInt then wyV (g217565.toInt + 1) (fI (F214923 q214925) 2).toInt (fI (F214923 q214925) 3).toInt (lvS γ F214923) k else wyV g217565.toInt (fI (F214923 q214925) 2).toInt (fI (F214923 q214925) 3).toInt (lvS γ F214923) k) → rLv γ F214923 F217732 → ((g217565.toInt = 0 ∧ (fI (F214923 (γ 15 q214925)) 0).toInt ≠ 32) ∨ (g217565.toInt = 1 ∧ (fI (F214923 (γ 15 q214925)) 0).toInt ≠ 32 ∧ (fI (F214923 (γ 15 q214925)) 0).toInt ≠ 30 ∧ (fI (F214923 q214925) 2).toInt ≠ (fI (F214923 q214925) 3).toInt)) → ((33 : Int) - g217731.toInt).toNat < n33_217737 → G (gV D I) l (gRm 1 21 0 0) (gMA (gV D I) (pt_214926_SpillForgeModel_behind D I γ el P214922 F214923 q214924 q214925) gNA 0 0) ky_214926_SpillForgeModel_behind 33 [(3, .int g217731), (2, .int g217565), (0, .ref q214924), (1, .ref q214925)] [] (va_pl P214922 F217732) 0 0 := by
                intro n33_217737
                induction n33_217737 with
                | zero => intro F217732 g217731 bg217731 hT217733 hs217734 x217735 x217736 x217737 hm33_217737; exact absurd hm33_217737 (Nat.not_lt_zero _)
                | succ n33_217737 ih33_217737 =>
                  intro F217732 g217731 bg217731 hT217733 hs217734 x217735 x217736 x217737 hm33_217737
                  have hs217739 : rStr γ [] F217566 F217732 := fun b h0 hb hw => (hs217734 b h0 hb hw).trans (hs217568 b h0 hb hw).symm
                  have he217740 : F217732 q214925 = .inr (17, [.ref q214979, .ref q214980, .int p214981, .int p214982]) := (hs217739 q214925 (rT0 htq214925 (by decide)) (rT1 htq214925 (by decide)) (rT2 htq214925 (by decide))).trans he217574
                  have he217741 : F217732 q214980 = .inr (20, [.int p214994, .int p214995, .int p214996, .int p214997, .int p214998, .int p214999, .int p215000]) := (hs217739 q214980 (rT0 ht214985 (by decide)) (rT1 ht214985 (by decide)) (rT2 ht214985 (by decide))).trans he217575
                  have hs217742 : rStr γ [] F214923 F217732 := rStr_tr hs217568 hs217739
                  refine G_iload_n 0 dr_cX17_behind_33 rfl ?_
                  refine G_bipush 32 dr_cX17_behind_34 (by decide +kernel) ?_
                  refine G_icmp_ge 66 dr_cX17_behind_36 (by decide +kernel) (fun hc217743 => ?_) (fun hc217743 => ?_)
                  · have r217744 : 32 ≤ g217731.toInt := gj_leL hc217743 (show Int32.toInt 32 = 32 by decide)
                    have bg217731' : gB g217731 32 32 := ⟨by omega, by omega⟩
                    obtain ⟨z217745, hz217745⟩ : ∃ z : Int32, z = g217565 + Int32.ofInt 1 := ⟨_, rfl⟩
                    have ez217745 : z217745.toInt = g217565.toInt + 1 := gI_inc hz217745 (by decide) bg217565' (by decide) (by decide)
                    have bz217745 : gB z217745 1 2 := ⟨by omega, by omega⟩
                    refine G_iinc (L' := [(2, .int z217745), (3, .int g217731), (0, .ref q214924), (1, .ref q214925)]) z217745 1 dr_cX17_behind_66 rfl hz217745.symm (Nat.le_of_ble_eq_true rfl) rfl ?_
                    refine G_goto 23 dr_cX17_behind_69 (by decide +kernel) ?_
                    refine G_lv (L' := [(2, .int z217745), (0, .ref q214924), (1, .ref q214925)]) [0, 2, 3] rfl ?_
                    exact ih23_217571 F217732 z217745 (gB_w bz217745 (by decide) (by decide)) hT217733 hs217734 (fun k hk => by have q := x217735 k hk; rw [if_pos (by omega)] at q; rw [ez217745]; exact q) x217736 (by rw [show fI (F214923 q214925) 2 = p214981 from by rw [he214978]; rfl, show fI (F214923 q214925) 3 = p214982 from by rw [he214978]; rfl] <;> (omega)) (by omega)
                  · have r217746 : g217731.toInt < 32 := gj_nleL hc217743 (show Int32.toInt 32 = 32 by decide)
                    have bg217731' : gB g217731 0 31 := ⟨by omega, by omega⟩
                    refine G_aload_n 2 dr_cX17_behind_39 rfl ?_
                    have hm217747 : q214924 ∈ P214922 := RS_m hT217733 htq214924 (by decide)
                    obtain ⟨q217749, q217750, p217751, p217752, p217753, p217754, p217755, p217756, p217757, p217758, p217759, p217760, p217761, p217762, p217763, p217764, p217765, he217748, hB217792, ht217766, ht217767, ht217768, ht217769, ht217770, ht217771, ht217772, ht217773, ht217774, ht217775, ht217776, ht217777, ht217778, ht217779, ht217780, ht217781, ht217782, ht217783, ht217784, ht217785, ht217786, ht217787, ht217788, ht217789, hB217793⟩ := show rk_10 γ (F217732 q214924) from RS_o hT217733 htq214924
                    refine Gp_get 2 hm217747 he217748 dr_cX17_behind_40 (gk_X17 D I) (Nat.le_of_ble_eq_true rfl) wr_7_76 rfl ?_
                    refine G_iload_n 0 dr_cX17_behind_43 rfl ?_
                    refine G_dup2_11 dr_cX17_behind_44 rfl rfl ?_
                    have hm217794 : (γ 9 2) ∈ P214922 := RS_m hT217733 ht217770 (by decide)
                    obtain ⟨f217796, he217795, wf217796⟩ := show rk_35 I (F217732 (γ 9 2)) from RS_o hT217733 ht217770
                    refine Gp_lald 2 hm217794 he217795 dr_cX17_behind_45 rfl (gB_in bg217731' (by decide) (by decide)) (G_namL fun u217797 hu217797 => ?_)
                    have qu217797 : lb_Q u217797 (2000 - 64 * g217731.toInt) := lb_Wld hu217797 wf217796 (by omega) (by omega) (lb_Mod0 (by omega) (by omega))
                    refine G_aload_n 2 dr_cX17_behind_46 rfl ?_
                    refine Gp_get 0 hm217747 he217748 dr_cX17_behind_47 (gk_X17 D I) (Nat.le_of_ble_eq_true rfl) wr_7_74 rfl ?_
                    refine G_aload_n 3 dr_cX17_behind_50 rfl ?_
                    refine G_iload_n 1 dr_cX17_behind_51 rfl ?_
                    refine Gw_callV (As := [.int g217565]) (gV_ok D I) (cp_215314_Block_way l hl0 D I P214922 F217732 q214925 q214980 g217565 q214979 p214981 p214982 p214994 p214995 p214996 p214997 p214998 p214999 p215000 hm214977 hm214992 he217740 he217741 bp214981 bp214982 bp214994 bp214995 bp214998 bp214999 bp215000) dr_cX17_behind_52 ⟨wr_10_170, wr_1_38, wr_10_173, by decide, rfl, (Nat.le_of_ble_eq_true rfl), (Nat.le_of_ble_eq_true rfl)⟩ wr_10_171 wr_10_172 hm214977 he217740 rfl (show 0 + 0 ≤ 0 by first | omega | decide) (show 0 + 0 ≤ 0 by first | omega | decide) (Nat.le_of_ble_eq_true rfl) (fun r217801 w217802 dc217798 ds217799 hp217800 => ?_) (fun _ _ _ _ _ z => z.elim)
                    obtain ⟨o217803, rfl, rfl, hdc, hds, bo217803, x217804⟩ := hp217800
                    change G _ _ _ _ _ _ _ (.int o217803 :: _) _ _ _
                    refine G_widen (cs' := 0) (sl' := 0) (by omega) (by omega) ?_
                    have hm217805 : (γ 9 0) ∈ P214922 := RS_m hT217733 ht217768 (by decide)
                    obtain ⟨f217807, he217806, hg217808⟩ := show rk_12 I γ (F217732 (γ 9 0)) from RS_o hT217733 ht217768
                    obtain ⟨q217809, hx217811⟩ : ∃ x, x = γ 10 o217803.toInt.toNat := ⟨_, rfl⟩
                    have ht217810 : rKd γ q217809 11 := by rw [hx217811]; exact (hg217808 _ (show o217803.toInt.toNat < 40 by omega)).2.1
                    refine Gp_aald 5 hm217805 he217806 dr_cX17_behind_55 rfl rfl (gB_in bo217803 (by decide) (by decide)) ?_
                    rw [show f217807 o217803.toNatClampNeg = some q217809 from (hg217808 _ (show o217803.toInt.toNat < 40 by omega)).1.trans (by rw [hx217811])]
                    change G _ _ _ _ _ _ _ (.ref q217809 :: _) _ _ _
                    refine G_iload_n 0 dr_cX17_behind_56 rfl ?_
                    have hm217812 : q217809 ∈ P214922 := RS_m hT217733 ht217810 (by decide)
                    obtain ⟨f217814, he217813, wf217814⟩ := show rk_11 I (F217732 q217809) from RS_o hT217733 ht217810
                    refine Gp_lald 2 hm217812 he217813 dr_cX17_behind_57 rfl (gB_in bg217731' (by decide) (by decide)) (G_namL fun u217815 hu217815 => ?_)
                    have qu217815 : lb_Q u217815 (2000 - 64 * g217731.toInt) := lb_Wld hu217815 wf217814 (by omega) (by omega) (lb_Mod0 (by omega) (by omega))
                    have hg217816 : ∀ k : Nat, lvS γ F214923 o217803.toInt.toNat k = rbt f217814 k := fun k => by unfold lvS; rw [← x217736 _ (show o217803.toInt.toNat < 40 by omega), ← hx217811, cL_of he217813]
                    refine G_lor dr_cX17_behind_58 (G_namL fun u217817 hu217817 => ?_)
                    have qu217817 : lb_Q u217817 (2000 - 64 * g217731.toInt) := lb_Qor hu217817 qu217797 qu217815
                    refine Gp_last 2 hm217794 he217795 dr_cX17_behind_59 rfl (gB_in bg217731' (by decide) (by decide)) (fun F217818 e217819 n217820 => ?_)
                    obtain ⟨f217821, hf217821⟩ : ∃ z, z = vp_updL f217796 g217731.toNatClampNeg u217817 := ⟨_, rfl⟩
                    rw [← hf217821] at e217819
                    have he217822 : F217818 q214925 = .inr (17, [.ref q214979, .ref q214980, .int p214981, .int p214982]) := (n217820 q214925 (rn_oa he217740 he217795)).trans he217740
                    have he217823 : F217818 q214980 = .inr (20, [.int p214994, .int p214995, .int p214996, .int p214997, .int p214998, .int p214999, .int p215000]) := (n217820 q214980 (rn_oa he217741 he217795)).trans he217741
                    have he217824 : F217818 q214924 = .inr (22, [.ref (γ 9 0), .ref (γ 9 1), .ref (γ 9 2), .ref (γ 9 3), .ref (γ 9 4), .ref (γ 9 5), .ref (γ 9 6), .ref (γ 9 7), .ref (γ 9 8), .int p217751, .int p217752, .int p217753, .int p217754, .int p217755, .int p217756, .ref (γ 9 15), .ref (γ 9 16), .ref (γ 9 17), .ref (γ 9 18), .ref (γ 9 19), .ref (γ 9 20), .ref (γ 9 21), .ref (γ 9 22), .int p217757, .int p217758, .int p217759, .int p217760, .int p217761, .ref q217749, .ref (γ 9 29), .int p217762, .ref (γ 9 31), .int p217763, .int p217764, .int p217765, .ref q217750]) := (n217820 q214924 (rn_oa he217748 he217795)).trans he217748
                    have he217825 : F217818 (γ 9 0) = .inl (I (.array .long), 40, .inr (.inr (.inr (.inr f217807)))) := (n217820 (γ 9 0) (rn_ref_long he217806 he217795)).trans he217806
                    have he217826 : F217818 q217809 = .inl (I .long, 32, .inr (.inl f217814)) := (n217820 q217809 (rn_ty ht217810 ht217770 (by decide))).trans he217813
                    have he217827 : F217818 (γ 9 2) = .inl (I .long, 32, .inr (.inl f217821)) := e217819
                    have hs217828 : rStr γ [] F214923 F217818 := rStr_put hs217734 n217820 ht217770 (by decide)
                    have wf217821 : lb_W f217821 (32) (32) (2000) := lb_Wst hf217821 wf217796 (by omega) (lb_Mod0 (by omega) (by omega)) qu217817
                    obtain ⟨z217829, hz217829⟩ : ∃ z : Int32, z = g217731 + Int32.ofInt 1 := ⟨_, rfl⟩
                    have ez217829 : z217829.toInt = g217731.toInt + 1 := gI_inc hz217829 (by decide) bg217731' (by decide) (by decide)
                    have bz217829 : gB z217829 1 32 := ⟨by omega, by omega⟩
                    refine G_iinc (L' := [(3, .int z217829), (2, .int g217565), (0, .ref q214924), (1, .ref q214925)]) z217829 0 dr_cX17_behind_60 rfl hz217829.symm (Nat.le_of_ble_eq_true rfl) rfl ?_
                    refine G_goto 33 dr_cX17_behind_63 (by decide +kernel) ?_
                    have hT217830 : RS D I P214922 F217818 γ el := RS_set hT217733 n217820 ht217770 (by decide) ⟨f217821, he217827, wf217821⟩
                    have lv217831 : rLv γ F214923 F217818 := rLv_put hT217733 ht217768 x217736 n217820 ht217770 (by decide)
                    exact ih33_217737 F217818 z217829 (gB_w bz217829 (by decide) (by decide)) hT217830 hs217828 (by rw [cL_of he217827]; exact or_st hu217797 hu217815 (by assumption) hf217821 bg217731'.1 ez217829 (by have q := x217735; rw [cL_of he217795] at q; exact q) (fun k => (wy_s (y := o217803.toInt) (by omega)).trans (by rw [hg217816 k]))) lv217831 (by rw [show fI (F214923 q214925) 2 = p214981 from by rw [he214978]; rfl, show fI (F214923 q214925) 3 = p214982 from by rw [he214978]; rfl] <;> (omega)) (by omega)
              exact hlp33_217737 (((33 : Int) - 0).toNat + 1) F217566 0 (gB_w (gBl (show Int32.toInt 0 = 0 by decide)) (by decide) (by decide)) hT217567 hs217568 (fun k hk => by rw [if_neg (by have qa : Int32.toInt 0 = 0 := (by decide); omega)]; exact x217569 k hk) x217570 (by rw [show fI (F214923 q214925) 2 = p214981 from by rw [he214978]; rfl, show fI (F214923 q214925) 3 = p214982 from by rw [he214978]; rfl] <;> (omega)) (Nat.lt_succ_self _)
        exact hlp23_217571 (((3 : Int) - 0).toNat + 1) F217290 0 (gB_w (gBl (show Int32.toInt 0 = 0 by decide)) (by decide) (by decide)) hT217291 hs217292 (fun k hk => (rbt_z (x217293 _ (by omega))).trans wy_0.symm) x217294 (Or.inl (by decide)) (Nat.lt_succ_self _)
      · have r217832 : g217289.toInt < 32 := gj_nleL hc217300 (show Int32.toInt 32 = 32 by decide)
        have bg217289' : gB g217289 0 31 := ⟨by omega, by omega⟩
        refine G_aload_n 1 dr_cX17_behind_8 rfl ?_
        have hm217833 : q214924 ∈ P214922 := RS_m hT217291 htq214924 (by decide)
        obtain ⟨q217835, q217836, p217837, p217838, p217839, p217840, p217841, p217842, p217843, p217844, p217845, p217846, p217847, p217848, p217849, p217850, p217851, he217834, hB217878, ht217852, ht217853, ht217854, ht217855, ht217856, ht217857, ht217858, ht217859, ht217860, ht217861, ht217862, ht217863, ht217864, ht217865, ht217866, ht217867, ht217868, ht217869, ht217870, ht217871, ht217872, ht217873, ht217874, ht217875, hB217879⟩ := show rk_10 γ (F217290 q214924) from RS_o hT217291 htq214924
        refine Gp_get 2 hm217833 he217834 dr_cX17_behind_9 (gk_X17 D I) (Nat.le_of_ble_eq_true rfl) wr_7_76 rfl ?_
        refine G_iload_n 0 dr_cX17_behind_12 rfl ?_
        refine G_lconst 0 dr_cX17_behind_13 rfl ?_
        have hm217880 : (γ 9 2) ∈ P214922 := RS_m hT217291 ht217856 (by decide)
        obtain ⟨f217882, he217881, wf217882⟩ := show rk_35 I (F217290 (γ 9 2)) from RS_o hT217291 ht217856
        refine Gp_last 2 hm217880 he217881 dr_cX17_behind_14 rfl (gB_in bg217289' (by decide) (by decide)) (fun F217883 e217884 n217885 => ?_)
        obtain ⟨f217886, hf217886⟩ : ∃ z, z = vp_updL f217882 g217289.toNatClampNeg 0 := ⟨_, rfl⟩
        rw [← hf217886] at e217884
        have he217887 : F217883 q214925 = .inr (17, [.ref q214979, .ref q214980, .int p214981, .int p214982]) := (n217885 q214925 (rn_oa he217297 he217881)).trans he217297
        have he217888 : F217883 q214980 = .inr (20, [.int p214994, .int p214995, .int p214996, .int p214997, .int p214998, .int p214999, .int p215000]) := (n217885 q214980 (rn_oa he217298 he217881)).trans he217298
        have he217889 : F217883 q214924 = .inr (22, [.ref (γ 9 0), .ref (γ 9 1), .ref (γ 9 2), .ref (γ 9 3), .ref (γ 9 4), .ref (γ 9 5), .ref (γ 9 6), .ref (γ 9 7), .ref (γ 9 8), .int p217837, .int p217838, .int p217839, .int p217840, .int p217841, .int p217842, .ref (γ 9 15), .ref (γ 9 16), .ref (γ 9 17), .ref (γ 9 18), .ref (γ 9 19), .ref (γ 9 20), .ref (γ 9 21), .ref (γ 9 22), .int p217843, .int p217844, .int p217845, .int p217846, .int p217847, .ref q217835, .ref (γ 9 29), .int p217848, .ref (γ 9 31), .int p217849, .int p217850, .int p217851, .ref q217836]) := (n217885 q214924 (rn_oa he217834 he217881)).trans he217834
        have he217890 : F217883 (γ 9 2) = .inl (I .long, 32, .inr (.inl f217886)) := e217884
        have hs217891 : rStr γ [] F214923 F217883 := rStr_put hs217292 n217885 ht217856 (by decide)
        have wf217886 : lb_W f217886 (32) (32) (2000) := lb_Wst hf217886 wf217882 (by omega) (lb_Mod0 (by omega) (by omega)) lb_Q0
        obtain ⟨z217892, hz217892⟩ : ∃ z : Int32, z = g217289 + Int32.ofInt 1 := ⟨_, rfl⟩
        have ez217892 : z217892.toInt = g217289.toInt + 1 := gI_inc hz217892 (by decide) bg217289' (by decide) (by decide)
        have bz217892 : gB z217892 1 32 := ⟨by omega, by omega⟩
        refine G_iinc (L' := [(2, .int z217892), (0, .ref q214924), (1, .ref q214925)]) z217892 0 dr_cX17_behind_15 rfl hz217892.symm (Nat.le_of_ble_eq_true rfl) rfl ?_
        refine G_goto 2 dr_cX17_behind_18 (by decide +kernel) ?_
        have hT217893 : RS D I P214922 F217883 γ el := RS_set hT217291 n217885 ht217856 (by decide) ⟨f217886, he217890, wf217886⟩
        have lv217894 : rLv γ F214923 F217883 := rLv_put hT217291 ht217854 x217294 n217885 ht217856 (by decide)
        exact ih2_217294 F217883 z217892 (gB_w bz217892 (by decide) (by decide)) hT217893 hs217891 (by rw [cL_of he217890]; exact zr_st hf217886 (by have q := x217293; rw [cL_of he217881] at q; exact q) ez217892 bg217289'.1) lv217894 (by omega)
  exact hlp2_217294 (((33 : Int) - 0).toNat + 1) F214923 0 (gB_w (gBl (show Int32.toInt 0 = 0 by decide)) (by decide) (by decide)) hT (rStr_rf (γ := γ) (W := []) (F := F214923)) (fun j hj => absurd hj (by have qa : Int32.toInt 0 = 0 := (by decide); omega)) (rLv_rf (γ := γ) (F := F214923)) (Nat.lt_succ_self _)
