abbrev ky_215171_Block_ways : gKey := (cX12_ways, 1, "SpillForgeModel$Block", (some FieldType.int), [], "ways", fun _ _ => True)
def pp_215171_Block_ways (D : va_G) (I : FieldType → ClassId) (P215157 : List Nat) (F215158 : Nat → va_E) (q215159 : Nat) (q215160 : Nat) (qo215161 : Nat) (p215162 : Int32) (p215163 : Int32) (p215164 : Int32) (p215165 : Int32) (p215166 : Int32) (p215167 : Int32) (p215168 : Int32) (p215169 : Int32) (p215170 : Int32) : Option Value → va_W → Nat → Nat → Prop := fun r w dc ds => ∃ (o215181 : Int32), r = some (.int o215181) ∧ w = va_pl P215157 F215158 ∧ dc ≤ 0 ∧ ds ≤ 0 ∧ gB o215181 0 2 ∧ ((o215181.toInt = 0 ∧ p215164.toInt = 32) ∨ (o215181.toInt = 1 ∧ p215164.toInt ≠ 32 ∧ (p215164.toInt = 30 ∨ p215162.toInt = p215163.toInt)) ∨ (o215181.toInt = 2 ∧ p215164.toInt ≠ 32 ∧ p215164.toInt ≠ 30 ∧ p215162.toInt ≠ p215163.toInt))
set_option maxRecDepth 100000 in
set_option maxHeartbeats 4000000 in
theorem cp_215171_Block_ways (l : Launch) (hl0 : l.stackTraces = false) (D : va_G) (I : FieldType → ClassId) (P215157 : List Nat) (F215158 : Nat → va_E) (q215159 : Nat) (q215160 : Nat) (qo215161 : Nat) (p215162 : Int32) (p215163 : Int32) (p215164 : Int32) (p215165 : Int32) (p215166 : Int32) (p215167 : Int32) (p215168 : Int32) (p215169 : Int32) (p215170 : Int32) (hmq215159 : q215159 ∈ P215157) (hmq215160 : q215160 ∈ P215157) (heq215159 : F215158 q215159 = .inr (17, [.ref qo215161, .ref q215160, .int p215162, .int p215163])) (heq215160 : F215158 q215160 = .inr (20, [.int p215164, .int p215165, .int p215166, .int p215167, .int p215168, .int p215169, .int p215170])) (bp215162 : gB p215162 0 39) (bp215163 : gB p215163 0 39) (bp215164 : gB p215164 0 32) (bp215165 : gB p215165 0 1999) (bp215168 : gB p215168 0 1999) (bp215169 : gB p215169 0 1) (bp215170 : gB p215170 0 1) : CtA (gV D I) l yX12_ways cX12_ways 1 (some FieldType.int) 0 0 0 0 [.ref q215159] (va_pl P215157 F215158) (pp_215171_Block_ways D I P215157 F215158 q215159 q215160 qo215161 p215162 p215163 p215164 p215165 p215166 p215167 p215168 p215169 p215170) gNA := by
  refine CtA_of hl0 (by decide) (Nat.le_of_ble_eq_true rfl) ?_
  have bp215166 := gB_any p215166
  have bp215167 := gB_any p215167
  refine G_aload_n 0 dr_cX12_ways_0 rfl ?_
  refine Gp_get 1 hmq215159 heq215159 dr_cX12_ways_1 (gk_X12 D I) (Nat.le_of_ble_eq_true rfl) wr_9_222 rfl ?_
  refine Gp_get 0 hmq215160 heq215160 dr_cX12_ways_4 (gk_X15 D I) (Nat.le_of_ble_eq_true rfl) wr_9_176 rfl ?_
  refine G_bipush 32 dr_cX12_ways_7 (by decide +kernel) ?_
  refine G_icmp_ne 16 dr_cX12_ways_9 (by decide +kernel) (fun hc215172 => ?_) (fun hc215172 => ?_)
  · have r215173 : p215164.toInt ≠ 32 := gj_neq hc215172 (show Int32.toInt 32 = 32 by decide)
    have bp215164' : gB p215164 0 31 := ⟨by omega, by omega⟩
    refine G_aload_n 0 dr_cX12_ways_16 rfl ?_
    refine Gp_get 1 hmq215159 heq215159 dr_cX12_ways_17 (gk_X12 D I) (Nat.le_of_ble_eq_true rfl) wr_9_222 rfl ?_
    refine Gp_get 0 hmq215160 heq215160 dr_cX12_ways_20 (gk_X15 D I) (Nat.le_of_ble_eq_true rfl) wr_9_176 rfl ?_
    refine G_bipush 30 dr_cX12_ways_23 (by decide +kernel) ?_
    refine G_icmp_eq 39 dr_cX12_ways_25 (by decide +kernel) (fun hc215174 => ?_) (fun hc215174 => ?_)
    · have r215175 : p215164.toInt = 30 := gj_eq hc215174 (show Int32.toInt 30 = 30 by decide)
      have bp215164'' : gB p215164 30 30 := ⟨by omega, by omega⟩
      refine G_iconst 1 dr_cX12_ways_39 (by decide +kernel) ?_
      refine G_goto 44 dr_cX12_ways_40 (by decide +kernel) ?_
      exact G_iretA dr_cX12_ways_44 rfl (Nat.le_of_ble_eq_true rfl) (Nat.le_of_ble_eq_true rfl) ⟨1, rfl, rfl, (Nat.le_of_ble_eq_true rfl), (Nat.le_of_ble_eq_true rfl), (gB_w (gBl (show Int32.toInt 1 = 1 by decide)) (by decide) (by decide)), (by have qa0 : Int32.toInt 1 = 1 := (by decide); omega)⟩
    · have r215176 : p215164.toInt ≠ 30 := gj_neq hc215174 (show Int32.toInt 30 = 30 by decide)
      refine G_aload_n 0 dr_cX12_ways_28 rfl ?_
      refine Gp_get 2 hmq215159 heq215159 dr_cX12_ways_29 (gk_X12 D I) (Nat.le_of_ble_eq_true rfl) wr_9_226 rfl ?_
      refine G_aload_n 0 dr_cX12_ways_32 rfl ?_
      refine Gp_get 3 hmq215159 heq215159 dr_cX12_ways_33 (gk_X12 D I) (Nat.le_of_ble_eq_true rfl) wr_9_230 rfl ?_
      refine G_icmp_ne 43 dr_cX12_ways_36 (by decide +kernel) (fun hc215177 => ?_) (fun hc215177 => ?_)
      · have r215178 : p215162.toInt ≠ p215163.toInt := gC_ne hc215177
        refine G_iconst 2 dr_cX12_ways_43 (by decide +kernel) ?_
        exact G_iretA dr_cX12_ways_44 rfl (Nat.le_of_ble_eq_true rfl) (Nat.le_of_ble_eq_true rfl) ⟨2, rfl, rfl, (Nat.le_of_ble_eq_true rfl), (Nat.le_of_ble_eq_true rfl), (gB_w (gBl (show Int32.toInt 2 = 2 by decide)) (by decide) (by decide)), (by have qa0 : Int32.toInt 2 = 2 := (by decide); omega)⟩
      · have r215179 : p215162.toInt = p215163.toInt := gC_eq hc215177
        refine G_iconst 1 dr_cX12_ways_39 (by decide +kernel) ?_
        refine G_goto 44 dr_cX12_ways_40 (by decide +kernel) ?_
        exact G_iretA dr_cX12_ways_44 rfl (Nat.le_of_ble_eq_true rfl) (Nat.le_of_ble_eq_true rfl) ⟨1, rfl, rfl, (Nat.le_of_ble_eq_true rfl), (Nat.le_of_ble_eq_true rfl), (gB_w (gBl (show Int32.toInt 1 = 1 by decide)) (by decide) (by decide)), (by have qa0 : Int32.toInt 1 = 1 := (by decide); omega)⟩
  · have r215180 : p215164.toInt = 32 := gj_eq hc215172 (show Int32.toInt 32 = 32 by decide)
    have bp215164' : gB p215164 32 32 := ⟨by omega, by omega⟩
    refine G_iconst 0 dr_cX12_ways_12 (by decide +kernel) ?_
    refine G_goto 44 dr_cX12_ways_13 (by decide +kernel) ?_
    exact G_iretA dr_cX12_ways_44 rfl (Nat.le_of_ble_eq_true rfl) (Nat.le_of_ble_eq_true rfl) ⟨0, rfl, rfl, (Nat.le_of_ble_eq_true rfl), (Nat.le_of_ble_eq_true rfl), (gB_w (gBl (show Int32.toInt 0 = 0 by decide)) (by decide) (by decide)), (by have qa0 : Int32.toInt 0 = 0 := (by decide); omega)⟩
abbrev ky_215305_Block_way : gKey := (cX12_way, 2, "SpillForgeModel$Block", (some FieldType.int), [], "way", fun _ _ => True)
def pp_215305_Block_way (D : va_G) (I : FieldType → ClassId) (P215290 : List Nat) (F215291 : Nat → va_E) (q215292 : Nat) (q215293 : Nat) (p215294 : Int32) (qo215295 : Nat) (p215296 : Int32) (p215297 : Int32) (p215298 : Int32) (p215299 : Int32) (p215300 : Int32) (p215301 : Int32) (p215302 : Int32) (p215303 : Int32) (p215304 : Int32) : Option Value → va_W → Nat → Nat → Prop := fun r w dc ds => ∃ (o215309 : Int32), r = some (.int o215309) ∧ w = va_pl P215290 F215291 ∧ dc ≤ 0 ∧ ds ≤ 0 ∧ gB o215309 0 39 ∧ ((p215294.toInt = 0 ∧ o215309.toInt = p215296.toInt) ∨ (p215294.toInt ≠ 0 ∧ o215309.toInt = p215297.toInt))
set_option maxRecDepth 100000 in
set_option maxHeartbeats 4000000 in
theorem cp_215305_Block_way (l : Launch) (hl0 : l.stackTraces = false) (D : va_G) (I : FieldType → ClassId) (P215290 : List Nat) (F215291 : Nat → va_E) (q215292 : Nat) (q215293 : Nat) (p215294 : Int32) (qo215295 : Nat) (p215296 : Int32) (p215297 : Int32) (p215298 : Int32) (p215299 : Int32) (p215300 : Int32) (p215301 : Int32) (p215302 : Int32) (p215303 : Int32) (p215304 : Int32) (hmq215292 : q215292 ∈ P215290) (hmq215293 : q215293 ∈ P215290) (heq215292 : F215291 q215292 = .inr (17, [.ref qo215295, .ref q215293, .int p215296, .int p215297])) (heq215293 : F215291 q215293 = .inr (20, [.int p215298, .int p215299, .int p215300, .int p215301, .int p215302, .int p215303, .int p215304])) (bp215296 : gB p215296 0 39) (bp215297 : gB p215297 0 39) (bp215298 : gB p215298 0 32) (bp215299 : gB p215299 0 1999) (bp215302 : gB p215302 0 1999) (bp215303 : gB p215303 0 1) (bp215304 : gB p215304 0 1) : CtA (gV D I) l yX12_way cX12_way 2 (some FieldType.int) 0 0 0 0 [.ref q215292, .int p215294] (va_pl P215290 F215291) (pp_215305_Block_way D I P215290 F215291 q215292 q215293 p215294 qo215295 p215296 p215297 p215298 p215299 p215300 p215301 p215302 p215303 p215304) gNA := by
  refine CtA_of hl0 (by decide) (Nat.le_of_ble_eq_true rfl) ?_
  have bp215294 := gB_any p215294
  have bp215300 := gB_any p215300
  have bp215301 := gB_any p215301
  refine G_iload_n 1 dr_cX12_way_0 rfl ?_
  refine G_if_ne 11 dr_cX12_way_1 (by decide +kernel) (fun hc215306 => ?_) (fun hc215306 => ?_)
  · have r215307 : p215294.toInt ≠ 0 := gj_neq hc215306 (show Int32.toInt 0 = 0 by decide)
    refine G_aload_n 0 dr_cX12_way_11 rfl ?_
    refine Gp_get 3 hmq215292 heq215292 dr_cX12_way_12 (gk_X12 D I) (Nat.le_of_ble_eq_true rfl) wr_9_230 rfl ?_
    exact G_iretA dr_cX12_way_15 rfl (Nat.le_of_ble_eq_true rfl) (Nat.le_of_ble_eq_true rfl) ⟨p215297, rfl, rfl, (Nat.le_of_ble_eq_true rfl), (Nat.le_of_ble_eq_true rfl), bp215297, (by omega)⟩
  · have r215308 : p215294.toInt = 0 := gj_eq hc215306 (show Int32.toInt 0 = 0 by decide)
    have bp215294' : gB p215294 0 0 := ⟨by omega, by omega⟩
    refine G_aload_n 0 dr_cX12_way_4 rfl ?_
    refine Gp_get 2 hmq215292 heq215292 dr_cX12_way_5 (gk_X12 D I) (Nat.le_of_ble_eq_true rfl) wr_9_226 rfl ?_
    refine G_goto 15 dr_cX12_way_8 (by decide +kernel) ?_
    exact G_iretA dr_cX12_way_15 rfl (Nat.le_of_ble_eq_true rfl) (Nat.le_of_ble_eq_true rfl) ⟨p215296, rfl, rfl, (Nat.le_of_ble_eq_true rfl), (Nat.le_of_ble_eq_true rfl), bp215296, (by omega)⟩
abbrev ky_214917_SpillForgeModel_behind : gKey := (cX17_behind, 4, "SpillForgeModel", none, [], "behind", fun _ _ => True)
def pt_214917_SpillForgeModel_behind (D : va_G) (I : FieldType → ClassId) (γ el : Nat → Nat → Nat) (P214913 : List Nat) (F214914 : Nat → va_E) (q214915 : Nat) (q214916 : Nat) : Option Value → va_W → Nat → Nat → Prop := fun r w dc ds => ∃ (F217886 : Nat → va_E), r = none ∧ w = va_pl P214913 F217886 ∧ RS D I P214913 F217886 γ el ∧ rStr γ [] F214914 F217886 ∧ dc ≤ 0 ∧ ds ≤ 0 ∧ (∀ k : Nat, k < 2048 → rbt (cL (F217886 (γ 9 2))) k = bhV (fI (F214914 (γ 15 q214916)) 0).toInt (fI (F214914 q214916) 2).toInt (fI (F214914 q214916) 3).toInt (lvS γ F214914) k) ∧ rLv γ F214914 F217886
set_option maxRecDepth 100000 in
set_option maxHeartbeats 4000000 in
theorem ct_214917_SpillForgeModel_behind (l : Launch) (hl0 : l.stackTraces = false) (D : va_G) (I : FieldType → ClassId) (γ el : Nat → Nat → Nat) (P214913 : List Nat) (F214914 : Nat → va_E) (q214915 : Nat) (q214916 : Nat) (hT : RS D I P214913 F214914 γ el) (htq214915 : rKd γ q214915 10) (htq214916 : rKd γ q214916 2) : CtA (gV D I) l yX17_behind cX17_behind 4 none 1 21 0 0 [.ref q214915, .ref q214916] (va_pl P214913 F214914) (pt_214917_SpillForgeModel_behind D I γ el P214913 F214914 q214915 q214916) gNA := by
  refine CtA_of hl0 (by decide) (Nat.le_of_ble_eq_true rfl) ?_
  have hm214918 : q214915 ∈ P214913 := RS_m hT htq214915 (by decide)
  obtain ⟨q214920, q214921, p214922, p214923, p214924, p214925, p214926, p214927, p214928, p214929, p214930, p214931, p214932, p214933, p214934, p214935, p214936, he214919, hB214963, ht214937, ht214938, ht214939, ht214940, ht214941, ht214942, ht214943, ht214944, ht214945, ht214946, ht214947, ht214948, ht214949, ht214950, ht214951, ht214952, ht214953, ht214954, ht214955, ht214956, ht214957, ht214958, ht214959, ht214960, hB214964⟩ := show rk_10 γ (F214914 q214915) from RS_o hT htq214915
  have hm214965 : (γ 9 2) ∈ P214913 := RS_m hT ht214941 (by decide)
  obtain ⟨f214967, he214966, wf214967⟩ := show rk_35 I (F214914 (γ 9 2)) from RS_o hT ht214941
  have hm214968 : q214916 ∈ P214913 := RS_m hT htq214916 (by decide)
  obtain ⟨q214970, q214971, p214972, p214973, he214969, ht214980, ht214974, ht214975, ht214976, ht214977, ht214978, bp214972, bp214973, r214979, r214981, r214982⟩ := show rk_2 γ q214916 (F214914 q214916) from RS_o hT htq214916
  have hm214983 : q214971 ∈ P214913 := RS_m hT ht214976 (by decide)
  obtain ⟨p214985, p214986, p214987, p214988, p214989, p214990, p214991, he214984, bp214985, bp214986, bp214989, bp214990, bp214991, r214992, r214993, r214994, r214995⟩ := show rk_1 γ q214971 (F214914 q214971) from RS_o hT ht214976
  have bp214987 := gB_any p214987
  have bp214988 := gB_any p214988
  have fe1 : (fI (F214914 q214916) 2).toInt = p214972.toInt := by rw [he214969]; rfl
  have fe2 : (fI (F214914 q214916) 3).toInt = p214973.toInt := by rw [he214969]; rfl
  have fe3 : (fI (F214914 (γ 15 q214916)) 0).toInt = p214985.toInt := by rw [ht214980.2.1, he214984]; rfl
  refine G_iconst 0 dr_cX17_behind_0 (by decide +kernel) ?_
  refine G_istore_n (L' := [(2, .int 0), (0, .ref q214915), (1, .ref q214916)]) dr_cX17_behind_1 (Nat.le_of_ble_eq_true rfl) rfl ?_
  have hlp2_217285 : ∀ (n2_217285 : Nat) (F217281 : Nat → va_E) (g217280 : Int32), gB g217280 0 32 → RS D I P214913 F217281 γ el → rStr γ [] F214914 F217281 → (∀ j : Nat, (j : Int) < g217280.toInt → cL (F217281 (γ 9 2)) j = 0) → rLv γ F214914 F217281 → ((33 : Int) - g217280.toInt).toNat < n2_217285 → G (gV D I) l (gRm 1 21 0 0) (gMA (gV D I) (pt_214917_SpillForgeModel_behind D I γ el P214913 F214914 q214915 q214916) gNA 0 0) ky_214917_SpillForgeModel_behind 2 [(2, .int g217280), (0, .ref q214915), (1, .ref q214916)] [] (va_pl P214913 F217281) 0 0 := by
    intro n2_217285
    induction n2_217285 with
    | zero => intro F217281 g217280 bg217280 hT217282 hs217283 x217284 x217285 hm2_217285; exact absurd hm2_217285 (Nat.not_lt_zero _)
    | succ n2_217285 ih2_217285 =>
      intro F217281 g217280 bg217280 hT217282 hs217283 x217284 x217285 hm2_217285
      have hs217287 : rStr γ [] F214914 F217281 := fun b h0 hb hw => (hs217283 b h0 hb hw).trans ((rStr_rf (γ := γ) (W := []) (F := F214914)) b h0 hb hw).symm
      have he217288 : F217281 q214916 = .inr (17, [.ref q214970, .ref q214971, .int p214972, .int p214973]) := (hs217287 q214916 (rT0 htq214916 (by decide)) (rT1 htq214916 (by decide)) (rT2 htq214916 (by decide))).trans he214969
      have he217289 : F217281 q214971 = .inr (20, [.int p214985, .int p214986, .int p214987, .int p214988, .int p214989, .int p214990, .int p214991]) := (hs217287 q214971 (rT0 ht214976 (by decide)) (rT1 ht214976 (by decide)) (rT2 ht214976 (by decide))).trans he214984
      have hs217290 : rStr γ [] F214914 F217281 := rStr_tr (rStr_rf (γ := γ) (W := []) (F := F214914)) hs217287
      refine G_iload_n 0 dr_cX17_behind_2 rfl ?_
      refine G_bipush 32 dr_cX17_behind_3 (by decide +kernel) ?_
      refine G_icmp_ge 21 dr_cX17_behind_5 (by decide +kernel) (fun hc217291 => ?_) (fun hc217291 => ?_)
      · have r217292 : 32 ≤ g217280.toInt := gj_leL hc217291 (show Int32.toInt 32 = 32 by decide)
        have bg217280' : gB g217280 32 32 := ⟨by omega, by omega⟩
        refine G_iconst 0 dr_cX17_behind_21 (by decide +kernel) ?_
        refine G_istore_n (L' := [(2, .int 0), (0, .ref q214915), (1, .ref q214916)]) dr_cX17_behind_22 (Nat.le_of_ble_eq_true rfl) rfl ?_
        have hlp23_217562 : ∀ (n23_217562 : Nat) (F217557 : Nat → va_E) (g217556 : Int32), gB g217556 0 2 → RS D I P214913 F217557 γ el → rStr γ [] F214914 F217557 → (∀ k : Nat, k < 2048 → rbt (cL (F217557 (γ 9 2))) k = wyV g217556.toInt (fI (F214914 q214916) 2).toInt (fI (F214914 q214916) 3).toInt (lvS γ F214914) k) → rLv γ F214914 F217557 → (g217556.toInt = 0 ∨ ((fI (F214914 (γ 15 q214916)) 0).toInt ≠ 32 ∧ (g217556.toInt = 1 ∨ (g217556.toInt = 2 ∧ (fI (F214914 (γ 15 q214916)) 0).toInt ≠ 30 ∧ (fI (F214914 q214916) 2).toInt ≠ (fI (F214914 q214916) 3).toInt)))) → ((3 : Int) - g217556.toInt).toNat < n23_217562 → G (gV D I) l (gRm 1 21 0 0) (gMA (gV D I) (pt_214917_SpillForgeModel_behind D I γ el P214913 F214914 q214915 q214916) gNA 0 0) ky_214917_SpillForgeModel_behind 23 [(2, .int g217556), (0, .ref q214915), (1, .ref q214916)] [] (va_pl P214913 F217557) 0 0 := by
          intro n23_217562
          induction n23_217562 with
          | zero => intro F217557 g217556 bg217556 hT217558 hs217559 x217560 x217561 x217562 hm23_217562; exact absurd hm23_217562 (Nat.not_lt_zero _)
          | succ n23_217562 ih23_217562 =>
            intro F217557 g217556 bg217556 hT217558 hs217559 x217560 x217561 x217562 hm23_217562
            have hs217564 : rStr γ [] F217281 F217557 := fun b h0 hb hw => (hs217559 b h0 hb hw).trans (hs217283 b h0 hb hw).symm
            have he217565 : F217557 q214916 = .inr (17, [.ref q214970, .ref q214971, .int p214972, .int p214973]) := (hs217564 q214916 (rT0 htq214916 (by decide)) (rT1 htq214916 (by decide)) (rT2 htq214916 (by decide))).trans he217288
            have he217566 : F217557 q214971 = .inr (20, [.int p214985, .int p214986, .int p214987, .int p214988, .int p214989, .int p214990, .int p214991]) := (hs217564 q214971 (rT0 ht214976 (by decide)) (rT1 ht214976 (by decide)) (rT2 ht214976 (by decide))).trans he217289
            have hs217567 : rStr γ [] F214914 F217557 := rStr_tr hs217283 hs217564
            refine G_iload_n 0 dr_cX17_behind_23 rfl ?_
            refine G_aload_n 2 dr_cX17_behind_24 rfl ?_
            refine Gw_callV (As := []) (gV_ok D I) (cp_215171_Block_ways l hl0 D I P214913 F217557 q214916 q214971 q214970 p214972 p214973 p214985 p214986 p214987 p214988 p214989 p214990 p214991 hm214968 hm214983 he217565 he217566 bp214972 bp214973 bp214985 bp214986 bp214989 bp214990 bp214991) dr_cX17_behind_25 ⟨wr_10_166, wr_1_38, wr_10_169, by decide, rfl, (Nat.le_of_ble_eq_true rfl), (Nat.le_of_ble_eq_true rfl)⟩ wr_10_167 wr_10_168 hm214968 he217565 rfl (show 0 + 0 ≤ 0 by first | omega | decide) (show 0 + 0 ≤ 0 by first | omega | decide) (Nat.le_of_ble_eq_true rfl) (fun r217571 w217572 dc217568 ds217569 hp217570 => ?_) (fun _ _ _ _ _ z => z.elim)
            obtain ⟨o217573, rfl, rfl, hdc, hds, bo217573, x217574⟩ := hp217570
            change G _ _ _ _ _ _ _ (.int o217573 :: _) _ _ _
            refine G_widen (cs' := 0) (sl' := 0) (by omega) (by omega) ?_
            refine G_icmp_ge 72 dr_cX17_behind_28 (by decide +kernel) (fun hc217575 => ?_) (fun hc217575 => ?_)
            · have r217576 : o217573.toInt ≤ g217556.toInt := gC_le hc217575
              have hm217577 : q214915 ∈ P214913 := RS_m hT217558 htq214915 (by decide)
              obtain ⟨q217579, q217580, p217581, p217582, p217583, p217584, p217585, p217586, p217587, p217588, p217589, p217590, p217591, p217592, p217593, p217594, p217595, he217578, hB217622, ht217596, ht217597, ht217598, ht217599, ht217600, ht217601, ht217602, ht217603, ht217604, ht217605, ht217606, ht217607, ht217608, ht217609, ht217610, ht217611, ht217612, ht217613, ht217614, ht217615, ht217616, ht217617, ht217618, ht217619, hB217623⟩ := show rk_10 γ (F217557 q214915) from RS_o hT217558 htq214915
              exact G_vretA dr_cX17_behind_72 rfl (Nat.le_of_ble_eq_true rfl) (Nat.le_of_ble_eq_true rfl) ⟨F217557, rfl, rfl, hT217558, hs217559, (Nat.le_of_ble_eq_true rfl), (Nat.le_of_ble_eq_true rfl), (fun k hk => (x217560 k hk).trans (bh_of (by omega))), x217561⟩
            · have r217624 : g217556.toInt < o217573.toInt := gC_nle hc217575
              have bg217556' : gB g217556 0 1 := ⟨by omega, by omega⟩
              have bo217573' : gB o217573 1 2 := ⟨by omega, by omega⟩
              refine G_iconst 0 dr_cX17_behind_31 (by decide +kernel) ?_
              refine G_istore_n (L' := [(3, .int 0), (2, .int g217556), (0, .ref q214915), (1, .ref q214916)]) dr_cX17_behind_32 (Nat.le_of_ble_eq_true rfl) rfl ?_
              have hlp33_217728 : ∀ (n33_217728 : Nat) (F217723 : Nat → va_E) (g217722 : Int32), gB g217722 0 32 → RS D I P214913 F217723 γ el → rStr γ [] F214914 F217723 → (∀ k : Nat, k < 2048 → rbt (cL (F217723 (γ 9 2))) k = if (k : Int) < 64 * g217722.toInt then wyV (g217556.toInt + 1) (fI (F214914 q214916) 2).toInt (fI (F214914 q214916) 3).toInt (lvS γ F214914) k else wyV g217556.toInt (fI (F214914 q214916) 2).toInt (fI (F214914 q214916) 3).toInt (lvS γ F214914) k) → rLv γ F214914 F217723 → ((g217556.toInt = 0 ∧ (fI (F214914 (γ 15 q214916)) 0).toInt ≠ 32) ∨ (g217556.toInt = 1 ∧ (fI (F214914 (γ 15 q214916)) 0).toInt ≠ 32 ∧ (fI (F214914 (γ 15 q214916)) 0).toInt ≠ 30 ∧ (fI (F214914 q214916) 2).toInt ≠ (fI (F214914 q214916) 3).toInt)) → ((33 : Int) - g217722.toInt).toNat < n33_217728 → G (gV D I) l (gRm 1 21 0 0) (gMA (gV D I) (pt_214917_SpillForgeModel_behind D I γ el P214913 F214914 q214915 q214916) gNA 0 0) ky_214917_SpillForgeModel_behind 33 [(3, .int g217722), (2, .int g217556), (0, .ref q214915), (1, .ref q214916)] [] (va_pl P214913 F217723) 0 0 := by
                intro n33_217728
                induction n33_217728 with
                | zero => intro F217723 g217722 bg217722 hT217724 hs217725 x217726 x217727 x217728 hm33_217728; exact absurd hm33_217728 (Nat.not_lt_zero _)
                | succ n33_217728 ih33_217728 =>
                  intro F217723 g217722 bg217722 hT217724 hs217725 x217726 x217727 x217728 hm33_217728
                  have hs217730 : rStr γ [] F217557 F217723 := fun b h0 hb hw => (hs217725 b h0 hb hw).trans (hs217559 b h0 hb hw).symm
                  have he217731 : F217723 q214916 = .inr (17, [.ref q214970, .ref q214971, .int p214972, .int p214973]) := (hs217730 q214916 (rT0 htq214916 (by decide)) (rT1 htq214916 (by decide)) (rT2 htq214916 (by decide))).trans he217565
                  have he217732 : F217723 q214971 = .inr (20, [.int p214985, .int p214986, .int p214987, .int p214988, .int p214989, .int p214990, .int p214991]) := (hs217730 q214971 (rT0 ht214976 (by decide)) (rT1 ht214976 (by decide)) (rT2 ht214976 (by decide))).trans he217566
                  have hs217733 : rStr γ [] F214914 F217723 := rStr_tr hs217559 hs217730
                  refine G_iload_n 0 dr_cX17_behind_33 rfl ?_
                  refine G_bipush 32 dr_cX17_behind_34 (by decide +kernel) ?_
                  refine G_icmp_ge 66 dr_cX17_behind_36 (by decide +kernel) (fun hc217734 => ?_) (fun hc217734 => ?_)
                  · have r217735 : 32 ≤ g217722.toInt := gj_leL hc217734 (show Int32.toInt 32 = 32 by decide)
                    have bg217722' : gB g217722 32 32 := ⟨by omega, by omega⟩
                    obtain ⟨z217736, hz217736⟩ : ∃ z : Int32, z = g217556 + Int32.ofInt 1 := ⟨_, rfl⟩
                    have ez217736 : z217736.toInt = g217556.toInt + 1 := gI_inc hz217736 (by decide) bg217556' (by decide) (by decide)
                    have bz217736 : gB z217736 1 2 := ⟨by omega, by omega⟩
                    refine G_iinc (L' := [(2, .int z217736), (3, .int g217722), (0, .ref q214915), (1, .ref q214916)]) z217736 1 dr_cX17_behind_66 rfl hz217736.symm (Nat.le_of_ble_eq_true rfl) rfl ?_
                    refine G_goto 23 dr_cX17_behind_69 (by decide +kernel) ?_
                    refine G_lv (L' := [(2, .int z217736), (0, .ref q214915), (1, .ref q214916)]) [0, 2, 3] rfl ?_
                    exact ih23_217562 F217723 z217736 (gB_w bz217736 (by decide) (by decide)) hT217724 hs217725 (fun k hk => by have q := x217726 k hk; rw [if_pos (by omega)] at q; rw [ez217736]; exact q) x217727 (by rw [show fI (F214914 q214916) 2 = p214972 from by rw [he214969]; rfl, show fI (F214914 q214916) 3 = p214973 from by rw [he214969]; rfl] <;> (omega)) (by omega)
                  · have r217737 : g217722.toInt < 32 := gj_nleL hc217734 (show Int32.toInt 32 = 32 by decide)
                    have bg217722' : gB g217722 0 31 := ⟨by omega, by omega⟩
                    refine G_aload_n 2 dr_cX17_behind_39 rfl ?_
                    have hm217738 : q214915 ∈ P214913 := RS_m hT217724 htq214915 (by decide)
                    obtain ⟨q217740, q217741, p217742, p217743, p217744, p217745, p217746, p217747, p217748, p217749, p217750, p217751, p217752, p217753, p217754, p217755, p217756, he217739, hB217783, ht217757, ht217758, ht217759, ht217760, ht217761, ht217762, ht217763, ht217764, ht217765, ht217766, ht217767, ht217768, ht217769, ht217770, ht217771, ht217772, ht217773, ht217774, ht217775, ht217776, ht217777, ht217778, ht217779, ht217780, hB217784⟩ := show rk_10 γ (F217723 q214915) from RS_o hT217724 htq214915
                    refine Gp_get 2 hm217738 he217739 dr_cX17_behind_40 (gk_X17 D I) (Nat.le_of_ble_eq_true rfl) wr_7_76 rfl ?_
                    refine G_iload_n 0 dr_cX17_behind_43 rfl ?_
                    refine G_dup2_11 dr_cX17_behind_44 rfl rfl ?_
                    have hm217785 : (γ 9 2) ∈ P214913 := RS_m hT217724 ht217761 (by decide)
                    obtain ⟨f217787, he217786, wf217787⟩ := show rk_35 I (F217723 (γ 9 2)) from RS_o hT217724 ht217761
                    refine Gp_lald 2 hm217785 he217786 dr_cX17_behind_45 rfl (gB_in bg217722' (by decide) (by decide)) (G_namL fun u217788 hu217788 => ?_)
                    have qu217788 : lb_Q u217788 (2000 - 64 * g217722.toInt) := lb_Wld hu217788 wf217787 (by omega) (by omega) (lb_Mod0 (by omega) (by omega))
                    refine G_aload_n 2 dr_cX17_behind_46 rfl ?_
                    refine Gp_get 0 hm217738 he217739 dr_cX17_behind_47 (gk_X17 D I) (Nat.le_of_ble_eq_true rfl) wr_7_74 rfl ?_
                    refine G_aload_n 3 dr_cX17_behind_50 rfl ?_
                    refine G_iload_n 1 dr_cX17_behind_51 rfl ?_
                    refine Gw_callV (As := [.int g217556]) (gV_ok D I) (cp_215305_Block_way l hl0 D I P214913 F217723 q214916 q214971 g217556 q214970 p214972 p214973 p214985 p214986 p214987 p214988 p214989 p214990 p214991 hm214968 hm214983 he217731 he217732 bp214972 bp214973 bp214985 bp214986 bp214989 bp214990 bp214991) dr_cX17_behind_52 ⟨wr_10_170, wr_1_38, wr_10_173, by decide, rfl, (Nat.le_of_ble_eq_true rfl), (Nat.le_of_ble_eq_true rfl)⟩ wr_10_171 wr_10_172 hm214968 he217731 rfl (show 0 + 0 ≤ 0 by first | omega | decide) (show 0 + 0 ≤ 0 by first | omega | decide) (Nat.le_of_ble_eq_true rfl) (fun r217792 w217793 dc217789 ds217790 hp217791 => ?_) (fun _ _ _ _ _ z => z.elim)
                    obtain ⟨o217794, rfl, rfl, hdc, hds, bo217794, x217795⟩ := hp217791
                    change G _ _ _ _ _ _ _ (.int o217794 :: _) _ _ _
                    refine G_widen (cs' := 0) (sl' := 0) (by omega) (by omega) ?_
                    have hm217796 : (γ 9 0) ∈ P214913 := RS_m hT217724 ht217759 (by decide)
                    obtain ⟨f217798, he217797, hg217799⟩ := show rk_12 I γ (F217723 (γ 9 0)) from RS_o hT217724 ht217759
                    obtain ⟨q217800, hx217802⟩ : ∃ x, x = γ 10 o217794.toInt.toNat := ⟨_, rfl⟩
                    have ht217801 : rKd γ q217800 11 := by rw [hx217802]; exact (hg217799 _ (show o217794.toInt.toNat < 40 by omega)).2.1
                    refine Gp_aald 5 hm217796 he217797 dr_cX17_behind_55 rfl rfl (gB_in bo217794 (by decide) (by decide)) ?_
                    rw [show f217798 o217794.toNatClampNeg = some q217800 from (hg217799 _ (show o217794.toInt.toNat < 40 by omega)).1.trans (by rw [hx217802])]
                    change G _ _ _ _ _ _ _ (.ref q217800 :: _) _ _ _
                    refine G_iload_n 0 dr_cX17_behind_56 rfl ?_
                    have hm217803 : q217800 ∈ P214913 := RS_m hT217724 ht217801 (by decide)
                    obtain ⟨f217805, he217804, wf217805⟩ := show rk_11 I (F217723 q217800) from RS_o hT217724 ht217801
                    refine Gp_lald 2 hm217803 he217804 dr_cX17_behind_57 rfl (gB_in bg217722' (by decide) (by decide)) (G_namL fun u217806 hu217806 => ?_)
                    have qu217806 : lb_Q u217806 (2000 - 64 * g217722.toInt) := lb_Wld hu217806 wf217805 (by omega) (by omega) (lb_Mod0 (by omega) (by omega))
                    have hg217807 : ∀ k : Nat, lvS γ F214914 o217794.toInt.toNat k = rbt f217805 k := fun k => by unfold lvS; rw [← x217727 _ (show o217794.toInt.toNat < 40 by omega), ← hx217802, cL_of he217804]
                    refine G_lor dr_cX17_behind_58 (G_namL fun u217808 hu217808 => ?_)
                    have qu217808 : lb_Q u217808 (2000 - 64 * g217722.toInt) := lb_Qor hu217808 qu217788 qu217806
                    refine Gp_last 2 hm217785 he217786 dr_cX17_behind_59 rfl (gB_in bg217722' (by decide) (by decide)) (fun F217809 e217810 n217811 => ?_)
                    obtain ⟨f217812, hf217812⟩ : ∃ z, z = vp_updL f217787 g217722.toNatClampNeg u217808 := ⟨_, rfl⟩
                    rw [← hf217812] at e217810
                    have he217813 : F217809 q214916 = .inr (17, [.ref q214970, .ref q214971, .int p214972, .int p214973]) := (n217811 q214916 (rn_oa he217731 he217786)).trans he217731
                    have he217814 : F217809 q214971 = .inr (20, [.int p214985, .int p214986, .int p214987, .int p214988, .int p214989, .int p214990, .int p214991]) := (n217811 q214971 (rn_oa he217732 he217786)).trans he217732
                    have he217815 : F217809 q214915 = .inr (22, [.ref (γ 9 0), .ref (γ 9 1), .ref (γ 9 2), .ref (γ 9 3), .ref (γ 9 4), .ref (γ 9 5), .ref (γ 9 6), .ref (γ 9 7), .ref (γ 9 8), .int p217742, .int p217743, .int p217744, .int p217745, .int p217746, .int p217747, .ref (γ 9 15), .ref (γ 9 16), .ref (γ 9 17), .ref (γ 9 18), .ref (γ 9 19), .ref (γ 9 20), .ref (γ 9 21), .ref (γ 9 22), .int p217748, .int p217749, .int p217750, .int p217751, .int p217752, .ref q217740, .ref (γ 9 29), .int p217753, .ref (γ 9 31), .int p217754, .int p217755, .int p217756, .ref q217741]) := (n217811 q214915 (rn_oa he217739 he217786)).trans he217739
                    have he217816 : F217809 (γ 9 0) = .inl (I (.array .long), 40, .inr (.inr (.inr (.inr f217798)))) := (n217811 (γ 9 0) (rn_ref_long he217797 he217786)).trans he217797
                    have he217817 : F217809 q217800 = .inl (I .long, 32, .inr (.inl f217805)) := (n217811 q217800 (rn_ty ht217801 ht217761 (by decide))).trans he217804
                    have he217818 : F217809 (γ 9 2) = .inl (I .long, 32, .inr (.inl f217812)) := e217810
                    have hs217819 : rStr γ [] F214914 F217809 := rStr_put hs217725 n217811 ht217761 (by decide)
                    have wf217812 : lb_W f217812 (32) (32) (2000) := lb_Wst hf217812 wf217787 (by omega) (lb_Mod0 (by omega) (by omega)) qu217808
                    obtain ⟨z217820, hz217820⟩ : ∃ z : Int32, z = g217722 + Int32.ofInt 1 := ⟨_, rfl⟩
                    have ez217820 : z217820.toInt = g217722.toInt + 1 := gI_inc hz217820 (by decide) bg217722' (by decide) (by decide)
                    have bz217820 : gB z217820 1 32 := ⟨by omega, by omega⟩
                    refine G_iinc (L' := [(3, .int z217820), (2, .int g217556), (0, .ref q214915), (1, .ref q214916)]) z217820 0 dr_cX17_behind_60 rfl hz217820.symm (Nat.le_of_ble_eq_true rfl) rfl ?_
                    refine G_goto 33 dr_cX17_behind_63 (by decide +kernel) ?_
                    have hT217821 : RS D I P214913 F217809 γ el := RS_set hT217724 n217811 ht217761 (by decide) ⟨f217812, he217818, wf217812⟩
                    have lv217822 : rLv γ F214914 F217809 := rLv_put hT217724 ht217759 x217727 n217811 ht217761 (by decide)
                    exact ih33_217728 F217809 z217820 (gB_w bz217820 (by decide) (by decide)) hT217821 hs217819 (by rw [cL_of he217818]; exact or_st hu217788 hu217806 (by assumption) hf217812 bg217722'.1 ez217820 (by have q := x217726; rw [cL_of he217786] at q; exact q) (fun k => (wy_s (y := o217794.toInt) (by omega)).trans (by rw [hg217807 k]))) lv217822 (by rw [show fI (F214914 q214916) 2 = p214972 from by rw [he214969]; rfl, show fI (F214914 q214916) 3 = p214973 from by rw [he214969]; rfl] <;> (omega)) (by omega)
              exact hlp33_217728 (((33 : Int) - 0).toNat + 1) F217557 0 (gB_w (gBl (show Int32.toInt 0 = 0 by decide)) (by decide) (by decide)) hT217558 hs217559 (fun k hk => by rw [if_neg (by have qa : Int32.toInt 0 = 0 := (by decide); omega)]; exact x217560 k hk) x217561 (by rw [show fI (F214914 q214916) 2 = p214972 from by rw [he214969]; rfl, show fI (F214914 q214916) 3 = p214973 from by rw [he214969]; rfl] <;> (omega)) (Nat.lt_succ_self _)
        exact hlp23_217562 (((3 : Int) - 0).toNat + 1) F217281 0 (gB_w (gBl (show Int32.toInt 0 = 0 by decide)) (by decide) (by decide)) hT217282 hs217283 (fun k hk => (rbt_z (x217284 _ (by omega))).trans wy_0.symm) x217285 (Or.inl (by decide)) (Nat.lt_succ_self _)
      · have r217823 : g217280.toInt < 32 := gj_nleL hc217291 (show Int32.toInt 32 = 32 by decide)
        have bg217280' : gB g217280 0 31 := ⟨by omega, by omega⟩
        refine G_aload_n 1 dr_cX17_behind_8 rfl ?_
        have hm217824 : q214915 ∈ P214913 := RS_m hT217282 htq214915 (by decide)
        obtain ⟨q217826, q217827, p217828, p217829, p217830, p217831, p217832, p217833, p217834, p217835, p217836, p217837, p217838, p217839, p217840, p217841, p217842, he217825, hB217869, ht217843, ht217844, ht217845, ht217846, ht217847, ht217848, ht217849, ht217850, ht217851, ht217852, ht217853, ht217854, ht217855, ht217856, ht217857, ht217858, ht217859, ht217860, ht217861, ht217862, ht217863, ht217864, ht217865, ht217866, hB217870⟩ := show rk_10 γ (F217281 q214915) from RS_o hT217282 htq214915
        refine Gp_get 2 hm217824 he217825 dr_cX17_behind_9 (gk_X17 D I) (Nat.le_of_ble_eq_true rfl) wr_7_76 rfl ?_
        refine G_iload_n 0 dr_cX17_behind_12 rfl ?_
        refine G_lconst 0 dr_cX17_behind_13 rfl ?_
        have hm217871 : (γ 9 2) ∈ P214913 := RS_m hT217282 ht217847 (by decide)
        obtain ⟨f217873, he217872, wf217873⟩ := show rk_35 I (F217281 (γ 9 2)) from RS_o hT217282 ht217847
        refine Gp_last 2 hm217871 he217872 dr_cX17_behind_14 rfl (gB_in bg217280' (by decide) (by decide)) (fun F217874 e217875 n217876 => ?_)
        obtain ⟨f217877, hf217877⟩ : ∃ z, z = vp_updL f217873 g217280.toNatClampNeg 0 := ⟨_, rfl⟩
        rw [← hf217877] at e217875
        have he217878 : F217874 q214916 = .inr (17, [.ref q214970, .ref q214971, .int p214972, .int p214973]) := (n217876 q214916 (rn_oa he217288 he217872)).trans he217288
        have he217879 : F217874 q214971 = .inr (20, [.int p214985, .int p214986, .int p214987, .int p214988, .int p214989, .int p214990, .int p214991]) := (n217876 q214971 (rn_oa he217289 he217872)).trans he217289
        have he217880 : F217874 q214915 = .inr (22, [.ref (γ 9 0), .ref (γ 9 1), .ref (γ 9 2), .ref (γ 9 3), .ref (γ 9 4), .ref (γ 9 5), .ref (γ 9 6), .ref (γ 9 7), .ref (γ 9 8), .int p217828, .int p217829, .int p217830, .int p217831, .int p217832, .int p217833, .ref (γ 9 15), .ref (γ 9 16), .ref (γ 9 17), .ref (γ 9 18), .ref (γ 9 19), .ref (γ 9 20), .ref (γ 9 21), .ref (γ 9 22), .int p217834, .int p217835, .int p217836, .int p217837, .int p217838, .ref q217826, .ref (γ 9 29), .int p217839, .ref (γ 9 31), .int p217840, .int p217841, .int p217842, .ref q217827]) := (n217876 q214915 (rn_oa he217825 he217872)).trans he217825
        have he217881 : F217874 (γ 9 2) = .inl (I .long, 32, .inr (.inl f217877)) := e217875
        have hs217882 : rStr γ [] F214914 F217874 := rStr_put hs217283 n217876 ht217847 (by decide)
        have wf217877 : lb_W f217877 (32) (32) (2000) := lb_Wst hf217877 wf217873 (by omega) (lb_Mod0 (by omega) (by omega)) lb_Q0
        obtain ⟨z217883, hz217883⟩ : ∃ z : Int32, z = g217280 + Int32.ofInt 1 := ⟨_, rfl⟩
        have ez217883 : z217883.toInt = g217280.toInt + 1 := gI_inc hz217883 (by decide) bg217280' (by decide) (by decide)
        have bz217883 : gB z217883 1 32 := ⟨by omega, by omega⟩
        refine G_iinc (L' := [(2, .int z217883), (0, .ref q214915), (1, .ref q214916)]) z217883 0 dr_cX17_behind_15 rfl hz217883.symm (Nat.le_of_ble_eq_true rfl) rfl ?_
        refine G_goto 2 dr_cX17_behind_18 (by decide +kernel) ?_
        have hT217884 : RS D I P214913 F217874 γ el := RS_set hT217282 n217876 ht217847 (by decide) ⟨f217877, he217881, wf217877⟩
        have lv217885 : rLv γ F214914 F217874 := rLv_put hT217282 ht217845 x217285 n217876 ht217847 (by decide)
        exact ih2_217285 F217874 z217883 (gB_w bz217883 (by decide) (by decide)) hT217884 hs217882 (by rw [cL_of he217881]; exact zr_st hf217877 (by have q := x217284; rw [cL_of he217872] at q; exact q) ez217883 bg217280'.1) lv217885 (by omega)
  exact hlp2_217285 (((33 : Int) - 0).toNat + 1) F214914 0 (gB_w (gBl (show Int32.toInt 0 = 0 by decide)) (by decide) (by decide)) hT (rStr_rf (γ := γ) (W := []) (F := F214914)) (fun j hj => absurd hj (by have qa : Int32.toInt 0 = 0 := (by decide); omega)) (rLv_rf (γ := γ) (F := F214914)) (Nat.lt_succ_self _)
