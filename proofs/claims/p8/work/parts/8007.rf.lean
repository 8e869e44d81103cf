abbrev ky_580160_SpillForgeModel_end : gKey := (cX17_end, 2, "SpillForgeModel", (some FieldType.int), [], "end", fun _ _ => True)
def pt_580160_SpillForgeModel_end (D : va_G) (I : FieldType → ClassId) (γ el : Nat → Nat → Nat) (P580156 : List Nat) (F580157 : Nat → va_E) (q580158 : Nat) (p580159 : Int32) : Option Value → va_W → Nat → Nat → Prop := fun r w dc ds => ∃ (F580381 : Nat → va_E) (o580380 : Int32), r = some (.int o580380) ∧ w = va_pl P580156 F580381 ∧ RS D I P580156 F580381 γ el ∧ rStr γ [] F580157 F580381 ∧ dc ≤ 0 ∧ ds ≤ 0 ∧ gB o580380 0 8192 ∧ ((0 ≤ p580159.toInt ∧ p580159.toInt ≤ (fI (F580157 q580158) 32).toInt ∧ o580380.toInt = p580159.toInt ∧ (fI (F580381 q580158) 32).toInt = p580159.toInt ∧ (fI (F580381 q580158) 30).toInt = 0) ∨ ((p580159.toInt < 0 ∨ (fI (F580157 q580158) 32).toInt < p580159.toInt) ∧ (fI (F580381 q580158) 30).toInt = 1 ∧ (fI (F580381 q580158) 32).toInt = (fI (F580157 q580158) 32).toInt)) ∧ (fI (F580381 q580158) 9).toInt = (fI (F580157 q580158) 9).toInt ∧ (fI (F580381 q580158) 10).toInt = (fI (F580157 q580158) 10).toInt
set_option maxRecDepth 100000 in
set_option maxHeartbeats 4000000 in
theorem ct_580160_SpillForgeModel_end (l : Launch) (hl0 : l.stackTraces = false) (D : va_G) (I : FieldType → ClassId) (γ el : Nat → Nat → Nat) (P580156 : List Nat) (F580157 : Nat → va_E) (q580158 : Nat) (p580159 : Int32) (hT : RS D I P580156 F580157 γ el) (htq580158 : rKd γ q580158 10) : CtA (gV D I) l yX17_end cX17_end 2 (some FieldType.int) 1 21 0 0 [.ref q580158, .int p580159] (va_pl P580156 F580157) (pt_580160_SpillForgeModel_end D I γ el P580156 F580157 q580158 p580159) gNA := by
  refine CtA_of hl0 (by decide) (Nat.le_of_ble_eq_true rfl) ?_
  have bp580159 := gB_any p580159
  have hm580161 : q580158 ∈ P580156 := RS_m hT htq580158 (by decide)
  refine rk10_e (show rk_10 γ (F580157 q580158) from RS_o hT htq580158) (fun q580163 q580164 p580165 p580166 p580167 p580168 p580169 p580170 p580171 p580172 p580173 p580174 p580175 p580176 p580177 p580178 p580179 he580162 hB580206 ht580180 ht580181 ht580182 ht580183 ht580184 ht580185 ht580186 ht580187 ht580188 ht580189 ht580190 ht580191 ht580192 ht580193 ht580194 ht580195 ht580196 ht580197 ht580198 ht580199 ht580200 ht580201 ht580202 ht580203 hB580207 => ?_)
  have ac580208 : (fI (F580157 q580158) 9).toInt = p580165.toInt := by rw [he580162]; rfl
  have bp580165 : gB p580165 0 1 := (hB580206.1)
  have ac580209 : (fI (F580157 q580158) 10).toInt = p580166.toInt := by rw [he580162]; rfl
  have bp580166 : gB p580166 0 1 := (hB580206.2.1)
  have ac580210 : (fI (F580157 q580158) 32).toInt = p580177.toInt := by rw [he580162]; rfl
  have bp580177 : gB p580177 0 8192 := (hB580206.2.2.2.2.2.2.2.1)
  have ac580211 : (fI (F580157 q580158) 30).toInt = p580176.toInt := by rw [he580162]; rfl
  have bp580176 : gB p580176 (-2147483648) 2147483647 := (gB_any p580176)
  refine G_aload_n 0 dr_cX17_end_0 rfl ?_
  refine G_iconst 0 dr_cX17_end_1 (by decide +kernel) ?_
  refine Gp_put 30 hm580161 he580162 dr_cX17_end_2 (gk_X17 D I) (Nat.le_of_ble_eq_true rfl) wr_7_104 rfl rfl rfl (Nat.le_of_ble_eq_true rfl) (fun F580212 e580213 n580214 => ?_)
  have he580215 : F580212 q580158 = .inr (22, [.ref (γ 9 0), .ref (γ 9 1), .ref (γ 9 2), .ref (γ 9 3), .ref (γ 9 4), .ref (γ 9 5), .ref (γ 9 6), .ref (γ 9 7), .ref (γ 9 8), .int p580165, .int p580166, .int p580167, .int p580168, .int p580169, .int p580170, .ref (γ 9 15), .ref (γ 9 16), .ref (γ 9 17), .ref (γ 9 18), .ref (γ 9 19), .ref (γ 9 20), .ref (γ 9 21), .ref (γ 9 22), .int p580171, .int p580172, .int p580173, .int p580174, .int p580175, .ref q580163, .ref (γ 9 29), .int 0, .ref (γ 9 31), .int p580177, .int p580178, .int p580179, .ref q580164]) := e580213
  have hs580216 : rStr γ [] F580157 F580212 := rStr_put (rStr_rf (γ := γ) (W := []) (F := F580157)) n580214 htq580158 (by decide)
  refine G_iload_n 1 dr_cX17_end_5 rfl ?_
  refine G_if_lt 17 dr_cX17_end_6 (by decide +kernel) (fun hc580217 => ?_) (fun hc580217 => ?_)
  · have r580218 : p580159.toInt < 0 := gj_lt hc580217 (show Int32.toInt 0 = 0 by decide)
    have bp580159' : gB p580159 (-2147483648) (-1) := ⟨by omega, by omega⟩
    refine G_aload_n 0 dr_cX17_end_17 rfl ?_
    refine G_iconst 1 dr_cX17_end_18 (by decide +kernel) ?_
    have hT580219 : RS D I P580156 F580212 γ el := RS_set hT n580214 htq580158 (by decide) ⟨q580163, q580164, p580165, p580166, p580167, p580168, p580169, p580170, p580171, p580172, p580173, p580174, p580175, 0, p580177, p580178, p580179, he580215, ⟨bp580165, bp580166, (hB580206.2.2.1), (hB580206.2.2.2.1), (hB580206.2.2.2.2.1), (hB580206.2.2.2.2.2.1), (hB580206.2.2.2.2.2.2.1), bp580177, (hB580206.2.2.2.2.2.2.2.2)⟩, ht580180, ht580181, ht580182, ht580183, ht580184, ht580185, ht580186, ht580187, ht580188, ht580189, ht580190, ht580191, ht580192, ht580193, ht580194, ht580195, ht580196, ht580197, ht580198, ht580199, ht580200, ht580201, ht580202, ht580203, hB580207⟩
    have ac580220 : (fI (F580212 q580158) 9).toInt = p580165.toInt := by rw [he580215]; rfl
    have ac580221 : (fI (F580212 q580158) 10).toInt = p580166.toInt := by rw [he580215]; rfl
    have ac580222 : (fI (F580212 q580158) 32).toInt = p580177.toInt := by rw [he580215]; rfl
    have ac580223 : (fI (F580212 q580158) 30).toInt = 0 := by rw [he580215]; show Int32.toInt 0 = 0; decide
    refine Gw_callV (As := [.int 1]) (gV_ok D I) (ct_578755_SpillForgeModel_no l hl0 D I γ el P580156 F580212 q580158 1 hT580219 htq580158) dr_cX17_end_19 ⟨wr_7_191, wr_1_14, wr_7_194, by decide, rfl, (Nat.le_of_ble_eq_true rfl), (Nat.le_of_ble_eq_true rfl)⟩ wr_7_193 wr_p_73 hm580161 he580215 rfl (show 0 + 0 ≤ 0 by first | omega | decide) (show 0 + 0 ≤ 0 by first | omega | decide) (Nat.le_of_ble_eq_true rfl) (fun r580227 w580228 dc580224 ds580225 hp580226 => ?_) (fun _ _ _ _ _ z => z.elim)
    obtain ⟨F580233, rfl, rfl, hT580234, hs580235, hdc, hds, x580229, x580230, x580231, x580232⟩ := hp580226
    have hs580236 : rStr γ [] F580157 F580233 := rStr_tr hs580216 hs580235
    rw [show Int32.toInt 1 = 1 from by decide] at x580232
    change G _ _ _ _ _ _ _ (.int 0 :: _) _ _ _
    refine G_widen (cs' := 0) (sl' := 0) (by omega) (by omega) ?_
    have hm580237 : q580158 ∈ P580156 := RS_m hT580234 htq580158 (by decide)
    refine rk10_e (show rk_10 γ (F580233 q580158) from RS_o hT580234 htq580158) (fun q580239 q580240 p580241 p580242 p580243 p580244 p580245 p580246 p580247 p580248 p580249 p580250 p580251 p580252 p580253 p580254 p580255 he580238 hB580282 ht580256 ht580257 ht580258 ht580259 ht580260 ht580261 ht580262 ht580263 ht580264 ht580265 ht580266 ht580267 ht580268 ht580269 ht580270 ht580271 ht580272 ht580273 ht580274 ht580275 ht580276 ht580277 ht580278 ht580279 hB580283 => ?_)
    have ac580284 : (fI (F580233 q580158) 9).toInt = p580241.toInt := by rw [he580238]; rfl
    have bp580241 : gB p580241 0 1 := (hB580282.1)
    have ac580285 : (fI (F580233 q580158) 10).toInt = p580242.toInt := by rw [he580238]; rfl
    have bp580242 : gB p580242 0 1 := (hB580282.2.1)
    have ac580286 : (fI (F580233 q580158) 32).toInt = p580253.toInt := by rw [he580238]; rfl
    have bp580253 : gB p580253 0 8192 := (hB580282.2.2.2.2.2.2.2.1)
    have ac580287 : (fI (F580233 q580158) 30).toInt = p580252.toInt := by rw [he580238]; rfl
    have bp580252 : gB p580252 (-2147483648) 2147483647 := (gB_any p580252)
    have ac580288 : (fI (F580233 q580158) 9).toInt = p580241.toInt := by rw [he580238]; rfl
    have ac580289 : (fI (F580233 q580158) 10).toInt = p580242.toInt := by rw [he580238]; rfl
    have ac580290 : (fI (F580233 q580158) 32).toInt = p580253.toInt := by rw [he580238]; rfl
    have ac580291 : (fI (F580233 q580158) 30).toInt = p580252.toInt := by rw [he580238]; rfl
    exact G_iretA dr_cX17_end_22 rfl (Nat.le_of_ble_eq_true rfl) (Nat.le_of_ble_eq_true rfl) ⟨F580233, 0, rfl, rfl, hT580234, hs580236, (Nat.le_of_ble_eq_true rfl), (Nat.le_of_ble_eq_true rfl), (gB_w (gBl (show Int32.toInt 0 = 0 by decide)) (by decide) (by decide)), (by have qa0 : Int32.toInt 0 = 0 := (by decide); omega), (by have qa0 : Int32.toInt 0 = 0 := (by decide); omega), (by have qa0 : Int32.toInt 0 = 0 := (by decide); omega)⟩
  · have r580292 : 0 ≤ p580159.toInt := gj_nlt hc580217 (show Int32.toInt 0 = 0 by decide)
    have bp580159' : gB p580159 0 2147483647 := ⟨by omega, by omega⟩
    refine G_iload_n 1 dr_cX17_end_9 rfl ?_
    refine G_aload_n 0 dr_cX17_end_10 rfl ?_
    refine Gp_get 32 hm580161 he580215 dr_cX17_end_11 (gk_X17 D I) (Nat.le_of_ble_eq_true rfl) wr_7_106 rfl ?_
    refine G_icmp_le 23 dr_cX17_end_14 (by decide +kernel) (fun hc580293 => ?_) (fun hc580293 => ?_)
    · have r580294 : p580159.toInt ≤ p580177.toInt := gC_le hc580293
      have bp580159'' : gB p580159 0 8192 := ⟨by omega, by omega⟩
      refine G_aload_n 0 dr_cX17_end_23 rfl ?_
      refine G_iload_n 1 dr_cX17_end_24 rfl ?_
      refine Gp_put 32 hm580161 he580215 dr_cX17_end_25 (gk_X17 D I) (Nat.le_of_ble_eq_true rfl) wr_7_106 rfl rfl rfl (Nat.le_of_ble_eq_true rfl) (fun F580295 e580296 n580297 => ?_)
      have he580298 : F580295 q580158 = .inr (22, [.ref (γ 9 0), .ref (γ 9 1), .ref (γ 9 2), .ref (γ 9 3), .ref (γ 9 4), .ref (γ 9 5), .ref (γ 9 6), .ref (γ 9 7), .ref (γ 9 8), .int p580165, .int p580166, .int p580167, .int p580168, .int p580169, .int p580170, .ref (γ 9 15), .ref (γ 9 16), .ref (γ 9 17), .ref (γ 9 18), .ref (γ 9 19), .ref (γ 9 20), .ref (γ 9 21), .ref (γ 9 22), .int p580171, .int p580172, .int p580173, .int p580174, .int p580175, .ref q580163, .ref (γ 9 29), .int 0, .ref (γ 9 31), .int p580159, .int p580178, .int p580179, .ref q580164]) := e580296
      have hs580299 : rStr γ [] F580157 F580295 := rStr_put hs580216 n580297 htq580158 (by decide)
      have n580300 : ∀ b, b ≠ q580158 → F580295 b = F580157 b := fun b hb => (n580297 b hb).trans (n580214 b hb)
      refine G_iload_n 1 dr_cX17_end_28 rfl ?_
      have hT580301 : RS D I P580156 F580295 γ el := RS_set hT n580300 htq580158 (by decide) ⟨q580163, q580164, p580165, p580166, p580167, p580168, p580169, p580170, p580171, p580172, p580173, p580174, p580175, 0, p580159, p580178, p580179, he580298, ⟨bp580165, bp580166, (hB580206.2.2.1), (hB580206.2.2.2.1), (hB580206.2.2.2.2.1), (hB580206.2.2.2.2.2.1), (hB580206.2.2.2.2.2.2.1), bp580159'', (hB580206.2.2.2.2.2.2.2.2)⟩, ht580180, ht580181, ht580182, ht580183, ht580184, ht580185, ht580186, ht580187, ht580188, ht580189, ht580190, ht580191, ht580192, ht580193, ht580194, ht580195, ht580196, ht580197, ht580198, ht580199, ht580200, ht580201, ht580202, ht580203, hB580207⟩
      have ac580302 : (fI (F580295 q580158) 9).toInt = p580165.toInt := by rw [he580298]; rfl
      have ac580303 : (fI (F580295 q580158) 10).toInt = p580166.toInt := by rw [he580298]; rfl
      have ac580304 : (fI (F580295 q580158) 32).toInt = p580159.toInt := by rw [he580298]; rfl
      have ac580305 : (fI (F580295 q580158) 30).toInt = 0 := by rw [he580298]; show Int32.toInt 0 = 0; decide
      exact G_iretA dr_cX17_end_29 rfl (Nat.le_of_ble_eq_true rfl) (Nat.le_of_ble_eq_true rfl) ⟨F580295, p580159, rfl, rfl, hT580301, hs580299, (Nat.le_of_ble_eq_true rfl), (Nat.le_of_ble_eq_true rfl), bp580159'', (by omega), (by omega), (by omega)⟩
    · have r580306 : p580177.toInt < p580159.toInt := gC_nle hc580293
      have bp580159'' : gB p580159 1 2147483647 := ⟨by omega, by omega⟩
      refine G_aload_n 0 dr_cX17_end_17 rfl ?_
      refine G_iconst 1 dr_cX17_end_18 (by decide +kernel) ?_
      have hT580307 : RS D I P580156 F580212 γ el := RS_set hT n580214 htq580158 (by decide) ⟨q580163, q580164, p580165, p580166, p580167, p580168, p580169, p580170, p580171, p580172, p580173, p580174, p580175, 0, p580177, p580178, p580179, he580215, ⟨bp580165, bp580166, (hB580206.2.2.1), (hB580206.2.2.2.1), (hB580206.2.2.2.2.1), (hB580206.2.2.2.2.2.1), (hB580206.2.2.2.2.2.2.1), bp580177, (hB580206.2.2.2.2.2.2.2.2)⟩, ht580180, ht580181, ht580182, ht580183, ht580184, ht580185, ht580186, ht580187, ht580188, ht580189, ht580190, ht580191, ht580192, ht580193, ht580194, ht580195, ht580196, ht580197, ht580198, ht580199, ht580200, ht580201, ht580202, ht580203, hB580207⟩
      have ac580308 : (fI (F580212 q580158) 9).toInt = p580165.toInt := by rw [he580215]; rfl
      have ac580309 : (fI (F580212 q580158) 10).toInt = p580166.toInt := by rw [he580215]; rfl
      have ac580310 : (fI (F580212 q580158) 32).toInt = p580177.toInt := by rw [he580215]; rfl
      have ac580311 : (fI (F580212 q580158) 30).toInt = 0 := by rw [he580215]; show Int32.toInt 0 = 0; decide
      refine Gw_callV (As := [.int 1]) (gV_ok D I) (ct_578755_SpillForgeModel_no l hl0 D I γ el P580156 F580212 q580158 1 hT580307 htq580158) dr_cX17_end_19 ⟨wr_7_191, wr_1_14, wr_7_194, by decide, rfl, (Nat.le_of_ble_eq_true rfl), (Nat.le_of_ble_eq_true rfl)⟩ wr_7_193 wr_p_73 hm580161 he580215 rfl (show 0 + 0 ≤ 0 by first | omega | decide) (show 0 + 0 ≤ 0 by first | omega | decide) (Nat.le_of_ble_eq_true rfl) (fun r580315 w580316 dc580312 ds580313 hp580314 => ?_) (fun _ _ _ _ _ z => z.elim)
      obtain ⟨F580321, rfl, rfl, hT580322, hs580323, hdc, hds, x580317, x580318, x580319, x580320⟩ := hp580314
      have hs580324 : rStr γ [] F580157 F580321 := rStr_tr hs580216 hs580323
      rw [show Int32.toInt 1 = 1 from by decide] at x580320
      change G _ _ _ _ _ _ _ (.int 0 :: _) _ _ _
      refine G_widen (cs' := 0) (sl' := 0) (by omega) (by omega) ?_
      have hm580325 : q580158 ∈ P580156 := RS_m hT580322 htq580158 (by decide)
      refine rk10_e (show rk_10 γ (F580321 q580158) from RS_o hT580322 htq580158) (fun q580327 q580328 p580329 p580330 p580331 p580332 p580333 p580334 p580335 p580336 p580337 p580338 p580339 p580340 p580341 p580342 p580343 he580326 hB580370 ht580344 ht580345 ht580346 ht580347 ht580348 ht580349 ht580350 ht580351 ht580352 ht580353 ht580354 ht580355 ht580356 ht580357 ht580358 ht580359 ht580360 ht580361 ht580362 ht580363 ht580364 ht580365 ht580366 ht580367 hB580371 => ?_)
      have ac580372 : (fI (F580321 q580158) 9).toInt = p580329.toInt := by rw [he580326]; rfl
      have bp580329 : gB p580329 0 1 := (hB580370.1)
      have ac580373 : (fI (F580321 q580158) 10).toInt = p580330.toInt := by rw [he580326]; rfl
      have bp580330 : gB p580330 0 1 := (hB580370.2.1)
      have ac580374 : (fI (F580321 q580158) 32).toInt = p580341.toInt := by rw [he580326]; rfl
      have bp580341 : gB p580341 0 8192 := (hB580370.2.2.2.2.2.2.2.1)
      have ac580375 : (fI (F580321 q580158) 30).toInt = p580340.toInt := by rw [he580326]; rfl
      have bp580340 : gB p580340 (-2147483648) 2147483647 := (gB_any p580340)
      have ac580376 : (fI (F580321 q580158) 9).toInt = p580329.toInt := by rw [he580326]; rfl
      have ac580377 : (fI (F580321 q580158) 10).toInt = p580330.toInt := by rw [he580326]; rfl
      have ac580378 : (fI (F580321 q580158) 32).toInt = p580341.toInt := by rw [he580326]; rfl
      have ac580379 : (fI (F580321 q580158) 30).toInt = p580340.toInt := by rw [he580326]; rfl
      exact G_iretA dr_cX17_end_22 rfl (Nat.le_of_ble_eq_true rfl) (Nat.le_of_ble_eq_true rfl) ⟨F580321, 0, rfl, rfl, hT580322, hs580324, (Nat.le_of_ble_eq_true rfl), (Nat.le_of_ble_eq_true rfl), (gB_w (gBl (show Int32.toInt 0 = 0 by decide)) (by decide) (by decide)), (by have qa0 : Int32.toInt 0 = 0 := (by decide); omega), (by have qa0 : Int32.toInt 0 = 0 := (by decide); omega), (by have qa0 : Int32.toInt 0 = 0 := (by decide); omega)⟩
abbrev ky_581168_SpillForgeModel_step : gKey := (cX17_step, 4, "SpillForgeModel", (some FieldType.int), [], "step", fun _ _ => True)
def pt_581168_SpillForgeModel_step (D : va_G) (I : FieldType → ClassId) (γ el : Nat → Nat → Nat) (P581164 : List Nat) (F581165 : Nat → va_E) (q581166 : Nat) (q581167 : Nat) : Option Value → va_W → Nat → Nat → Prop := fun r w dc ds => ∃ (F581459 : Nat → va_E) (o581458 : Int32), r = some (.int o581458) ∧ w = va_pl P581164 F581459 ∧ RS D I P581164 F581459 γ el ∧ rStr γ [] F581165 F581459 ∧ dc ≤ 0 ∧ ds ≤ 0 ∧ gB o581458 (-1) 5 ∧ (fI (F581459 q581166) 26).toInt = (fI (F581165 q581166) 26).toInt ∧ (fI (F581459 q581166) 9).toInt = (fI (F581165 q581166) 9).toInt ∧ (fI (F581459 q581166) 10).toInt = (fI (F581165 q581166) 10).toInt ∧ (fI (F581459 q581166) 32).toInt = (fI (F581165 q581166) 32).toInt
set_option maxRecDepth 100000 in
set_option maxHeartbeats 4000000 in
theorem ct_581168_SpillForgeModel_step (l : Launch) (hl0 : l.stackTraces = false) (D : va_G) (I : FieldType → ClassId) (γ el : Nat → Nat → Nat) (P581164 : List Nat) (F581165 : Nat → va_E) (q581166 : Nat) (q581167 : Nat) (hT : RS D I P581164 F581165 γ el) (htq581166 : rKd γ q581166 10) (htq581167 : rKd γ q581167 1) : CtA (gV D I) l yX17_step cX17_step 4 (some FieldType.int) 1 23 0 0 [.ref q581166, .ref q581167] (va_pl P581164 F581165) (pt_581168_SpillForgeModel_step D I γ el P581164 F581165 q581166 q581167) gNA := by
  refine CtA_of hl0 (by decide) (Nat.le_of_ble_eq_true rfl) ?_
  have hm581169 : q581166 ∈ P581164 := RS_m hT htq581166 (by decide)
  refine rk10_e (show rk_10 γ (F581165 q581166) from RS_o hT htq581166) (fun q581171 q581172 p581173 p581174 p581175 p581176 p581177 p581178 p581179 p581180 p581181 p581182 p581183 p581184 p581185 p581186 p581187 he581170 hB581214 ht581188 ht581189 ht581190 ht581191 ht581192 ht581193 ht581194 ht581195 ht581196 ht581197 ht581198 ht581199 ht581200 ht581201 ht581202 ht581203 ht581204 ht581205 ht581206 ht581207 ht581208 ht581209 ht581210 ht581211 hB581215 => ?_)
  have ac581216 : (fI (F581165 q581166) 26).toInt = p581182.toInt := by rw [he581170]; rfl
  have bp581182 : gB p581182 0 100000 := (hB581214.2.2.2.2.2.1)
  have ac581217 : (fI (F581165 q581166) 9).toInt = p581173.toInt := by rw [he581170]; rfl
  have bp581173 : gB p581173 0 1 := (hB581214.1)
  have ac581218 : (fI (F581165 q581166) 10).toInt = p581174.toInt := by rw [he581170]; rfl
  have bp581174 : gB p581174 0 1 := (hB581214.2.1)
  have ac581219 : (fI (F581165 q581166) 32).toInt = p581185.toInt := by rw [he581170]; rfl
  have bp581185 : gB p581185 0 8192 := (hB581214.2.2.2.2.2.2.2.1)
  refine G_aload_n 1 dr_cX17_step_0 rfl ?_
  have hm581220 : q581167 ∈ P581164 := RS_m hT htq581167 (by decide)
  obtain ⟨p581222, p581223, p581224, p581225, p581226, p581227, p581228, he581221, bp581222, bp581223, bp581226, bp581227, bp581228, r581229, r581230, r581231, r581232, r581233⟩ := show rk_1 γ q581167 (F581165 q581167) from RS_o hT htq581167
  have bp581224 := gB_any p581224
  have bp581225 := gB_any p581225
  refine Gp_get 0 hm581220 he581221 dr_cX17_step_1 (gk_X15 D I) (Nat.le_of_ble_eq_true rfl) wr_9_177 rfl ?_
  by_cases hs581234 : p581222 = 0
  · have ehs581234 : p581222.toInt = 0 := gj_eq hs581234 (show Int32.toInt 0 = 0 by decide)
    have bp581222' : gB p581222 0 0 := ⟨by omega, by omega⟩
    refine G_eqi (y := 0) hs581234 ?_
    refine G_lookup 198 dr_cX17_step_4 (by decide) (by first | rfl | decide) (by decide) ?_
    refine G_aload_n 0 dr_cX17_step_198 rfl ?_
    refine Gp_get 20 hm581169 he581170 dr_cX17_step_199 (gk_X17 D I) (Nat.le_of_ble_eq_true rfl) wr_7_94 rfl ?_
    refine G_aload_n 1 dr_cX17_step_202 rfl ?_
    refine Gp_get 1 hm581220 he581221 dr_cX17_step_203 (gk_X15 D I) (Nat.le_of_ble_eq_true rfl) wr_9_182 rfl ?_
    refine G_aload_n 0 dr_cX17_step_206 rfl ?_
    refine G_aload_n 1 dr_cX17_step_207 rfl ?_
    refine Gp_get 5 hm581220 he581221 dr_cX17_step_208 (gk_X15 D I) (Nat.le_of_ble_eq_true rfl) wr_9_197 rfl ?_
    refine G_aload_n 1 dr_cX17_step_211 rfl ?_
    refine Gp_get 2 hm581220 he581221 dr_cX17_step_212 (gk_X15 D I) (Nat.le_of_ble_eq_true rfl) wr_9_186 rfl ?_
    refine Gw_callV (As := [.int p581227, .int p581224]) (gV_ok D I) (ct_7532_SpillForgeModel_value l hl0 D I γ el P581164 F581165 q581166 p581227 p581224 hT htq581166 bp581227 (by omega)) dr_cX17_step_215 ⟨wr_11_100, wr_1_14, wr_11_103, by decide, rfl, (Nat.le_of_ble_eq_true rfl), (Nat.le_of_ble_eq_true rfl)⟩ wr_11_102 wr_p_115 hm581169 he581170 rfl (show 0 + 0 ≤ 0 by first | omega | decide) (show 0 + 0 ≤ 0 by first | omega | decide) (Nat.le_of_ble_eq_true rfl) (fun r581238 w581239 dc581235 ds581236 hp581237 => ?_) (fun _ _ _ _ _ z => z.elim)
    obtain ⟨o581240, rfl, rfl, hdc, hds, ht581241⟩ := hp581237
    have bo581240 := gB_any o581240
    change G _ _ _ _ _ _ _ (.int o581240 :: _) _ _ _
    refine G_widen (cs' := 0) (sl' := 0) (by omega) (by omega) ?_
    have hm581242 : (γ 9 20) ∈ P581164 := RS_m hT ht581204 (by decide)
    obtain ⟨f581244, he581243⟩ := show rk_22 I (F581165 (γ 9 20)) from RS_o hT ht581204
    refine Gp_iast 0 hm581242 he581243 dr_cX17_step_218 rfl (gB_in bp581223 (by decide) (by decide)) (fun F581245 e581246 n581247 => ?_)
    obtain ⟨f581248, hf581248⟩ : ∃ z, z = upd f581244 p581223.toNatClampNeg o581240 := ⟨_, rfl⟩
    rw [← hf581248] at e581246
    have he581249 : F581245 q581166 = .inr (22, [.ref (γ 9 0), .ref (γ 9 1), .ref (γ 9 2), .ref (γ 9 3), .ref (γ 9 4), .ref (γ 9 5), .ref (γ 9 6), .ref (γ 9 7), .ref (γ 9 8), .int p581173, .int p581174, .int p581175, .int p581176, .int p581177, .int p581178, .ref (γ 9 15), .ref (γ 9 16), .ref (γ 9 17), .ref (γ 9 18), .ref (γ 9 19), .ref (γ 9 20), .ref (γ 9 21), .ref (γ 9 22), .int p581179, .int p581180, .int p581181, .int p581182, .int p581183, .ref q581171, .ref (γ 9 29), .int p581184, .ref (γ 9 31), .int p581185, .int p581186, .int p581187, .ref q581172]) := (n581247 q581166 (rn_oa he581170 he581243)).trans he581170
    have he581250 : F581245 q581167 = .inr (20, [.int p581222, .int p581223, .int p581224, .int p581225, .int p581226, .int p581227, .int p581228]) := (n581247 q581167 (rn_oa he581221 he581243)).trans he581221
    have he581251 : F581245 (γ 9 20) = .inl (I .int, 2000, .inl f581248) := e581246
    have hs581252 : rStr γ [] F581165 F581245 := rStr_put (rStr_rf (γ := γ) (W := []) (F := F581165)) n581247 ht581204 (by decide)
    refine G_iconst (-1) dr_cX17_step_219 (by decide +kernel) ?_
    have hT581253 : RS D I P581164 F581245 γ el := RS_set hT n581247 ht581204 (by decide) ⟨f581248, he581251⟩
    have ac581254 : (fI (F581245 q581166) 26).toInt = p581182.toInt := by rw [he581249]; rfl
    have ac581255 : (fI (F581245 q581166) 9).toInt = p581173.toInt := by rw [he581249]; rfl
    have ac581256 : (fI (F581245 q581166) 10).toInt = p581174.toInt := by rw [he581249]; rfl
    have ac581257 : (fI (F581245 q581166) 32).toInt = p581185.toInt := by rw [he581249]; rfl
    exact G_iretA dr_cX17_step_220 rfl (Nat.le_of_ble_eq_true rfl) (Nat.le_of_ble_eq_true rfl) ⟨F581245, (-1), rfl, rfl, hT581253, hs581252, (Nat.le_of_ble_eq_true rfl), (Nat.le_of_ble_eq_true rfl), (gB_w (gBl (show Int32.toInt (-1) = (-1) by decide)) (by decide) (by decide)), (by have qa0 : Int32.toInt (-1) = (-1) := (by decide); omega), (by have qa0 : Int32.toInt (-1) = (-1) := (by decide); omega), (by have qa0 : Int32.toInt (-1) = (-1) := (by decide); omega), (by have qa0 : Int32.toInt (-1) = (-1) := (by decide); omega)⟩
  by_cases hs581258 : p581222 = 20
  · have ehs581258 : p581222.toInt = 20 := gj_eq hs581258 (show Int32.toInt 20 = 20 by decide)
    have bp581222' : gB p581222 20 20 := ⟨by omega, by omega⟩
    refine G_eqi (y := 20) hs581258 ?_
    refine G_lookup 56 dr_cX17_step_4 (by decide) (by first | rfl | decide) (by decide) ?_
    refine G_aload_n 0 dr_cX17_step_56 rfl ?_
    refine Gp_get 20 hm581169 he581170 dr_cX17_step_57 (gk_X17 D I) (Nat.le_of_ble_eq_true rfl) wr_7_94 rfl ?_
    refine G_aload_n 1 dr_cX17_step_60 rfl ?_
    refine Gp_get 1 hm581220 he581221 dr_cX17_step_61 (gk_X15 D I) (Nat.le_of_ble_eq_true rfl) wr_9_182 rfl ?_
    refine G_aload_n 0 dr_cX17_step_64 rfl ?_
    refine Gp_get 27 hm581169 he581170 dr_cX17_step_65 (gk_X17 D I) (Nat.le_of_ble_eq_true rfl) wr_7_101 rfl ?_
    have bp581183 : gB p581183 0 2048 := (hB581214.2.2.2.2.2.2.1)
    refine G_aload_n 0 dr_cX17_step_68 rfl ?_
    refine Gp_get 28 hm581169 he581170 dr_cX17_step_69 (gk_X17 D I) (Nat.le_of_ble_eq_true rfl) wr_7_102 rfl ?_
    have hm581259 : q581171 ∈ P581164 := RS_m hT ht581188 (by decide)
    obtain ⟨n581262, f581261, he581260, hn581262⟩ := show rk_26 I (F581165 q581171) from RS_o hT ht581188
    refine Gp_alen (Int32.ofNat n581262) 0 hm581259 he581260 dr_cX17_step_72 rfl rfl (G_nam fun z581263 hz581263 => ?_)
    have ez581263 : z581263.toInt = (n581262 : Nat) := gI_ofM hz581263 (by omega)
    have bz581263 : gB z581263 0 16777216 := ⟨by omega, by omega⟩
    refine G_icmp_ge 88 dr_cX17_step_73 (by decide +kernel) (fun hc581264 => ?_) (fun hc581264 => ?_)
    · have r581265 : z581263.toInt ≤ p581183.toInt := gC_le hc581264
      have bz581263' : gB z581263 0 2048 := ⟨by omega, by omega⟩
      refine G_iconst 0 dr_cX17_step_88 (by decide +kernel) ?_
      have hm581266 : (γ 9 20) ∈ P581164 := RS_m hT ht581204 (by decide)
      obtain ⟨f581268, he581267⟩ := show rk_22 I (F581165 (γ 9 20)) from RS_o hT ht581204
      refine Gp_iast 0 hm581266 he581267 dr_cX17_step_89 rfl (gB_in bp581223 (by decide) (by decide)) (fun F581269 e581270 n581271 => ?_)
      obtain ⟨f581272, hf581272⟩ : ∃ z, z = upd f581268 p581223.toNatClampNeg 0 := ⟨_, rfl⟩
      rw [← hf581272] at e581270
      have he581273 : F581269 q581166 = .inr (22, [.ref (γ 9 0), .ref (γ 9 1), .ref (γ 9 2), .ref (γ 9 3), .ref (γ 9 4), .ref (γ 9 5), .ref (γ 9 6), .ref (γ 9 7), .ref (γ 9 8), .int p581173, .int p581174, .int p581175, .int p581176, .int p581177, .int p581178, .ref (γ 9 15), .ref (γ 9 16), .ref (γ 9 17), .ref (γ 9 18), .ref (γ 9 19), .ref (γ 9 20), .ref (γ 9 21), .ref (γ 9 22), .int p581179, .int p581180, .int p581181, .int p581182, .int p581183, .ref q581171, .ref (γ 9 29), .int p581184, .ref (γ 9 31), .int p581185, .int p581186, .int p581187, .ref q581172]) := (n581271 q581166 (rn_oa he581170 he581267)).trans he581170
      have he581274 : F581269 q581167 = .inr (20, [.int p581222, .int p581223, .int p581224, .int p581225, .int p581226, .int p581227, .int p581228]) := (n581271 q581167 (rn_oa he581221 he581267)).trans he581221
      have he581275 : F581269 q581171 = .inl (I .int, n581262, .inl f581261) := (n581271 q581171 (rn_ty ht581188 ht581204 (by decide))).trans he581260
      have he581276 : F581269 (γ 9 20) = .inl (I .int, 2000, .inl f581272) := e581270
      have hs581277 : rStr γ [] F581165 F581269 := rStr_put (rStr_rf (γ := γ) (W := []) (F := F581165)) n581271 ht581204 (by decide)
      refine G_aload_n 0 dr_cX17_step_90 rfl ?_
      refine G_aload_n 0 dr_cX17_step_91 rfl ?_
      refine Gp_get 27 hm581169 he581273 dr_cX17_step_92 (gk_X17 D I) (Nat.le_of_ble_eq_true rfl) wr_7_101 rfl ?_
      refine G_iconst 1 dr_cX17_step_95 (by decide +kernel) ?_
      refine G_iadd dr_cX17_step_96 (G_nam fun z581278 hz581278 => ?_)
      have ez581278 : z581278.toInt = p581183.toInt + 1 := by rw [gI_add hz581278 bp581183 (gBl (show Int32.toInt 1 = 1 by decide)) (by decide) (by decide), show Int32.toInt 1 = 1 from by decide]
      have bz581278 : gB z581278 1 2049 := gB_add (gI_add hz581278 bp581183 (gBl (show Int32.toInt 1 = 1 by decide)) (by decide) (by decide)) bp581183 (gBl (show Int32.toInt 1 = 1 by decide)) (by decide) (by decide)
      refine G_aload_n 0 dr_cX17_step_97 rfl ?_
      refine Gp_get 28 hm581169 he581273 dr_cX17_step_98 (gk_X17 D I) (Nat.le_of_ble_eq_true rfl) wr_7_102 rfl ?_
      refine Gp_alen (Int32.ofNat n581262) 0 hm581259 he581275 dr_cX17_step_101 rfl rfl (G_nam fun z581279 hz581279 => ?_)
      have ez581279 : z581279.toInt = (n581262 : Nat) := gI_ofM hz581279 (by omega)
      have bz581279 : gB z581279 0 16777216 := ⟨by omega, by omega⟩
      refine G_mmin dr_cX17_step_102 wr_11_20 wr_3_227 wr_1_6 wr_3_228 (Nat.le_of_ble_eq_true rfl) (Nat.le_of_ble_eq_true rfl) (show 0 ≤ 0 by first | omega | decide) (show 0 ≤ 0 by first | omega | decide) (G_nam fun z581280 hz581280 => ?_)
      have ez581280 : z581278.toInt ≥ z581280.toInt ∧ z581279.toInt ≥ z581280.toInt ∧ (z581280.toInt = z581278.toInt ∨ z581280.toInt = z581279.toInt) := by have := gI_min hz581280; omega
      have bz581280 : gB z581280 0 2049 := ⟨by omega, by omega⟩
      have hT581281 : RS D I P581164 F581269 γ el := RS_set hT n581271 ht581204 (by decide) ⟨f581272, he581276⟩
      refine Gp_put 27 hm581169 he581273 dr_cX17_step_105 (gk_X17 D I) (Nat.le_of_ble_eq_true rfl) wr_7_101 rfl rfl rfl (Nat.le_of_ble_eq_true rfl) (fun F581282 e581283 n581284 => ?_)
      have he581285 : F581282 q581167 = .inr (20, [.int p581222, .int p581223, .int p581224, .int p581225, .int p581226, .int p581227, .int p581228]) := (n581284 q581167 (rn_oo he581274 he581273 (by decide))).trans he581274
      have he581286 : F581282 q581171 = .inl (I .int, n581262, .inl f581261) := (n581284 q581171 (rn_ao he581275 he581273)).trans he581275
      have he581287 : F581282 (γ 9 20) = .inl (I .int, 2000, .inl f581272) := (n581284 (γ 9 20) (rn_ao he581276 he581273)).trans he581276
      have he581288 : F581282 q581166 = .inr (22, [.ref (γ 9 0), .ref (γ 9 1), .ref (γ 9 2), .ref (γ 9 3), .ref (γ 9 4), .ref (γ 9 5), .ref (γ 9 6), .ref (γ 9 7), .ref (γ 9 8), .int p581173, .int p581174, .int p581175, .int p581176, .int p581177, .int p581178, .ref (γ 9 15), .ref (γ 9 16), .ref (γ 9 17), .ref (γ 9 18), .ref (γ 9 19), .ref (γ 9 20), .ref (γ 9 21), .ref (γ 9 22), .int p581179, .int p581180, .int p581181, .int p581182, .int z581280, .ref q581171, .ref (γ 9 29), .int p581184, .ref (γ 9 31), .int p581185, .int p581186, .int p581187, .ref q581172]) := e581283
      have hs581289 : rStr γ [] F581165 F581282 := rStr_put hs581277 n581284 htq581166 (by decide)
      refine G_iconst (-1) dr_cX17_step_108 (by decide +kernel) ?_
      have hT581290 : RS D I P581164 F581282 γ el := RS_set hT581281 n581284 htq581166 (by decide) ⟨q581171, q581172, p581173, p581174, p581175, p581176, p581177, p581178, p581179, p581180, p581181, p581182, z581280, p581184, p581185, p581186, p581187, he581288, ⟨bp581173, bp581174, (hB581214.2.2.1), (hB581214.2.2.2.1), (hB581214.2.2.2.2.1), bp581182, ⟨by omega, by omega⟩, bp581185, (hB581214.2.2.2.2.2.2.2.2)⟩, ht581188, ht581189, ht581190, ht581191, ht581192, ht581193, ht581194, ht581195, ht581196, ht581197, ht581198, ht581199, ht581200, ht581201, ht581202, ht581203, ht581204, ht581205, ht581206, ht581207, ht581208, ht581209, ht581210, ht581211, hB581215⟩
      have ac581291 : (fI (F581282 q581166) 26).toInt = p581182.toInt := by rw [he581288]; rfl
      have ac581292 : (fI (F581282 q581166) 9).toInt = p581173.toInt := by rw [he581288]; rfl
      have ac581293 : (fI (F581282 q581166) 10).toInt = p581174.toInt := by rw [he581288]; rfl
      have ac581294 : (fI (F581282 q581166) 32).toInt = p581185.toInt := by rw [he581288]; rfl
      exact G_iretA dr_cX17_step_109 rfl (Nat.le_of_ble_eq_true rfl) (Nat.le_of_ble_eq_true rfl) ⟨F581282, (-1), rfl, rfl, hT581290, hs581289, (Nat.le_of_ble_eq_true rfl), (Nat.le_of_ble_eq_true rfl), (gB_w (gBl (show Int32.toInt (-1) = (-1) by decide)) (by decide) (by decide)), (by have qa0 : Int32.toInt (-1) = (-1) := (by decide); omega), (by have qa0 : Int32.toInt (-1) = (-1) := (by decide); omega), (by have qa0 : Int32.toInt (-1) = (-1) := (by decide); omega), (by have qa0 : Int32.toInt (-1) = (-1) := (by decide); omega)⟩
    · have r581295 : p581183.toInt < z581263.toInt := gC_nle hc581264
      have bz581263' : gB z581263 1 16777216 := ⟨by omega, by omega⟩
      refine G_aload_n 0 dr_cX17_step_76 rfl ?_
      refine Gp_get 28 hm581169 he581170 dr_cX17_step_77 (gk_X17 D I) (Nat.le_of_ble_eq_true rfl) wr_7_102 rfl ?_
      refine G_aload_n 0 dr_cX17_step_80 rfl ?_
      refine Gp_get 27 hm581169 he581170 dr_cX17_step_81 (gk_X17 D I) (Nat.le_of_ble_eq_true rfl) wr_7_101 rfl ?_
      refine Gp_iald 0 hm581259 he581260 dr_cX17_step_84 rfl (gB_inr (by omega) (by omega)) (G_nam fun z581296 hz581296 => ?_)
      have bz581296 : gB z581296 (-2147483648) 2147483647 := gB_any z581296
      refine G_goto 89 dr_cX17_step_85 (by decide +kernel) ?_
      have hm581297 : (γ 9 20) ∈ P581164 := RS_m hT ht581204 (by decide)
      obtain ⟨f581299, he581298⟩ := show rk_22 I (F581165 (γ 9 20)) from RS_o hT ht581204
      refine Gp_iast 0 hm581297 he581298 dr_cX17_step_89 rfl (gB_in bp581223 (by decide) (by decide)) (fun F581300 e581301 n581302 => ?_)
      obtain ⟨f581303, hf581303⟩ : ∃ z, z = upd f581299 p581223.toNatClampNeg z581296 := ⟨_, rfl⟩
      rw [← hf581303] at e581301
      have he581304 : F581300 q581166 = .inr (22, [.ref (γ 9 0), .ref (γ 9 1), .ref (γ 9 2), .ref (γ 9 3), .ref (γ 9 4), .ref (γ 9 5), .ref (γ 9 6), .ref (γ 9 7), .ref (γ 9 8), .int p581173, .int p581174, .int p581175, .int p581176, .int p581177, .int p581178, .ref (γ 9 15), .ref (γ 9 16), .ref (γ 9 17), .ref (γ 9 18), .ref (γ 9 19), .ref (γ 9 20), .ref (γ 9 21), .ref (γ 9 22), .int p581179, .int p581180, .int p581181, .int p581182, .int p581183, .ref q581171, .ref (γ 9 29), .int p581184, .ref (γ 9 31), .int p581185, .int p581186, .int p581187, .ref q581172]) := (n581302 q581166 (rn_oa he581170 he581298)).trans he581170
      have he581305 : F581300 q581167 = .inr (20, [.int p581222, .int p581223, .int p581224, .int p581225, .int p581226, .int p581227, .int p581228]) := (n581302 q581167 (rn_oa he581221 he581298)).trans he581221
      have he581306 : F581300 q581171 = .inl (I .int, n581262, .inl f581261) := (n581302 q581171 (rn_ty ht581188 ht581204 (by decide))).trans he581260
      have he581307 : F581300 (γ 9 20) = .inl (I .int, 2000, .inl f581303) := e581301
      have hs581308 : rStr γ [] F581165 F581300 := rStr_put (rStr_rf (γ := γ) (W := []) (F := F581165)) n581302 ht581204 (by decide)
      refine G_aload_n 0 dr_cX17_step_90 rfl ?_
      refine G_aload_n 0 dr_cX17_step_91 rfl ?_
      refine Gp_get 27 hm581169 he581304 dr_cX17_step_92 (gk_X17 D I) (Nat.le_of_ble_eq_true rfl) wr_7_101 rfl ?_
      refine G_iconst 1 dr_cX17_step_95 (by decide +kernel) ?_
      refine G_iadd dr_cX17_step_96 (G_nam fun z581309 hz581309 => ?_)
      have ez581309 : z581309.toInt = p581183.toInt + 1 := by rw [gI_add hz581309 bp581183 (gBl (show Int32.toInt 1 = 1 by decide)) (by decide) (by decide), show Int32.toInt 1 = 1 from by decide]
      have bz581309 : gB z581309 1 2049 := gB_add (gI_add hz581309 bp581183 (gBl (show Int32.toInt 1 = 1 by decide)) (by decide) (by decide)) bp581183 (gBl (show Int32.toInt 1 = 1 by decide)) (by decide) (by decide)
      refine G_aload_n 0 dr_cX17_step_97 rfl ?_
      refine Gp_get 28 hm581169 he581304 dr_cX17_step_98 (gk_X17 D I) (Nat.le_of_ble_eq_true rfl) wr_7_102 rfl ?_
      refine Gp_alen (Int32.ofNat n581262) 0 hm581259 he581306 dr_cX17_step_101 rfl rfl (G_nam fun z581310 hz581310 => ?_)
      have ez581310 : z581310.toInt = (n581262 : Nat) := gI_ofM hz581310 (by omega)
      have bz581310 : gB z581310 0 16777216 := ⟨by omega, by omega⟩
      refine G_mmin dr_cX17_step_102 wr_11_20 wr_3_227 wr_1_6 wr_3_228 (Nat.le_of_ble_eq_true rfl) (Nat.le_of_ble_eq_true rfl) (show 0 ≤ 0 by first | omega | decide) (show 0 ≤ 0 by first | omega | decide) (G_nam fun z581311 hz581311 => ?_)
      have ez581311 : z581309.toInt ≥ z581311.toInt ∧ z581310.toInt ≥ z581311.toInt ∧ (z581311.toInt = z581309.toInt ∨ z581311.toInt = z581310.toInt) := by have := gI_min hz581311; omega
      have bz581311 : gB z581311 0 2049 := ⟨by omega, by omega⟩
      have hT581312 : RS D I P581164 F581300 γ el := RS_set hT n581302 ht581204 (by decide) ⟨f581303, he581307⟩
      refine Gp_put 27 hm581169 he581304 dr_cX17_step_105 (gk_X17 D I) (Nat.le_of_ble_eq_true rfl) wr_7_101 rfl rfl rfl (Nat.le_of_ble_eq_true rfl) (fun F581313 e581314 n581315 => ?_)
      have he581316 : F581313 q581167 = .inr (20, [.int p581222, .int p581223, .int p581224, .int p581225, .int p581226, .int p581227, .int p581228]) := (n581315 q581167 (rn_oo he581305 he581304 (by decide))).trans he581305
      have he581317 : F581313 q581171 = .inl (I .int, n581262, .inl f581261) := (n581315 q581171 (rn_ao he581306 he581304)).trans he581306
      have he581318 : F581313 (γ 9 20) = .inl (I .int, 2000, .inl f581303) := (n581315 (γ 9 20) (rn_ao he581307 he581304)).trans he581307
      have he581319 : F581313 q581166 = .inr (22, [.ref (γ 9 0), .ref (γ 9 1), .ref (γ 9 2), .ref (γ 9 3), .ref (γ 9 4), .ref (γ 9 5), .ref (γ 9 6), .ref (γ 9 7), .ref (γ 9 8), .int p581173, .int p581174, .int p581175, .int p581176, .int p581177, .int p581178, .ref (γ 9 15), .ref (γ 9 16), .ref (γ 9 17), .ref (γ 9 18), .ref (γ 9 19), .ref (γ 9 20), .ref (γ 9 21), .ref (γ 9 22), .int p581179, .int p581180, .int p581181, .int p581182, .int z581311, .ref q581171, .ref (γ 9 29), .int p581184, .ref (γ 9 31), .int p581185, .int p581186, .int p581187, .ref q581172]) := e581314
      have hs581320 : rStr γ [] F581165 F581313 := rStr_put hs581308 n581315 htq581166 (by decide)
      refine G_iconst (-1) dr_cX17_step_108 (by decide +kernel) ?_
      have hT581321 : RS D I P581164 F581313 γ el := RS_set hT581312 n581315 htq581166 (by decide) ⟨q581171, q581172, p581173, p581174, p581175, p581176, p581177, p581178, p581179, p581180, p581181, p581182, z581311, p581184, p581185, p581186, p581187, he581319, ⟨bp581173, bp581174, (hB581214.2.2.1), (hB581214.2.2.2.1), (hB581214.2.2.2.2.1), bp581182, ⟨by omega, by omega⟩, bp581185, (hB581214.2.2.2.2.2.2.2.2)⟩, ht581188, ht581189, ht581190, ht581191, ht581192, ht581193, ht581194, ht581195, ht581196, ht581197, ht581198, ht581199, ht581200, ht581201, ht581202, ht581203, ht581204, ht581205, ht581206, ht581207, ht581208, ht581209, ht581210, ht581211, hB581215⟩
      have ac581322 : (fI (F581313 q581166) 26).toInt = p581182.toInt := by rw [he581319]; rfl
      have ac581323 : (fI (F581313 q581166) 9).toInt = p581173.toInt := by rw [he581319]; rfl
      have ac581324 : (fI (F581313 q581166) 10).toInt = p581174.toInt := by rw [he581319]; rfl
      have ac581325 : (fI (F581313 q581166) 32).toInt = p581185.toInt := by rw [he581319]; rfl
      exact G_iretA dr_cX17_step_109 rfl (Nat.le_of_ble_eq_true rfl) (Nat.le_of_ble_eq_true rfl) ⟨F581313, (-1), rfl, rfl, hT581321, hs581320, (Nat.le_of_ble_eq_true rfl), (Nat.le_of_ble_eq_true rfl), (gB_w (gBl (show Int32.toInt (-1) = (-1) by decide)) (by decide) (by decide)), (by have qa0 : Int32.toInt (-1) = (-1) := (by decide); omega), (by have qa0 : Int32.toInt (-1) = (-1) := (by decide); omega), (by have qa0 : Int32.toInt (-1) = (-1) := (by decide); omega), (by have qa0 : Int32.toInt (-1) = (-1) := (by decide); omega)⟩
  by_cases hs581326 : p581222 = 21
  · have ehs581326 : p581222.toInt = 21 := gj_eq hs581326 (show Int32.toInt 21 = 21 by decide)
    have bp581222' : gB p581222 21 21 := ⟨by omega, by omega⟩
    refine G_eqi (y := 21) hs581326 ?_
    refine G_lookup 155 dr_cX17_step_4 (by decide) (by first | rfl | decide) (by decide) ?_
    refine G_aload_n 0 dr_cX17_step_155 rfl ?_
    refine Gp_get 20 hm581169 he581170 dr_cX17_step_156 (gk_X17 D I) (Nat.le_of_ble_eq_true rfl) wr_7_94 rfl ?_
    refine G_aload_n 1 dr_cX17_step_159 rfl ?_
    refine Gp_get 1 hm581220 he581221 dr_cX17_step_160 (gk_X15 D I) (Nat.le_of_ble_eq_true rfl) wr_9_182 rfl ?_
    refine G_aload_n 0 dr_cX17_step_163 rfl ?_
    refine Gp_get 21 hm581169 he581170 dr_cX17_step_164 (gk_X17 D I) (Nat.le_of_ble_eq_true rfl) wr_7_95 rfl ?_
    refine G_aload_n 1 dr_cX17_step_167 rfl ?_
    refine Gp_get 4 hm581220 he581221 dr_cX17_step_168 (gk_X15 D I) (Nat.le_of_ble_eq_true rfl) wr_9_193 rfl ?_
    have hm581327 : (γ 9 21) ∈ P581164 := RS_m hT ht581205 (by decide)
    obtain ⟨f581329, he581328⟩ := show rk_23 I (F581165 (γ 9 21)) from RS_o hT ht581205
    refine Gp_iald 0 hm581327 he581328 dr_cX17_step_171 rfl (gB_in bp581226 (by decide) (by decide)) (G_nam fun z581330 hz581330 => ?_)
    have bz581330 : gB z581330 (-2147483648) 2147483647 := gB_any z581330
    have hm581331 : (γ 9 20) ∈ P581164 := RS_m hT ht581204 (by decide)
    obtain ⟨f581333, he581332⟩ := show rk_22 I (F581165 (γ 9 20)) from RS_o hT ht581204
    refine Gp_iast 0 hm581331 he581332 dr_cX17_step_172 rfl (gB_in bp581223 (by decide) (by decide)) (fun F581334 e581335 n581336 => ?_)
    obtain ⟨f581337, hf581337⟩ : ∃ z, z = upd f581333 p581223.toNatClampNeg z581330 := ⟨_, rfl⟩
    rw [← hf581337] at e581335
    have he581338 : F581334 q581166 = .inr (22, [.ref (γ 9 0), .ref (γ 9 1), .ref (γ 9 2), .ref (γ 9 3), .ref (γ 9 4), .ref (γ 9 5), .ref (γ 9 6), .ref (γ 9 7), .ref (γ 9 8), .int p581173, .int p581174, .int p581175, .int p581176, .int p581177, .int p581178, .ref (γ 9 15), .ref (γ 9 16), .ref (γ 9 17), .ref (γ 9 18), .ref (γ 9 19), .ref (γ 9 20), .ref (γ 9 21), .ref (γ 9 22), .int p581179, .int p581180, .int p581181, .int p581182, .int p581183, .ref q581171, .ref (γ 9 29), .int p581184, .ref (γ 9 31), .int p581185, .int p581186, .int p581187, .ref q581172]) := (n581336 q581166 (rn_oa he581170 he581332)).trans he581170
    have he581339 : F581334 q581167 = .inr (20, [.int p581222, .int p581223, .int p581224, .int p581225, .int p581226, .int p581227, .int p581228]) := (n581336 q581167 (rn_oa he581221 he581332)).trans he581221
    have he581340 : F581334 (γ 9 21) = .inl (I .int, 2000, .inl f581329) := (n581336 (γ 9 21) (rn_ty ht581205 ht581204 (by decide))).trans he581328
    have he581341 : F581334 (γ 9 20) = .inl (I .int, 2000, .inl f581337) := e581335
    have hs581342 : rStr γ [] F581165 F581334 := rStr_put (rStr_rf (γ := γ) (W := []) (F := F581165)) n581336 ht581204 (by decide)
    refine G_iconst (-1) dr_cX17_step_173 (by decide +kernel) ?_
    have hT581343 : RS D I P581164 F581334 γ el := RS_set hT n581336 ht581204 (by decide) ⟨f581337, he581341⟩
    have ac581344 : (fI (F581334 q581166) 26).toInt = p581182.toInt := by rw [he581338]; rfl
    have ac581345 : (fI (F581334 q581166) 9).toInt = p581173.toInt := by rw [he581338]; rfl
    have ac581346 : (fI (F581334 q581166) 10).toInt = p581174.toInt := by rw [he581338]; rfl
    have ac581347 : (fI (F581334 q581166) 32).toInt = p581185.toInt := by rw [he581338]; rfl
    exact G_iretA dr_cX17_step_174 rfl (Nat.le_of_ble_eq_true rfl) (Nat.le_of_ble_eq_true rfl) ⟨F581334, (-1), rfl, rfl, hT581343, hs581342, (Nat.le_of_ble_eq_true rfl), (Nat.le_of_ble_eq_true rfl), (gB_w (gBl (show Int32.toInt (-1) = (-1) by decide)) (by decide) (by decide)), (by have qa0 : Int32.toInt (-1) = (-1) := (by decide); omega), (by have qa0 : Int32.toInt (-1) = (-1) := (by decide); omega), (by have qa0 : Int32.toInt (-1) = (-1) := (by decide); omega), (by have qa0 : Int32.toInt (-1) = (-1) := (by decide); omega)⟩
  by_cases hs581348 : p581222 = 22
  · have ehs581348 : p581222.toInt = 22 := gj_eq hs581348 (show Int32.toInt 22 = 22 by decide)
    have bp581222' : gB p581222 22 22 := ⟨by omega, by omega⟩
    refine G_eqi (y := 22) hs581348 ?_
    refine G_lookup 110 dr_cX17_step_4 (by decide) (by first | rfl | decide) (by decide) ?_
    refine G_aload_n 0 dr_cX17_step_110 rfl ?_
    refine Gp_get 25 hm581169 he581170 dr_cX17_step_111 (gk_X17 D I) (Nat.le_of_ble_eq_true rfl) wr_7_99 rfl ?_
    have bp581181 : gB p581181 0 512 := (hB581214.2.2.2.2.1)
    refine G_sipush 512 dr_cX17_step_114 (by decide +kernel) ?_
    refine G_icmp_ne 122 dr_cX17_step_117 (by decide +kernel) (fun hc581349 => ?_) (fun hc581349 => ?_)
    · have r581350 : p581181.toInt ≠ 512 := gj_neq hc581349 (show Int32.toInt 512 = 512 by decide)
      have bp581181' : gB p581181 0 511 := ⟨by omega, by omega⟩
      refine G_aload_n 0 dr_cX17_step_122 rfl ?_
      refine Gp_get 22 hm581169 he581170 dr_cX17_step_123 (gk_X17 D I) (Nat.le_of_ble_eq_true rfl) wr_7_96 rfl ?_
      refine G_aload_n 0 dr_cX17_step_126 rfl ?_
      refine Gp_get 25 hm581169 he581170 dr_cX17_step_127 (gk_X17 D I) (Nat.le_of_ble_eq_true rfl) wr_7_99 rfl ?_
      refine G_aload_n 0 dr_cX17_step_130 rfl ?_
      refine G_aload_n 1 dr_cX17_step_131 rfl ?_
      refine Gp_get 5 hm581220 he581221 dr_cX17_step_132 (gk_X15 D I) (Nat.le_of_ble_eq_true rfl) wr_9_197 rfl ?_
      refine G_aload_n 1 dr_cX17_step_135 rfl ?_
      refine Gp_get 2 hm581220 he581221 dr_cX17_step_136 (gk_X15 D I) (Nat.le_of_ble_eq_true rfl) wr_9_186 rfl ?_
      refine Gw_callV (As := [.int p581227, .int p581224]) (gV_ok D I) (ct_7532_SpillForgeModel_value l hl0 D I γ el P581164 F581165 q581166 p581227 p581224 hT htq581166 bp581227 (by omega)) dr_cX17_step_139 ⟨wr_11_100, wr_1_14, wr_11_103, by decide, rfl, (Nat.le_of_ble_eq_true rfl), (Nat.le_of_ble_eq_true rfl)⟩ wr_11_102 wr_p_115 hm581169 he581170 rfl (show 0 + 0 ≤ 0 by first | omega | decide) (show 0 + 0 ≤ 0 by first | omega | decide) (Nat.le_of_ble_eq_true rfl) (fun r581354 w581355 dc581351 ds581352 hp581353 => ?_) (fun _ _ _ _ _ z => z.elim)
      obtain ⟨o581356, rfl, rfl, hdc, hds, ht581357⟩ := hp581353
      have bo581356 := gB_any o581356
      change G _ _ _ _ _ _ _ (.int o581356 :: _) _ _ _
      refine G_widen (cs' := 0) (sl' := 0) (by omega) (by omega) ?_
      have hm581358 : (γ 9 22) ∈ P581164 := RS_m hT ht581206 (by decide)
      obtain ⟨f581360, he581359⟩ := show rk_24 I (F581165 (γ 9 22)) from RS_o hT ht581206
      refine Gp_iast 0 hm581358 he581359 dr_cX17_step_142 rfl (gB_in bp581181' (by decide) (by decide)) (fun F581361 e581362 n581363 => ?_)
      obtain ⟨f581364, hf581364⟩ : ∃ z, z = upd f581360 p581181.toNatClampNeg o581356 := ⟨_, rfl⟩
      rw [← hf581364] at e581362
      have he581365 : F581361 q581166 = .inr (22, [.ref (γ 9 0), .ref (γ 9 1), .ref (γ 9 2), .ref (γ 9 3), .ref (γ 9 4), .ref (γ 9 5), .ref (γ 9 6), .ref (γ 9 7), .ref (γ 9 8), .int p581173, .int p581174, .int p581175, .int p581176, .int p581177, .int p581178, .ref (γ 9 15), .ref (γ 9 16), .ref (γ 9 17), .ref (γ 9 18), .ref (γ 9 19), .ref (γ 9 20), .ref (γ 9 21), .ref (γ 9 22), .int p581179, .int p581180, .int p581181, .int p581182, .int p581183, .ref q581171, .ref (γ 9 29), .int p581184, .ref (γ 9 31), .int p581185, .int p581186, .int p581187, .ref q581172]) := (n581363 q581166 (rn_oa he581170 he581359)).trans he581170
      have he581366 : F581361 q581167 = .inr (20, [.int p581222, .int p581223, .int p581224, .int p581225, .int p581226, .int p581227, .int p581228]) := (n581363 q581167 (rn_oa he581221 he581359)).trans he581221
      have he581367 : F581361 (γ 9 22) = .inl (I .int, 512, .inl f581364) := e581362
      have hs581368 : rStr γ [] F581165 F581361 := rStr_put (rStr_rf (γ := γ) (W := []) (F := F581165)) n581363 ht581206 (by decide)
      refine G_aload_n 0 dr_cX17_step_143 rfl ?_
      refine G_dup dr_cX17_step_144 rfl ?_
      refine Gp_get 25 hm581169 he581365 dr_cX17_step_145 (gk_X17 D I) (Nat.le_of_ble_eq_true rfl) wr_7_99 rfl ?_
      refine G_iconst 1 dr_cX17_step_148 (by decide +kernel) ?_
      refine G_iadd dr_cX17_step_149 (G_nam fun z581369 hz581369 => ?_)
      have ez581369 : z581369.toInt = p581181.toInt + 1 := by rw [gI_add hz581369 bp581181' (gBl (show Int32.toInt 1 = 1 by decide)) (by decide) (by decide), show Int32.toInt 1 = 1 from by decide]
      have bz581369 : gB z581369 1 512 := gB_add (gI_add hz581369 bp581181' (gBl (show Int32.toInt 1 = 1 by decide)) (by decide) (by decide)) bp581181' (gBl (show Int32.toInt 1 = 1 by decide)) (by decide) (by decide)
      have hT581370 : RS D I P581164 F581361 γ el := RS_set hT n581363 ht581206 (by decide) ⟨f581364, he581367⟩
      refine Gp_put 25 hm581169 he581365 dr_cX17_step_150 (gk_X17 D I) (Nat.le_of_ble_eq_true rfl) wr_7_99 rfl rfl rfl (Nat.le_of_ble_eq_true rfl) (fun F581371 e581372 n581373 => ?_)
      have he581374 : F581371 q581167 = .inr (20, [.int p581222, .int p581223, .int p581224, .int p581225, .int p581226, .int p581227, .int p581228]) := (n581373 q581167 (rn_oo he581366 he581365 (by decide))).trans he581366
      have he581375 : F581371 (γ 9 22) = .inl (I .int, 512, .inl f581364) := (n581373 (γ 9 22) (rn_ao he581367 he581365)).trans he581367
      have he581376 : F581371 q581166 = .inr (22, [.ref (γ 9 0), .ref (γ 9 1), .ref (γ 9 2), .ref (γ 9 3), .ref (γ 9 4), .ref (γ 9 5), .ref (γ 9 6), .ref (γ 9 7), .ref (γ 9 8), .int p581173, .int p581174, .int p581175, .int p581176, .int p581177, .int p581178, .ref (γ 9 15), .ref (γ 9 16), .ref (γ 9 17), .ref (γ 9 18), .ref (γ 9 19), .ref (γ 9 20), .ref (γ 9 21), .ref (γ 9 22), .int p581179, .int p581180, .int z581369, .int p581182, .int p581183, .ref q581171, .ref (γ 9 29), .int p581184, .ref (γ 9 31), .int p581185, .int p581186, .int p581187, .ref q581172]) := e581372
      have hs581377 : rStr γ [] F581165 F581371 := rStr_put hs581368 n581373 htq581166 (by decide)
      refine G_iconst (-1) dr_cX17_step_153 (by decide +kernel) ?_
      have hT581378 : RS D I P581164 F581371 γ el := RS_set hT581370 n581373 htq581166 (by decide) ⟨q581171, q581172, p581173, p581174, p581175, p581176, p581177, p581178, p581179, p581180, z581369, p581182, p581183, p581184, p581185, p581186, p581187, he581376, ⟨bp581173, bp581174, (hB581214.2.2.1), (hB581214.2.2.2.1), (gB_w bz581369 (by decide) (by decide)), bp581182, (hB581214.2.2.2.2.2.2.1), bp581185, (hB581214.2.2.2.2.2.2.2.2)⟩, ht581188, ht581189, ht581190, ht581191, ht581192, ht581193, ht581194, ht581195, ht581196, ht581197, ht581198, ht581199, ht581200, ht581201, ht581202, ht581203, ht581204, ht581205, ht581206, ht581207, ht581208, ht581209, ht581210, ht581211, hB581215⟩
      have ac581379 : (fI (F581371 q581166) 26).toInt = p581182.toInt := by rw [he581376]; rfl
      have ac581380 : (fI (F581371 q581166) 9).toInt = p581173.toInt := by rw [he581376]; rfl
      have ac581381 : (fI (F581371 q581166) 10).toInt = p581174.toInt := by rw [he581376]; rfl
      have ac581382 : (fI (F581371 q581166) 32).toInt = p581185.toInt := by rw [he581376]; rfl
      exact G_iretA dr_cX17_step_154 rfl (Nat.le_of_ble_eq_true rfl) (Nat.le_of_ble_eq_true rfl) ⟨F581371, (-1), rfl, rfl, hT581378, hs581377, (Nat.le_of_ble_eq_true rfl), (Nat.le_of_ble_eq_true rfl), (gB_w (gBl (show Int32.toInt (-1) = (-1) by decide)) (by decide) (by decide)), (by have qa0 : Int32.toInt (-1) = (-1) := (by decide); omega), (by have qa0 : Int32.toInt (-1) = (-1) := (by decide); omega), (by have qa0 : Int32.toInt (-1) = (-1) := (by decide); omega), (by have qa0 : Int32.toInt (-1) = (-1) := (by decide); omega)⟩
    · have r581383 : p581181.toInt = 512 := gj_eq hc581349 (show Int32.toInt 512 = 512 by decide)
      have bp581181' : gB p581181 512 512 := ⟨by omega, by omega⟩
      refine G_iconst 5 dr_cX17_step_120 (by decide +kernel) ?_
      have ac581384 : (fI (F581165 q581166) 26).toInt = p581182.toInt := by rw [he581170]; rfl
      have ac581385 : (fI (F581165 q581166) 9).toInt = p581173.toInt := by rw [he581170]; rfl
      have ac581386 : (fI (F581165 q581166) 10).toInt = p581174.toInt := by rw [he581170]; rfl
      have ac581387 : (fI (F581165 q581166) 32).toInt = p581185.toInt := by rw [he581170]; rfl
      exact G_iretA dr_cX17_step_121 rfl (Nat.le_of_ble_eq_true rfl) (Nat.le_of_ble_eq_true rfl) ⟨F581165, 5, rfl, rfl, hT, (rStr_rf (γ := γ) (W := []) (F := F581165)), (Nat.le_of_ble_eq_true rfl), (Nat.le_of_ble_eq_true rfl), (gB_w (gBl (show Int32.toInt 5 = 5 by decide)) (by decide) (by decide)), (by have qa0 : Int32.toInt 5 = 5 := (by decide); omega), (by have qa0 : Int32.toInt 5 = 5 := (by decide); omega), (by have qa0 : Int32.toInt 5 = 5 := (by decide); omega), (by have qa0 : Int32.toInt 5 = 5 := (by decide); omega)⟩
  by_cases hs581388 : p581222 = 23
  · have ehs581388 : p581222.toInt = 23 := gj_eq hs581388 (show Int32.toInt 23 = 23 by decide)
    have bp581222' : gB p581222 23 23 := ⟨by omega, by omega⟩
    refine G_eqi (y := 23) hs581388 ?_
    refine G_lookup 175 dr_cX17_step_4 (by decide) (by first | rfl | decide) (by decide) ?_
    refine G_aload_n 0 dr_cX17_step_175 rfl ?_
    refine Gp_get 21 hm581169 he581170 dr_cX17_step_176 (gk_X17 D I) (Nat.le_of_ble_eq_true rfl) wr_7_95 rfl ?_
    refine G_aload_n 1 dr_cX17_step_179 rfl ?_
    refine Gp_get 4 hm581220 he581221 dr_cX17_step_180 (gk_X15 D I) (Nat.le_of_ble_eq_true rfl) wr_9_193 rfl ?_
    refine G_aload_n 0 dr_cX17_step_183 rfl ?_
    refine G_aload_n 1 dr_cX17_step_184 rfl ?_
    refine Gp_get 5 hm581220 he581221 dr_cX17_step_185 (gk_X15 D I) (Nat.le_of_ble_eq_true rfl) wr_9_197 rfl ?_
    refine G_aload_n 1 dr_cX17_step_188 rfl ?_
    refine Gp_get 2 hm581220 he581221 dr_cX17_step_189 (gk_X15 D I) (Nat.le_of_ble_eq_true rfl) wr_9_186 rfl ?_
    refine Gw_callV (As := [.int p581227, .int p581224]) (gV_ok D I) (ct_7532_SpillForgeModel_value l hl0 D I γ el P581164 F581165 q581166 p581227 p581224 hT htq581166 bp581227 (by omega)) dr_cX17_step_192 ⟨wr_11_100, wr_1_14, wr_11_103, by decide, rfl, (Nat.le_of_ble_eq_true rfl), (Nat.le_of_ble_eq_true rfl)⟩ wr_11_102 wr_p_115 hm581169 he581170 rfl (show 0 + 0 ≤ 0 by first | omega | decide) (show 0 + 0 ≤ 0 by first | omega | decide) (Nat.le_of_ble_eq_true rfl) (fun r581392 w581393 dc581389 ds581390 hp581391 => ?_) (fun _ _ _ _ _ z => z.elim)
    obtain ⟨o581394, rfl, rfl, hdc, hds, ht581395⟩ := hp581391
    have bo581394 := gB_any o581394
    change G _ _ _ _ _ _ _ (.int o581394 :: _) _ _ _
    refine G_widen (cs' := 0) (sl' := 0) (by omega) (by omega) ?_
    have hm581396 : (γ 9 21) ∈ P581164 := RS_m hT ht581205 (by decide)
    obtain ⟨f581398, he581397⟩ := show rk_23 I (F581165 (γ 9 21)) from RS_o hT ht581205
    refine Gp_iast 0 hm581396 he581397 dr_cX17_step_195 rfl (gB_in bp581226 (by decide) (by decide)) (fun F581399 e581400 n581401 => ?_)
    obtain ⟨f581402, hf581402⟩ : ∃ z, z = upd f581398 p581226.toNatClampNeg o581394 := ⟨_, rfl⟩
    rw [← hf581402] at e581400
    have he581403 : F581399 q581166 = .inr (22, [.ref (γ 9 0), .ref (γ 9 1), .ref (γ 9 2), .ref (γ 9 3), .ref (γ 9 4), .ref (γ 9 5), .ref (γ 9 6), .ref (γ 9 7), .ref (γ 9 8), .int p581173, .int p581174, .int p581175, .int p581176, .int p581177, .int p581178, .ref (γ 9 15), .ref (γ 9 16), .ref (γ 9 17), .ref (γ 9 18), .ref (γ 9 19), .ref (γ 9 20), .ref (γ 9 21), .ref (γ 9 22), .int p581179, .int p581180, .int p581181, .int p581182, .int p581183, .ref q581171, .ref (γ 9 29), .int p581184, .ref (γ 9 31), .int p581185, .int p581186, .int p581187, .ref q581172]) := (n581401 q581166 (rn_oa he581170 he581397)).trans he581170
    have he581404 : F581399 q581167 = .inr (20, [.int p581222, .int p581223, .int p581224, .int p581225, .int p581226, .int p581227, .int p581228]) := (n581401 q581167 (rn_oa he581221 he581397)).trans he581221
    have he581405 : F581399 (γ 9 21) = .inl (I .int, 2000, .inl f581402) := e581400
    have hs581406 : rStr γ [] F581165 F581399 := rStr_put (rStr_rf (γ := γ) (W := []) (F := F581165)) n581401 ht581205 (by decide)
    refine G_iconst (-1) dr_cX17_step_196 (by decide +kernel) ?_
    have hT581407 : RS D I P581164 F581399 γ el := RS_set hT n581401 ht581205 (by decide) ⟨f581402, he581405⟩
    have ac581408 : (fI (F581399 q581166) 26).toInt = p581182.toInt := by rw [he581403]; rfl
    have ac581409 : (fI (F581399 q581166) 9).toInt = p581173.toInt := by rw [he581403]; rfl
    have ac581410 : (fI (F581399 q581166) 10).toInt = p581174.toInt := by rw [he581403]; rfl
    have ac581411 : (fI (F581399 q581166) 32).toInt = p581185.toInt := by rw [he581403]; rfl
    exact G_iretA dr_cX17_step_197 rfl (Nat.le_of_ble_eq_true rfl) (Nat.le_of_ble_eq_true rfl) ⟨F581399, (-1), rfl, rfl, hT581407, hs581406, (Nat.le_of_ble_eq_true rfl), (Nat.le_of_ble_eq_true rfl), (gB_w (gBl (show Int32.toInt (-1) = (-1) by decide)) (by decide) (by decide)), (by have qa0 : Int32.toInt (-1) = (-1) := (by decide); omega), (by have qa0 : Int32.toInt (-1) = (-1) := (by decide); omega), (by have qa0 : Int32.toInt (-1) = (-1) := (by decide); omega), (by have qa0 : Int32.toInt (-1) = (-1) := (by decide); omega)⟩
  have ehs581234 := lv_neT hs581234 (show Int32.toInt 0 = 0 by decide)
  have ehs581258 := lv_neT hs581258 (show Int32.toInt 20 = 20 by decide)
  have ehs581326 := lv_neT hs581326 (show Int32.toInt 21 = 21 by decide)
  have ehs581348 := lv_neT hs581348 (show Int32.toInt 22 = 22 by decide)
  have ehs581388 := lv_neT hs581388 (show Int32.toInt 23 = 23 by decide)
  refine G_lookup 221 dr_cX17_step_4 (by decide) (by show Op.lookupswitch.offset [(0, 194), (20, 52), (21, 151), (22, 106), (23, 171)] _ _ = 217; rw [lv_osw hs581234 (show Int32.toInt 0 = 0 by decide), lv_osw hs581258 (show Int32.toInt 20 = 20 by decide), lv_osw hs581326 (show Int32.toInt 21 = 21 by decide), lv_osw hs581348 (show Int32.toInt 22 = 22 by decide), lv_osw hs581388 (show Int32.toInt 23 = 23 by decide)]; first | done | rfl) (by decide) ?_
  refine G_aload_n 1 dr_cX17_step_221 rfl ?_
  refine Gp_get 0 hm581220 he581221 dr_cX17_step_222 (gk_X15 D I) (Nat.le_of_ble_eq_true rfl) wr_9_177 rfl ?_
  refine G_aload_n 0 dr_cX17_step_225 rfl ?_
  refine G_aload_n 1 dr_cX17_step_226 rfl ?_
  refine Gp_get 5 hm581220 he581221 dr_cX17_step_227 (gk_X15 D I) (Nat.le_of_ble_eq_true rfl) wr_9_197 rfl ?_
  refine G_aload_n 1 dr_cX17_step_230 rfl ?_
  refine Gp_get 2 hm581220 he581221 dr_cX17_step_231 (gk_X15 D I) (Nat.le_of_ble_eq_true rfl) wr_9_186 rfl ?_
  refine Gw_callV (As := [.int p581227, .int p581224]) (gV_ok D I) (ct_7532_SpillForgeModel_value l hl0 D I γ el P581164 F581165 q581166 p581227 p581224 hT htq581166 bp581227 (by omega)) dr_cX17_step_234 ⟨wr_11_100, wr_1_14, wr_11_103, by decide, rfl, (Nat.le_of_ble_eq_true rfl), (Nat.le_of_ble_eq_true rfl)⟩ wr_11_102 wr_p_115 hm581169 he581170 rfl (show 0 + 0 ≤ 0 by first | omega | decide) (show 0 + 0 ≤ 0 by first | omega | decide) (Nat.le_of_ble_eq_true rfl) (fun r581415 w581416 dc581412 ds581413 hp581414 => ?_) (fun _ _ _ _ _ z => z.elim)
  obtain ⟨o581417, rfl, rfl, hdc, hds, ht581418⟩ := hp581414
  have bo581417 := gB_any o581417
  change G _ _ _ _ _ _ _ (.int o581417 :: _) _ _ _
  refine G_widen (cs' := 0) (sl' := 0) (by omega) (by omega) ?_
  refine G_aload_n 0 dr_cX17_step_237 rfl ?_
  refine G_aload_n 1 dr_cX17_step_238 rfl ?_
  refine Gp_get 6 hm581220 he581221 dr_cX17_step_239 (gk_X15 D I) (Nat.le_of_ble_eq_true rfl) wr_9_202 rfl ?_
  refine G_aload_n 1 dr_cX17_step_242 rfl ?_
  refine Gp_get 3 hm581220 he581221 dr_cX17_step_243 (gk_X15 D I) (Nat.le_of_ble_eq_true rfl) wr_9_190 rfl ?_
  refine Gw_callV (As := [.int p581228, .int p581225]) (gV_ok D I) (ct_7532_SpillForgeModel_value l hl0 D I γ el P581164 F581165 q581166 p581228 p581225 hT htq581166 bp581228 (by omega)) dr_cX17_step_246 ⟨wr_11_100, wr_1_14, wr_11_103, by decide, rfl, (Nat.le_of_ble_eq_true rfl), (Nat.le_of_ble_eq_true rfl)⟩ wr_11_102 wr_p_115 hm581169 he581170 rfl (show 0 + 0 ≤ 0 by first | omega | decide) (show 0 + 0 ≤ 0 by first | omega | decide) (Nat.le_of_ble_eq_true rfl) (fun r581422 w581423 dc581419 ds581420 hp581421 => ?_) (fun _ _ _ _ _ z => z.elim)
  obtain ⟨o581424, rfl, rfl, hdc, hds, ht581425⟩ := hp581421
  have bo581424 := gB_any o581424
  change G _ _ _ _ _ _ _ (.int o581424 :: _) _ _ _
  refine G_widen (cs' := 0) (sl' := 0) (by omega) (by omega) ?_
  refine Gw_callS (As := [.int p581222, .int o581417, .int o581424]) (gV_ok D I) (cp_2035_SpillForgeModel_result l hl0 D I P581164 F581165 p581222 o581417 o581424 ) dr_cX17_step_249 ⟨wr_11_104, wr_1_14, wr_11_106, by decide, rfl, (Nat.le_of_ble_eq_true rfl), (Nat.le_of_ble_eq_true rfl)⟩ wr_11_105 (show 0 + 0 ≤ 0 by first | omega | decide) (show 0 + 0 ≤ 0 by first | omega | decide) (Nat.le_of_ble_eq_true rfl) (fun r581429 w581430 dc581426 ds581427 hp581428 => ?_) (fun _ _ _ _ _ z => z.elim)
  obtain ⟨ol581431, rfl, rfl, hdc, hds, ht581432⟩ := hp581428
  change G _ _ _ _ _ _ _ (.long ol581431 :: _) _ _ _
  refine G_widen (cs' := 0) (sl' := 0) (by omega) (by omega) ?_
  refine G_lstore_n (L' := [(2, .long ol581431), (0, .ref q581166), (1, .ref q581167)]) dr_cX17_step_252 (Nat.le_of_ble_eq_true rfl) rfl ?_
  refine G_lload_n 0 dr_cX17_step_253 rfl ?_
  refine G_ldc2 4294967296 dr_cX17_step_254 wr_11_107 ?_
  refine G_lcmp dr_cX17_step_257 (G_nam fun z581433 hz581433 => ?_)
  have bz581433 : gB z581433 (-1) 1 := gB_cmp hz581433
  refine G_if_ne 263 dr_cX17_step_258 (by decide +kernel) (fun hc581434 => ?_) (fun hc581434 => ?_)
  · have r581435 : z581433.toInt ≠ 0 := gj_neq hc581434 (show Int32.toInt 0 = 0 by decide)
    have lhc581434 := gC_cmpN hz581433 hc581434
    refine G_aload_n 1 dr_cX17_step_263 rfl ?_
    refine Gp_get 20 hm581169 he581170 dr_cX17_step_264 (gk_X17 D I) (Nat.le_of_ble_eq_true rfl) wr_7_94 rfl ?_
    refine G_aload_n 2 dr_cX17_step_267 rfl ?_
    refine Gp_get 1 hm581220 he581221 dr_cX17_step_268 (gk_X15 D I) (Nat.le_of_ble_eq_true rfl) wr_9_182 rfl ?_
    refine G_lload_n 0 dr_cX17_step_271 rfl ?_
    refine G_l2i dr_cX17_step_272 (G_nam fun z581436 hz581436 => ?_)
    have bz581436 : gB z581436 (-2147483648) 2147483647 := gB_any z581436
    have hm581437 : (γ 9 20) ∈ P581164 := RS_m hT ht581204 (by decide)
    obtain ⟨f581439, he581438⟩ := show rk_22 I (F581165 (γ 9 20)) from RS_o hT ht581204
    refine Gp_iast 0 hm581437 he581438 dr_cX17_step_273 rfl (gB_in bp581223 (by decide) (by decide)) (fun F581440 e581441 n581442 => ?_)
    obtain ⟨f581443, hf581443⟩ : ∃ z, z = upd f581439 p581223.toNatClampNeg z581436 := ⟨_, rfl⟩
    rw [← hf581443] at e581441
    have he581444 : F581440 q581166 = .inr (22, [.ref (γ 9 0), .ref (γ 9 1), .ref (γ 9 2), .ref (γ 9 3), .ref (γ 9 4), .ref (γ 9 5), .ref (γ 9 6), .ref (γ 9 7), .ref (γ 9 8), .int p581173, .int p581174, .int p581175, .int p581176, .int p581177, .int p581178, .ref (γ 9 15), .ref (γ 9 16), .ref (γ 9 17), .ref (γ 9 18), .ref (γ 9 19), .ref (γ 9 20), .ref (γ 9 21), .ref (γ 9 22), .int p581179, .int p581180, .int p581181, .int p581182, .int p581183, .ref q581171, .ref (γ 9 29), .int p581184, .ref (γ 9 31), .int p581185, .int p581186, .int p581187, .ref q581172]) := (n581442 q581166 (rn_oa he581170 he581438)).trans he581170
    have he581445 : F581440 q581167 = .inr (20, [.int p581222, .int p581223, .int p581224, .int p581225, .int p581226, .int p581227, .int p581228]) := (n581442 q581167 (rn_oa he581221 he581438)).trans he581221
    have he581446 : F581440 (γ 9 20) = .inl (I .int, 2000, .inl f581443) := e581441
    have hs581447 : rStr γ [] F581165 F581440 := rStr_put (rStr_rf (γ := γ) (W := []) (F := F581165)) n581442 ht581204 (by decide)
    refine G_iconst (-1) dr_cX17_step_274 (by decide +kernel) ?_
    have hT581448 : RS D I P581164 F581440 γ el := RS_set hT n581442 ht581204 (by decide) ⟨f581443, he581446⟩
    have ac581449 : (fI (F581440 q581166) 26).toInt = p581182.toInt := by rw [he581444]; rfl
    have ac581450 : (fI (F581440 q581166) 9).toInt = p581173.toInt := by rw [he581444]; rfl
    have ac581451 : (fI (F581440 q581166) 10).toInt = p581174.toInt := by rw [he581444]; rfl
    have ac581452 : (fI (F581440 q581166) 32).toInt = p581185.toInt := by rw [he581444]; rfl
    exact G_iretA dr_cX17_step_275 rfl (Nat.le_of_ble_eq_true rfl) (Nat.le_of_ble_eq_true rfl) ⟨F581440, (-1), rfl, rfl, hT581448, hs581447, (Nat.le_of_ble_eq_true rfl), (Nat.le_of_ble_eq_true rfl), (gB_w (gBl (show Int32.toInt (-1) = (-1) by decide)) (by decide) (by decide)), (by have qa0 : Int32.toInt (-1) = (-1) := (by decide); omega), (by have qa0 : Int32.toInt (-1) = (-1) := (by decide); omega), (by have qa0 : Int32.toInt (-1) = (-1) := (by decide); omega), (by have qa0 : Int32.toInt (-1) = (-1) := (by decide); omega)⟩
  · have r581453 : z581433.toInt = 0 := gj_eq hc581434 (show Int32.toInt 0 = 0 by decide)
    have bz581433' : gB z581433 0 0 := ⟨by omega, by omega⟩
    have lhc581434 := gC_cmpE hz581433 hc581434
    refine G_iconst 1 dr_cX17_step_261 (by decide +kernel) ?_
    have ac581454 : (fI (F581165 q581166) 26).toInt = p581182.toInt := by rw [he581170]; rfl
    have ac581455 : (fI (F581165 q581166) 9).toInt = p581173.toInt := by rw [he581170]; rfl
    have ac581456 : (fI (F581165 q581166) 10).toInt = p581174.toInt := by rw [he581170]; rfl
    have ac581457 : (fI (F581165 q581166) 32).toInt = p581185.toInt := by rw [he581170]; rfl
    exact G_iretA dr_cX17_step_262 rfl (Nat.le_of_ble_eq_true rfl) (Nat.le_of_ble_eq_true rfl) ⟨F581165, 1, rfl, rfl, hT, (rStr_rf (γ := γ) (W := []) (F := F581165)), (Nat.le_of_ble_eq_true rfl), (Nat.le_of_ble_eq_true rfl), (gB_w (gBl (show Int32.toInt 1 = 1 by decide)) (by decide) (by decide)), (by have qa0 : Int32.toInt 1 = 1 := (by decide); omega), (by have qa0 : Int32.toInt 1 = 1 := (by decide); omega), (by have qa0 : Int32.toInt 1 = 1 := (by decide); omega), (by have qa0 : Int32.toInt 1 = 1 := (by decide); omega)⟩
