abbrev ky_578426_SpillForgeModel_no : gKey := (cX17_no, 2, "SpillForgeModel", (some FieldType.int), [], "no", fun _ _ => True)
def pt_578426_SpillForgeModel_no (D : va_G) (I : FieldType → ClassId) (γ el : Nat → Nat → Nat) (P578422 : List Nat) (F578423 : Nat → va_E) (q578424 : Nat) (p578425 : Int32) : Option Value → va_W → Nat → Nat → Prop := fun r w dc ds => ∃ (F578488 : Nat → va_E), r = some (.int 0) ∧ w = va_pl P578422 F578488 ∧ RS D I P578422 F578488 γ el ∧ rStr γ [] F578423 F578488 ∧ dc ≤ 0 ∧ ds ≤ 0 ∧ (fI (F578488 q578424) 9).toInt = (fI (F578423 q578424) 9).toInt ∧ (fI (F578488 q578424) 10).toInt = (fI (F578423 q578424) 10).toInt ∧ (fI (F578488 q578424) 32).toInt = (fI (F578423 q578424) 32).toInt ∧ (fI (F578488 q578424) 30).toInt = p578425.toInt
set_option maxRecDepth 100000 in
set_option maxHeartbeats 4000000 in
theorem ct_578426_SpillForgeModel_no (l : Launch) (hl0 : l.stackTraces = false) (D : va_G) (I : FieldType → ClassId) (γ el : Nat → Nat → Nat) (P578422 : List Nat) (F578423 : Nat → va_E) (q578424 : Nat) (p578425 : Int32) (hT : RS D I P578422 F578423 γ el) (htq578424 : rKd γ q578424 10) : CtA (gV D I) l yX17_no cX17_no 2 (some FieldType.int) 0 0 0 0 [.ref q578424, .int p578425] (va_pl P578422 F578423) (pt_578426_SpillForgeModel_no D I γ el P578422 F578423 q578424 p578425) gNA := by
  refine CtA_of hl0 (by decide) (Nat.le_of_ble_eq_true rfl) ?_
  have bp578425 := gB_any p578425
  have hm578427 : q578424 ∈ P578422 := RS_m hT htq578424 (by decide)
  refine rk10_e (show rk_10 γ (F578423 q578424) from RS_o hT htq578424) (fun q578429 q578430 p578431 p578432 p578433 p578434 p578435 p578436 p578437 p578438 p578439 p578440 p578441 p578442 p578443 p578444 p578445 he578428 hB578472 ht578446 ht578447 ht578448 ht578449 ht578450 ht578451 ht578452 ht578453 ht578454 ht578455 ht578456 ht578457 ht578458 ht578459 ht578460 ht578461 ht578462 ht578463 ht578464 ht578465 ht578466 ht578467 ht578468 ht578469 hB578473 => ?_)
  have ac578474 : (fI (F578423 q578424) 9).toInt = p578431.toInt := by rw [he578428]; rfl
  have bp578431 : gB p578431 0 1 := (hB578472.1)
  have ac578475 : (fI (F578423 q578424) 10).toInt = p578432.toInt := by rw [he578428]; rfl
  have bp578432 : gB p578432 0 1 := (hB578472.2.1)
  have ac578476 : (fI (F578423 q578424) 32).toInt = p578443.toInt := by rw [he578428]; rfl
  have bp578443 : gB p578443 0 8192 := (hB578472.2.2.2.2.2.2.2.1)
  have ac578477 : (fI (F578423 q578424) 30).toInt = p578442.toInt := by rw [he578428]; rfl
  have bp578442 : gB p578442 (-2147483648) 2147483647 := (gB_any p578442)
  refine G_aload_n 0 dr_cX17_no_0 rfl ?_
  refine G_iload_n 1 dr_cX17_no_1 rfl ?_
  refine Gp_put 30 hm578427 he578428 dr_cX17_no_2 (gk_X17 D I) (Nat.le_of_ble_eq_true rfl) wr_7_104 rfl rfl rfl (Nat.le_of_ble_eq_true rfl) (fun F578478 e578479 n578480 => ?_)
  have he578481 : F578478 q578424 = .inr (22, [.ref (γ 9 0), .ref (γ 9 1), .ref (γ 9 2), .ref (γ 9 3), .ref (γ 9 4), .ref (γ 9 5), .ref (γ 9 6), .ref (γ 9 7), .ref (γ 9 8), .int p578431, .int p578432, .int p578433, .int p578434, .int p578435, .int p578436, .ref (γ 9 15), .ref (γ 9 16), .ref (γ 9 17), .ref (γ 9 18), .ref (γ 9 19), .ref (γ 9 20), .ref (γ 9 21), .ref (γ 9 22), .int p578437, .int p578438, .int p578439, .int p578440, .int p578441, .ref q578429, .ref (γ 9 29), .int p578425, .ref (γ 9 31), .int p578443, .int p578444, .int p578445, .ref q578430]) := e578479
  have hs578482 : rStr γ [] F578423 F578478 := rStr_put (rStr_rf (γ := γ) (W := []) (F := F578423)) n578480 htq578424 (by decide)
  refine G_iconst 0 dr_cX17_no_5 (by decide +kernel) ?_
  have hT578483 : RS D I P578422 F578478 γ el := RS_set hT n578480 htq578424 (by decide) ⟨q578429, q578430, p578431, p578432, p578433, p578434, p578435, p578436, p578437, p578438, p578439, p578440, p578441, p578425, p578443, p578444, p578445, he578481, ⟨bp578431, bp578432, (hB578472.2.2.1), (hB578472.2.2.2.1), (hB578472.2.2.2.2.1), (hB578472.2.2.2.2.2.1), (hB578472.2.2.2.2.2.2.1), bp578443, (hB578472.2.2.2.2.2.2.2.2)⟩, ht578446, ht578447, ht578448, ht578449, ht578450, ht578451, ht578452, ht578453, ht578454, ht578455, ht578456, ht578457, ht578458, ht578459, ht578460, ht578461, ht578462, ht578463, ht578464, ht578465, ht578466, ht578467, ht578468, ht578469, hB578473⟩
  have ac578484 : (fI (F578478 q578424) 9).toInt = p578431.toInt := by rw [he578481]; rfl
  have ac578485 : (fI (F578478 q578424) 10).toInt = p578432.toInt := by rw [he578481]; rfl
  have ac578486 : (fI (F578478 q578424) 32).toInt = p578443.toInt := by rw [he578481]; rfl
  have ac578487 : (fI (F578478 q578424) 30).toInt = p578425.toInt := by rw [he578481]; rfl
  exact G_iretA dr_cX17_no_6 rfl (Nat.le_of_ble_eq_true rfl) (Nat.le_of_ble_eq_true rfl) ⟨F578478, rfl, rfl, hT578483, hs578482, (Nat.le_of_ble_eq_true rfl), (Nat.le_of_ble_eq_true rfl), (by have qa0 : Int32.toInt 0 = 0 := (by decide); omega), (by have qa0 : Int32.toInt 0 = 0 := (by decide); omega), (by have qa0 : Int32.toInt 0 = 0 := (by decide); omega), (by have qa0 : Int32.toInt 0 = 0 := (by decide); omega)⟩
abbrev ky_578333_SpillForgeModel_told : gKey := (cX17_told, 2, "SpillForgeModel", (some FieldType.int), [], "told", fun _ _ => True)
def pt_578333_SpillForgeModel_told (D : va_G) (I : FieldType → ClassId) (γ el : Nat → Nat → Nat) (P578329 : List Nat) (F578330 : Nat → va_E) (q578331 : Nat) (p578332 : Int32) : Option Value → va_W → Nat → Nat → Prop := fun r w dc ds => ∃ (F578559 : Nat → va_E) (o578558 : Int32), r = some (.int o578558) ∧ w = va_pl P578329 F578559 ∧ RS D I P578329 F578559 γ el ∧ rStr γ [] F578330 F578559 ∧ dc ≤ 0 ∧ ds ≤ 0 ∧ (fI (F578559 q578331) 9).toInt = (fI (F578330 q578331) 9).toInt ∧ (fI (F578559 q578331) 10).toInt = (fI (F578330 q578331) 10).toInt ∧ (fI (F578559 q578331) 32).toInt = (fI (F578330 q578331) 32).toInt
set_option maxRecDepth 100000 in
set_option maxHeartbeats 4000000 in
theorem ct_578333_SpillForgeModel_told (l : Launch) (hl0 : l.stackTraces = false) (D : va_G) (I : FieldType → ClassId) (γ el : Nat → Nat → Nat) (P578329 : List Nat) (F578330 : Nat → va_E) (q578331 : Nat) (p578332 : Int32) (hT : RS D I P578329 F578330 γ el) (htq578331 : rKd γ q578331 10) : CtA (gV D I) l yX17_told cX17_told 2 (some FieldType.int) 1 21 0 0 [.ref q578331, .int p578332] (va_pl P578329 F578330) (pt_578333_SpillForgeModel_told D I γ el P578329 F578330 q578331 p578332) gNA := by
  refine CtA_of hl0 (by decide) (Nat.le_of_ble_eq_true rfl) ?_
  have bp578332 := gB_any p578332
  have hm578334 : q578331 ∈ P578329 := RS_m hT htq578331 (by decide)
  refine rk10_e (show rk_10 γ (F578330 q578331) from RS_o hT htq578331) (fun q578336 q578337 p578338 p578339 p578340 p578341 p578342 p578343 p578344 p578345 p578346 p578347 p578348 p578349 p578350 p578351 p578352 he578335 hB578379 ht578353 ht578354 ht578355 ht578356 ht578357 ht578358 ht578359 ht578360 ht578361 ht578362 ht578363 ht578364 ht578365 ht578366 ht578367 ht578368 ht578369 ht578370 ht578371 ht578372 ht578373 ht578374 ht578375 ht578376 hB578380 => ?_)
  have ac578381 : (fI (F578330 q578331) 9).toInt = p578338.toInt := by rw [he578335]; rfl
  have bp578338 : gB p578338 0 1 := (hB578379.1)
  have ac578382 : (fI (F578330 q578331) 10).toInt = p578339.toInt := by rw [he578335]; rfl
  have bp578339 : gB p578339 0 1 := (hB578379.2.1)
  have ac578383 : (fI (F578330 q578331) 32).toInt = p578350.toInt := by rw [he578335]; rfl
  have bp578350 : gB p578350 0 8192 := (hB578379.2.2.2.2.2.2.2.1)
  refine G_aload_n 0 dr_cX17_told_0 rfl ?_
  refine G_iconst 0 dr_cX17_told_1 (by decide +kernel) ?_
  refine Gp_put 30 hm578334 he578335 dr_cX17_told_2 (gk_X17 D I) (Nat.le_of_ble_eq_true rfl) wr_7_104 rfl rfl rfl (Nat.le_of_ble_eq_true rfl) (fun F578384 e578385 n578386 => ?_)
  have he578387 : F578384 q578331 = .inr (22, [.ref (γ 9 0), .ref (γ 9 1), .ref (γ 9 2), .ref (γ 9 3), .ref (γ 9 4), .ref (γ 9 5), .ref (γ 9 6), .ref (γ 9 7), .ref (γ 9 8), .int p578338, .int p578339, .int p578340, .int p578341, .int p578342, .int p578343, .ref (γ 9 15), .ref (γ 9 16), .ref (γ 9 17), .ref (γ 9 18), .ref (γ 9 19), .ref (γ 9 20), .ref (γ 9 21), .ref (γ 9 22), .int p578344, .int p578345, .int p578346, .int p578347, .int p578348, .ref q578336, .ref (γ 9 29), .int 0, .ref (γ 9 31), .int p578350, .int p578351, .int p578352, .ref q578337]) := e578385
  have hs578388 : rStr γ [] F578330 F578384 := rStr_put (rStr_rf (γ := γ) (W := []) (F := F578330)) n578386 htq578331 (by decide)
  refine G_iload_n 1 dr_cX17_told_5 rfl ?_
  by_cases hs578389 : p578332 = 0
  · have ehs578389 : p578332.toInt = 0 := gj_eq hs578389 (show Int32.toInt 0 = 0 by decide)
    have bp578332' : gB p578332 0 0 := ⟨by omega, by omega⟩
    refine G_eqi (y := 0) hs578389 ?_
    refine G_tableIn 40 dr_cX17_told_6 (by decide) (by decide) (by first | rfl | decide) (by decide) ?_
    refine G_aload_n 0 dr_cX17_told_40 rfl ?_
    refine Gp_get 23 hm578334 he578387 dr_cX17_told_41 (gk_X17 D I) (Nat.le_of_ble_eq_true rfl) wr_7_97 rfl ?_
    have bp578344 : gB p578344 (-2147483648) 2147483647 := (gB_any p578344)
    refine G_if_ne 54 dr_cX17_told_44 (by decide +kernel) (fun hc578390 => ?_) (fun hc578390 => ?_)
    · have r578391 : p578344.toInt ≠ 0 := gj_neq hc578390 (show Int32.toInt 0 = 0 by decide)
      refine G_iconst 0 dr_cX17_told_54 (by decide +kernel) ?_
      have hT578392 : RS D I P578329 F578384 γ el := RS_set hT n578386 htq578331 (by decide) ⟨q578336, q578337, p578338, p578339, p578340, p578341, p578342, p578343, p578344, p578345, p578346, p578347, p578348, 0, p578350, p578351, p578352, he578387, ⟨bp578338, bp578339, (hB578379.2.2.1), (hB578379.2.2.2.1), (hB578379.2.2.2.2.1), (hB578379.2.2.2.2.2.1), (hB578379.2.2.2.2.2.2.1), bp578350, (hB578379.2.2.2.2.2.2.2.2)⟩, ht578353, ht578354, ht578355, ht578356, ht578357, ht578358, ht578359, ht578360, ht578361, ht578362, ht578363, ht578364, ht578365, ht578366, ht578367, ht578368, ht578369, ht578370, ht578371, ht578372, ht578373, ht578374, ht578375, ht578376, hB578380⟩
      have ac578393 : (fI (F578384 q578331) 9).toInt = p578338.toInt := by rw [he578387]; rfl
      have ac578394 : (fI (F578384 q578331) 10).toInt = p578339.toInt := by rw [he578387]; rfl
      have ac578395 : (fI (F578384 q578331) 32).toInt = p578350.toInt := by rw [he578387]; rfl
      exact G_iretA dr_cX17_told_55 rfl (Nat.le_of_ble_eq_true rfl) (Nat.le_of_ble_eq_true rfl) ⟨F578384, 0, rfl, rfl, hT578392, hs578388, (Nat.le_of_ble_eq_true rfl), (Nat.le_of_ble_eq_true rfl), (by have qa0 : Int32.toInt 0 = 0 := (by decide); omega), (by have qa0 : Int32.toInt 0 = 0 := (by decide); omega), (by have qa0 : Int32.toInt 0 = 0 := (by decide); omega)⟩
    · have r578396 : p578344.toInt = 0 := gj_eq hc578390 (show Int32.toInt 0 = 0 by decide)
      have bp578344' : gB p578344 0 0 := ⟨by omega, by omega⟩
      refine G_aload_n 0 dr_cX17_told_47 rfl ?_
      refine Gp_get 24 hm578334 he578387 dr_cX17_told_48 (gk_X17 D I) (Nat.le_of_ble_eq_true rfl) wr_7_98 rfl ?_
      have bp578345 : gB p578345 (-2147483648) 2147483647 := (gB_any p578345)
      refine G_goto 55 dr_cX17_told_51 (by decide +kernel) ?_
      have hT578397 : RS D I P578329 F578384 γ el := RS_set hT n578386 htq578331 (by decide) ⟨q578336, q578337, p578338, p578339, p578340, p578341, p578342, p578343, p578344, p578345, p578346, p578347, p578348, 0, p578350, p578351, p578352, he578387, ⟨bp578338, bp578339, (hB578379.2.2.1), (hB578379.2.2.2.1), (hB578379.2.2.2.2.1), (hB578379.2.2.2.2.2.1), (hB578379.2.2.2.2.2.2.1), bp578350, (hB578379.2.2.2.2.2.2.2.2)⟩, ht578353, ht578354, ht578355, ht578356, ht578357, ht578358, ht578359, ht578360, ht578361, ht578362, ht578363, ht578364, ht578365, ht578366, ht578367, ht578368, ht578369, ht578370, ht578371, ht578372, ht578373, ht578374, ht578375, ht578376, hB578380⟩
      have ac578398 : (fI (F578384 q578331) 9).toInt = p578338.toInt := by rw [he578387]; rfl
      have ac578399 : (fI (F578384 q578331) 10).toInt = p578339.toInt := by rw [he578387]; rfl
      have ac578400 : (fI (F578384 q578331) 32).toInt = p578350.toInt := by rw [he578387]; rfl
      exact G_iretA dr_cX17_told_55 rfl (Nat.le_of_ble_eq_true rfl) (Nat.le_of_ble_eq_true rfl) ⟨F578384, p578345, rfl, rfl, hT578397, hs578388, (Nat.le_of_ble_eq_true rfl), (Nat.le_of_ble_eq_true rfl), (by omega), (by omega), (by omega)⟩
  by_cases hs578401 : p578332 = 1
  · have ehs578401 : p578332.toInt = 1 := gj_eq hs578401 (show Int32.toInt 1 = 1 by decide)
    have bp578332' : gB p578332 1 1 := ⟨by omega, by omega⟩
    refine G_eqi (y := 1) hs578401 ?_
    refine G_tableIn 56 dr_cX17_told_6 (by decide) (by decide) (by first | rfl | decide) (by decide) ?_
    refine G_aload_n 0 dr_cX17_told_56 rfl ?_
    refine Gp_get 25 hm578334 he578387 dr_cX17_told_57 (gk_X17 D I) (Nat.le_of_ble_eq_true rfl) wr_7_99 rfl ?_
    have bp578346 : gB p578346 0 512 := (hB578379.2.2.2.2.1)
    have hT578402 : RS D I P578329 F578384 γ el := RS_set hT n578386 htq578331 (by decide) ⟨q578336, q578337, p578338, p578339, p578340, p578341, p578342, p578343, p578344, p578345, p578346, p578347, p578348, 0, p578350, p578351, p578352, he578387, ⟨bp578338, bp578339, (hB578379.2.2.1), (hB578379.2.2.2.1), bp578346, (hB578379.2.2.2.2.2.1), (hB578379.2.2.2.2.2.2.1), bp578350, (hB578379.2.2.2.2.2.2.2.2)⟩, ht578353, ht578354, ht578355, ht578356, ht578357, ht578358, ht578359, ht578360, ht578361, ht578362, ht578363, ht578364, ht578365, ht578366, ht578367, ht578368, ht578369, ht578370, ht578371, ht578372, ht578373, ht578374, ht578375, ht578376, hB578380⟩
    have ac578403 : (fI (F578384 q578331) 9).toInt = p578338.toInt := by rw [he578387]; rfl
    have ac578404 : (fI (F578384 q578331) 10).toInt = p578339.toInt := by rw [he578387]; rfl
    have ac578405 : (fI (F578384 q578331) 32).toInt = p578350.toInt := by rw [he578387]; rfl
    exact G_iretA dr_cX17_told_60 rfl (Nat.le_of_ble_eq_true rfl) (Nat.le_of_ble_eq_true rfl) ⟨F578384, p578346, rfl, rfl, hT578402, hs578388, (Nat.le_of_ble_eq_true rfl), (Nat.le_of_ble_eq_true rfl), (by omega), (by omega), (by omega)⟩
  by_cases hs578406 : p578332 = 2
  · have ehs578406 : p578332.toInt = 2 := gj_eq hs578406 (show Int32.toInt 2 = 2 by decide)
    have bp578332' : gB p578332 2 2 := ⟨by omega, by omega⟩
    refine G_eqi (y := 2) hs578406 ?_
    refine G_tableIn 61 dr_cX17_told_6 (by decide) (by decide) (by first | rfl | decide) (by decide) ?_
    refine G_aload_n 0 dr_cX17_told_61 rfl ?_
    refine Gp_get 26 hm578334 he578387 dr_cX17_told_62 (gk_X17 D I) (Nat.le_of_ble_eq_true rfl) wr_7_100 rfl ?_
    have bp578347 : gB p578347 0 100000 := (hB578379.2.2.2.2.2.1)
    have hT578407 : RS D I P578329 F578384 γ el := RS_set hT n578386 htq578331 (by decide) ⟨q578336, q578337, p578338, p578339, p578340, p578341, p578342, p578343, p578344, p578345, p578346, p578347, p578348, 0, p578350, p578351, p578352, he578387, ⟨bp578338, bp578339, (hB578379.2.2.1), (hB578379.2.2.2.1), (hB578379.2.2.2.2.1), bp578347, (hB578379.2.2.2.2.2.2.1), bp578350, (hB578379.2.2.2.2.2.2.2.2)⟩, ht578353, ht578354, ht578355, ht578356, ht578357, ht578358, ht578359, ht578360, ht578361, ht578362, ht578363, ht578364, ht578365, ht578366, ht578367, ht578368, ht578369, ht578370, ht578371, ht578372, ht578373, ht578374, ht578375, ht578376, hB578380⟩
    have ac578408 : (fI (F578384 q578331) 9).toInt = p578338.toInt := by rw [he578387]; rfl
    have ac578409 : (fI (F578384 q578331) 10).toInt = p578339.toInt := by rw [he578387]; rfl
    have ac578410 : (fI (F578384 q578331) 32).toInt = p578350.toInt := by rw [he578387]; rfl
    exact G_iretA dr_cX17_told_65 rfl (Nat.le_of_ble_eq_true rfl) (Nat.le_of_ble_eq_true rfl) ⟨F578384, p578347, rfl, rfl, hT578407, hs578388, (Nat.le_of_ble_eq_true rfl), (Nat.le_of_ble_eq_true rfl), (by omega), (by omega), (by omega)⟩
  by_cases hs578411 : p578332 = 3
  · have ehs578411 : p578332.toInt = 3 := gj_eq hs578411 (show Int32.toInt 3 = 3 by decide)
    have bp578332' : gB p578332 3 3 := ⟨by omega, by omega⟩
    refine G_eqi (y := 3) hs578411 ?_
    refine G_tableIn 66 dr_cX17_told_6 (by decide) (by decide) (by first | rfl | decide) (by decide) ?_
    refine G_aload_n 0 dr_cX17_told_66 rfl ?_
    refine Gp_get 27 hm578334 he578387 dr_cX17_told_67 (gk_X17 D I) (Nat.le_of_ble_eq_true rfl) wr_7_101 rfl ?_
    have bp578348 : gB p578348 0 2048 := (hB578379.2.2.2.2.2.2.1)
    have hT578412 : RS D I P578329 F578384 γ el := RS_set hT n578386 htq578331 (by decide) ⟨q578336, q578337, p578338, p578339, p578340, p578341, p578342, p578343, p578344, p578345, p578346, p578347, p578348, 0, p578350, p578351, p578352, he578387, ⟨bp578338, bp578339, (hB578379.2.2.1), (hB578379.2.2.2.1), (hB578379.2.2.2.2.1), (hB578379.2.2.2.2.2.1), bp578348, bp578350, (hB578379.2.2.2.2.2.2.2.2)⟩, ht578353, ht578354, ht578355, ht578356, ht578357, ht578358, ht578359, ht578360, ht578361, ht578362, ht578363, ht578364, ht578365, ht578366, ht578367, ht578368, ht578369, ht578370, ht578371, ht578372, ht578373, ht578374, ht578375, ht578376, hB578380⟩
    have ac578413 : (fI (F578384 q578331) 9).toInt = p578338.toInt := by rw [he578387]; rfl
    have ac578414 : (fI (F578384 q578331) 10).toInt = p578339.toInt := by rw [he578387]; rfl
    have ac578415 : (fI (F578384 q578331) 32).toInt = p578350.toInt := by rw [he578387]; rfl
    exact G_iretA dr_cX17_told_70 rfl (Nat.le_of_ble_eq_true rfl) (Nat.le_of_ble_eq_true rfl) ⟨F578384, p578348, rfl, rfl, hT578412, hs578388, (Nat.le_of_ble_eq_true rfl), (Nat.le_of_ble_eq_true rfl), (by omega), (by omega), (by omega)⟩
  by_cases hs578416 : p578332 = 4
  · have ehs578416 : p578332.toInt = 4 := gj_eq hs578416 (show Int32.toInt 4 = 4 by decide)
    have bp578332' : gB p578332 4 4 := ⟨by omega, by omega⟩
    refine G_eqi (y := 4) hs578416 ?_
    refine G_tableIn 71 dr_cX17_told_6 (by decide) (by decide) (by first | rfl | decide) (by decide) ?_
    refine G_aload_n 0 dr_cX17_told_71 rfl ?_
    refine Gp_get 23 hm578334 he578387 dr_cX17_told_72 (gk_X17 D I) (Nat.le_of_ble_eq_true rfl) wr_7_97 rfl ?_
    have bp578344 : gB p578344 (-2147483648) 2147483647 := (gB_any p578344)
    have hT578417 : RS D I P578329 F578384 γ el := RS_set hT n578386 htq578331 (by decide) ⟨q578336, q578337, p578338, p578339, p578340, p578341, p578342, p578343, p578344, p578345, p578346, p578347, p578348, 0, p578350, p578351, p578352, he578387, ⟨bp578338, bp578339, (hB578379.2.2.1), (hB578379.2.2.2.1), (hB578379.2.2.2.2.1), (hB578379.2.2.2.2.2.1), (hB578379.2.2.2.2.2.2.1), bp578350, (hB578379.2.2.2.2.2.2.2.2)⟩, ht578353, ht578354, ht578355, ht578356, ht578357, ht578358, ht578359, ht578360, ht578361, ht578362, ht578363, ht578364, ht578365, ht578366, ht578367, ht578368, ht578369, ht578370, ht578371, ht578372, ht578373, ht578374, ht578375, ht578376, hB578380⟩
    have ac578418 : (fI (F578384 q578331) 9).toInt = p578338.toInt := by rw [he578387]; rfl
    have ac578419 : (fI (F578384 q578331) 10).toInt = p578339.toInt := by rw [he578387]; rfl
    have ac578420 : (fI (F578384 q578331) 32).toInt = p578350.toInt := by rw [he578387]; rfl
    exact G_iretA dr_cX17_told_75 rfl (Nat.le_of_ble_eq_true rfl) (Nat.le_of_ble_eq_true rfl) ⟨F578384, p578344, rfl, rfl, hT578417, hs578388, (Nat.le_of_ble_eq_true rfl), (Nat.le_of_ble_eq_true rfl), (by omega), (by omega), (by omega)⟩
  have ehs578389 := lv_neT hs578389 (show Int32.toInt 0 = 0 by decide)
  have ehs578401 := lv_neT hs578401 (show Int32.toInt 1 = 1 by decide)
  have ehs578406 := lv_neT hs578406 (show Int32.toInt 2 = 2 by decide)
  have ehs578411 := lv_neT hs578411 (show Int32.toInt 3 = 3 by decide)
  have ehs578416 := lv_neT hs578416 (show Int32.toInt 4 = 4 by decide)
  refine G_tableOut 76 dr_cX17_told_6 (by omega) (by decide) ?_
  refine G_aload_n 0 dr_cX17_told_76 rfl ?_
  refine G_iconst 1 dr_cX17_told_77 (by decide +kernel) ?_
  have hT578421 : RS D I P578329 F578384 γ el := RS_set hT n578386 htq578331 (by decide) ⟨q578336, q578337, p578338, p578339, p578340, p578341, p578342, p578343, p578344, p578345, p578346, p578347, p578348, 0, p578350, p578351, p578352, he578387, ⟨bp578338, bp578339, (hB578379.2.2.1), (hB578379.2.2.2.1), (hB578379.2.2.2.2.1), (hB578379.2.2.2.2.2.1), (hB578379.2.2.2.2.2.2.1), bp578350, (hB578379.2.2.2.2.2.2.2.2)⟩, ht578353, ht578354, ht578355, ht578356, ht578357, ht578358, ht578359, ht578360, ht578361, ht578362, ht578363, ht578364, ht578365, ht578366, ht578367, ht578368, ht578369, ht578370, ht578371, ht578372, ht578373, ht578374, ht578375, ht578376, hB578380⟩
  have ac578489 : (fI (F578384 q578331) 9).toInt = p578338.toInt := by rw [he578387]; rfl
  have ac578490 : (fI (F578384 q578331) 10).toInt = p578339.toInt := by rw [he578387]; rfl
  have ac578491 : (fI (F578384 q578331) 32).toInt = p578350.toInt := by rw [he578387]; rfl
  refine Gw_callV (As := [.int 1]) (gV_ok D I) (ct_578426_SpillForgeModel_no l hl0 D I γ el P578329 F578384 q578331 1 hT578421 htq578331) dr_cX17_told_78 ⟨wr_7_191, wr_1_14, wr_7_194, by decide, rfl, (Nat.le_of_ble_eq_true rfl), (Nat.le_of_ble_eq_true rfl)⟩ wr_7_193 wr_p_73 hm578334 he578387 rfl (show 0 + 0 ≤ 0 by first | omega | decide) (show 0 + 0 ≤ 0 by first | omega | decide) (Nat.le_of_ble_eq_true rfl) (fun r578495 w578496 dc578492 ds578493 hp578494 => ?_) (fun _ _ _ _ _ z => z.elim)
  obtain ⟨F578501, rfl, rfl, hT578502, hs578503, hdc, hds, x578497, x578498, x578499, x578500⟩ := hp578494
  have hs578504 : rStr γ [] F578330 F578501 := rStr_tr hs578388 hs578503
  rw [show Int32.toInt 1 = 1 from by decide] at x578500
  change G _ _ _ _ _ _ _ (.int 0 :: _) _ _ _
  refine G_widen (cs' := 0) (sl' := 0) (by omega) (by omega) ?_
  have hm578505 : q578331 ∈ P578329 := RS_m hT578502 htq578331 (by decide)
  refine rk10_e (show rk_10 γ (F578501 q578331) from RS_o hT578502 htq578331) (fun q578507 q578508 p578509 p578510 p578511 p578512 p578513 p578514 p578515 p578516 p578517 p578518 p578519 p578520 p578521 p578522 p578523 he578506 hB578550 ht578524 ht578525 ht578526 ht578527 ht578528 ht578529 ht578530 ht578531 ht578532 ht578533 ht578534 ht578535 ht578536 ht578537 ht578538 ht578539 ht578540 ht578541 ht578542 ht578543 ht578544 ht578545 ht578546 ht578547 hB578551 => ?_)
  have ac578552 : (fI (F578501 q578331) 9).toInt = p578509.toInt := by rw [he578506]; rfl
  have bp578509 : gB p578509 0 1 := (hB578550.1)
  have ac578553 : (fI (F578501 q578331) 10).toInt = p578510.toInt := by rw [he578506]; rfl
  have bp578510 : gB p578510 0 1 := (hB578550.2.1)
  have ac578554 : (fI (F578501 q578331) 32).toInt = p578521.toInt := by rw [he578506]; rfl
  have bp578521 : gB p578521 0 8192 := (hB578550.2.2.2.2.2.2.2.1)
  have ac578555 : (fI (F578501 q578331) 9).toInt = p578509.toInt := by rw [he578506]; rfl
  have ac578556 : (fI (F578501 q578331) 10).toInt = p578510.toInt := by rw [he578506]; rfl
  have ac578557 : (fI (F578501 q578331) 32).toInt = p578521.toInt := by rw [he578506]; rfl
  exact G_iretA dr_cX17_told_81 rfl (Nat.le_of_ble_eq_true rfl) (Nat.le_of_ble_eq_true rfl) ⟨F578501, 0, rfl, rfl, hT578502, hs578504, (Nat.le_of_ble_eq_true rfl), (Nat.le_of_ble_eq_true rfl), (by have qa0 : Int32.toInt 0 = 0 := (by decide); omega), (by have qa0 : Int32.toInt 0 = 0 := (by decide); omega), (by have qa0 : Int32.toInt 0 = 0 := (by decide); omega)⟩
abbrev ky_578564_SpillForgeModel_shown : gKey := (cX17_shown, 2, "SpillForgeModel", (some FieldType.int), [], "shown", fun _ _ => True)
def pt_578564_SpillForgeModel_shown (D : va_G) (I : FieldType → ClassId) (γ el : Nat → Nat → Nat) (P578560 : List Nat) (F578561 : Nat → va_E) (q578562 : Nat) (p578563 : Int32) : Option Value → va_W → Nat → Nat → Prop := fun r w dc ds => ∃ (F578775 : Nat → va_E) (o578774 : Int32), r = some (.int o578774) ∧ w = va_pl P578560 F578775 ∧ RS D I P578560 F578775 γ el ∧ rStr γ [] F578561 F578775 ∧ dc ≤ 0 ∧ ds ≤ 0 ∧ (fI (F578775 q578562) 9).toInt = (fI (F578561 q578562) 9).toInt ∧ (fI (F578775 q578562) 10).toInt = (fI (F578561 q578562) 10).toInt ∧ (fI (F578775 q578562) 32).toInt = (fI (F578561 q578562) 32).toInt
set_option maxRecDepth 100000 in
set_option maxHeartbeats 4000000 in
theorem ct_578564_SpillForgeModel_shown (l : Launch) (hl0 : l.stackTraces = false) (D : va_G) (I : FieldType → ClassId) (γ el : Nat → Nat → Nat) (P578560 : List Nat) (F578561 : Nat → va_E) (q578562 : Nat) (p578563 : Int32) (hT : RS D I P578560 F578561 γ el) (htq578562 : rKd γ q578562 10) : CtA (gV D I) l yX17_shown cX17_shown 2 (some FieldType.int) 1 21 0 0 [.ref q578562, .int p578563] (va_pl P578560 F578561) (pt_578564_SpillForgeModel_shown D I γ el P578560 F578561 q578562 p578563) gNA := by
  refine CtA_of hl0 (by decide) (Nat.le_of_ble_eq_true rfl) ?_
  have bp578563 := gB_any p578563
  have hm578565 : q578562 ∈ P578560 := RS_m hT htq578562 (by decide)
  refine rk10_e (show rk_10 γ (F578561 q578562) from RS_o hT htq578562) (fun q578567 q578568 p578569 p578570 p578571 p578572 p578573 p578574 p578575 p578576 p578577 p578578 p578579 p578580 p578581 p578582 p578583 he578566 hB578610 ht578584 ht578585 ht578586 ht578587 ht578588 ht578589 ht578590 ht578591 ht578592 ht578593 ht578594 ht578595 ht578596 ht578597 ht578598 ht578599 ht578600 ht578601 ht578602 ht578603 ht578604 ht578605 ht578606 ht578607 hB578611 => ?_)
  have ac578612 : (fI (F578561 q578562) 9).toInt = p578569.toInt := by rw [he578566]; rfl
  have bp578569 : gB p578569 0 1 := (hB578610.1)
  have ac578613 : (fI (F578561 q578562) 10).toInt = p578570.toInt := by rw [he578566]; rfl
  have bp578570 : gB p578570 0 1 := (hB578610.2.1)
  have ac578614 : (fI (F578561 q578562) 32).toInt = p578581.toInt := by rw [he578566]; rfl
  have bp578581 : gB p578581 0 8192 := (hB578610.2.2.2.2.2.2.2.1)
  refine G_aload_n 0 dr_cX17_shown_0 rfl ?_
  refine G_iconst 0 dr_cX17_shown_1 (by decide +kernel) ?_
  refine Gp_put 30 hm578565 he578566 dr_cX17_shown_2 (gk_X17 D I) (Nat.le_of_ble_eq_true rfl) wr_7_104 rfl rfl rfl (Nat.le_of_ble_eq_true rfl) (fun F578615 e578616 n578617 => ?_)
  have he578618 : F578615 q578562 = .inr (22, [.ref (γ 9 0), .ref (γ 9 1), .ref (γ 9 2), .ref (γ 9 3), .ref (γ 9 4), .ref (γ 9 5), .ref (γ 9 6), .ref (γ 9 7), .ref (γ 9 8), .int p578569, .int p578570, .int p578571, .int p578572, .int p578573, .int p578574, .ref (γ 9 15), .ref (γ 9 16), .ref (γ 9 17), .ref (γ 9 18), .ref (γ 9 19), .ref (γ 9 20), .ref (γ 9 21), .ref (γ 9 22), .int p578575, .int p578576, .int p578577, .int p578578, .int p578579, .ref q578567, .ref (γ 9 29), .int 0, .ref (γ 9 31), .int p578581, .int p578582, .int p578583, .ref q578568]) := e578616
  have hs578619 : rStr γ [] F578561 F578615 := rStr_put (rStr_rf (γ := γ) (W := []) (F := F578561)) n578617 htq578562 (by decide)
  refine G_iload_n 1 dr_cX17_shown_5 rfl ?_
  refine G_if_lt 26 dr_cX17_shown_6 (by decide +kernel) (fun hc578620 => ?_) (fun hc578620 => ?_)
  · have r578621 : p578563.toInt < 0 := gj_lt hc578620 (show Int32.toInt 0 = 0 by decide)
    have bp578563' : gB p578563 (-2147483648) (-1) := ⟨by omega, by omega⟩
    refine G_aload_n 0 dr_cX17_shown_26 rfl ?_
    refine G_iconst 1 dr_cX17_shown_27 (by decide +kernel) ?_
    have hT578622 : RS D I P578560 F578615 γ el := RS_set hT n578617 htq578562 (by decide) ⟨q578567, q578568, p578569, p578570, p578571, p578572, p578573, p578574, p578575, p578576, p578577, p578578, p578579, 0, p578581, p578582, p578583, he578618, ⟨bp578569, bp578570, (hB578610.2.2.1), (hB578610.2.2.2.1), (hB578610.2.2.2.2.1), (hB578610.2.2.2.2.2.1), (hB578610.2.2.2.2.2.2.1), bp578581, (hB578610.2.2.2.2.2.2.2.2)⟩, ht578584, ht578585, ht578586, ht578587, ht578588, ht578589, ht578590, ht578591, ht578592, ht578593, ht578594, ht578595, ht578596, ht578597, ht578598, ht578599, ht578600, ht578601, ht578602, ht578603, ht578604, ht578605, ht578606, ht578607, hB578611⟩
    have ac578623 : (fI (F578615 q578562) 9).toInt = p578569.toInt := by rw [he578618]; rfl
    have ac578624 : (fI (F578615 q578562) 10).toInt = p578570.toInt := by rw [he578618]; rfl
    have ac578625 : (fI (F578615 q578562) 32).toInt = p578581.toInt := by rw [he578618]; rfl
    refine Gw_callV (As := [.int 1]) (gV_ok D I) (ct_578426_SpillForgeModel_no l hl0 D I γ el P578560 F578615 q578562 1 hT578622 htq578562) dr_cX17_shown_28 ⟨wr_7_191, wr_1_14, wr_7_194, by decide, rfl, (Nat.le_of_ble_eq_true rfl), (Nat.le_of_ble_eq_true rfl)⟩ wr_7_193 wr_p_73 hm578565 he578618 rfl (show 0 + 0 ≤ 0 by first | omega | decide) (show 0 + 0 ≤ 0 by first | omega | decide) (Nat.le_of_ble_eq_true rfl) (fun r578629 w578630 dc578626 ds578627 hp578628 => ?_) (fun _ _ _ _ _ z => z.elim)
    obtain ⟨F578635, rfl, rfl, hT578636, hs578637, hdc, hds, x578631, x578632, x578633, x578634⟩ := hp578628
    have hs578638 : rStr γ [] F578561 F578635 := rStr_tr hs578619 hs578637
    rw [show Int32.toInt 1 = 1 from by decide] at x578634
    change G _ _ _ _ _ _ _ (.int 0 :: _) _ _ _
    refine G_widen (cs' := 0) (sl' := 0) (by omega) (by omega) ?_
    have hm578639 : q578562 ∈ P578560 := RS_m hT578636 htq578562 (by decide)
    refine rk10_e (show rk_10 γ (F578635 q578562) from RS_o hT578636 htq578562) (fun q578641 q578642 p578643 p578644 p578645 p578646 p578647 p578648 p578649 p578650 p578651 p578652 p578653 p578654 p578655 p578656 p578657 he578640 hB578684 ht578658 ht578659 ht578660 ht578661 ht578662 ht578663 ht578664 ht578665 ht578666 ht578667 ht578668 ht578669 ht578670 ht578671 ht578672 ht578673 ht578674 ht578675 ht578676 ht578677 ht578678 ht578679 ht578680 ht578681 hB578685 => ?_)
    have ac578686 : (fI (F578635 q578562) 9).toInt = p578643.toInt := by rw [he578640]; rfl
    have bp578643 : gB p578643 0 1 := (hB578684.1)
    have ac578687 : (fI (F578635 q578562) 10).toInt = p578644.toInt := by rw [he578640]; rfl
    have bp578644 : gB p578644 0 1 := (hB578684.2.1)
    have ac578688 : (fI (F578635 q578562) 32).toInt = p578655.toInt := by rw [he578640]; rfl
    have bp578655 : gB p578655 0 8192 := (hB578684.2.2.2.2.2.2.2.1)
    have ac578689 : (fI (F578635 q578562) 9).toInt = p578643.toInt := by rw [he578640]; rfl
    have ac578690 : (fI (F578635 q578562) 10).toInt = p578644.toInt := by rw [he578640]; rfl
    have ac578691 : (fI (F578635 q578562) 32).toInt = p578655.toInt := by rw [he578640]; rfl
    exact G_iretA dr_cX17_shown_31 rfl (Nat.le_of_ble_eq_true rfl) (Nat.le_of_ble_eq_true rfl) ⟨F578635, 0, rfl, rfl, hT578636, hs578638, (Nat.le_of_ble_eq_true rfl), (Nat.le_of_ble_eq_true rfl), (by have qa0 : Int32.toInt 0 = 0 := (by decide); omega), (by have qa0 : Int32.toInt 0 = 0 := (by decide); omega), (by have qa0 : Int32.toInt 0 = 0 := (by decide); omega)⟩
  · have r578692 : 0 ≤ p578563.toInt := gj_nlt hc578620 (show Int32.toInt 0 = 0 by decide)
    have bp578563' : gB p578563 0 2147483647 := ⟨by omega, by omega⟩
    refine G_iload_n 1 dr_cX17_shown_9 rfl ?_
    refine G_aload_n 0 dr_cX17_shown_10 rfl ?_
    refine Gp_get 25 hm578565 he578618 dr_cX17_shown_11 (gk_X17 D I) (Nat.le_of_ble_eq_true rfl) wr_7_99 rfl ?_
    have bp578577 : gB p578577 0 512 := (hB578610.2.2.2.2.1)
    refine G_icmp_ge 26 dr_cX17_shown_14 (by decide +kernel) (fun hc578693 => ?_) (fun hc578693 => ?_)
    · have r578694 : p578577.toInt ≤ p578563.toInt := gC_le hc578693
      refine G_aload_n 0 dr_cX17_shown_26 rfl ?_
      refine G_iconst 1 dr_cX17_shown_27 (by decide +kernel) ?_
      have hT578695 : RS D I P578560 F578615 γ el := RS_set hT n578617 htq578562 (by decide) ⟨q578567, q578568, p578569, p578570, p578571, p578572, p578573, p578574, p578575, p578576, p578577, p578578, p578579, 0, p578581, p578582, p578583, he578618, ⟨bp578569, bp578570, (hB578610.2.2.1), (hB578610.2.2.2.1), bp578577, (hB578610.2.2.2.2.2.1), (hB578610.2.2.2.2.2.2.1), bp578581, (hB578610.2.2.2.2.2.2.2.2)⟩, ht578584, ht578585, ht578586, ht578587, ht578588, ht578589, ht578590, ht578591, ht578592, ht578593, ht578594, ht578595, ht578596, ht578597, ht578598, ht578599, ht578600, ht578601, ht578602, ht578603, ht578604, ht578605, ht578606, ht578607, hB578611⟩
      have ac578696 : (fI (F578615 q578562) 9).toInt = p578569.toInt := by rw [he578618]; rfl
      have ac578697 : (fI (F578615 q578562) 10).toInt = p578570.toInt := by rw [he578618]; rfl
      have ac578698 : (fI (F578615 q578562) 32).toInt = p578581.toInt := by rw [he578618]; rfl
      refine Gw_callV (As := [.int 1]) (gV_ok D I) (ct_578426_SpillForgeModel_no l hl0 D I γ el P578560 F578615 q578562 1 hT578695 htq578562) dr_cX17_shown_28 ⟨wr_7_191, wr_1_14, wr_7_194, by decide, rfl, (Nat.le_of_ble_eq_true rfl), (Nat.le_of_ble_eq_true rfl)⟩ wr_7_193 wr_p_73 hm578565 he578618 rfl (show 0 + 0 ≤ 0 by first | omega | decide) (show 0 + 0 ≤ 0 by first | omega | decide) (Nat.le_of_ble_eq_true rfl) (fun r578702 w578703 dc578699 ds578700 hp578701 => ?_) (fun _ _ _ _ _ z => z.elim)
      obtain ⟨F578708, rfl, rfl, hT578709, hs578710, hdc, hds, x578704, x578705, x578706, x578707⟩ := hp578701
      have hs578711 : rStr γ [] F578561 F578708 := rStr_tr hs578619 hs578710
      rw [show Int32.toInt 1 = 1 from by decide] at x578707
      change G _ _ _ _ _ _ _ (.int 0 :: _) _ _ _
      refine G_widen (cs' := 0) (sl' := 0) (by omega) (by omega) ?_
      have hm578712 : q578562 ∈ P578560 := RS_m hT578709 htq578562 (by decide)
      refine rk10_e (show rk_10 γ (F578708 q578562) from RS_o hT578709 htq578562) (fun q578714 q578715 p578716 p578717 p578718 p578719 p578720 p578721 p578722 p578723 p578724 p578725 p578726 p578727 p578728 p578729 p578730 he578713 hB578757 ht578731 ht578732 ht578733 ht578734 ht578735 ht578736 ht578737 ht578738 ht578739 ht578740 ht578741 ht578742 ht578743 ht578744 ht578745 ht578746 ht578747 ht578748 ht578749 ht578750 ht578751 ht578752 ht578753 ht578754 hB578758 => ?_)
      have ac578759 : (fI (F578708 q578562) 9).toInt = p578716.toInt := by rw [he578713]; rfl
      have bp578716 : gB p578716 0 1 := (hB578757.1)
      have ac578760 : (fI (F578708 q578562) 10).toInt = p578717.toInt := by rw [he578713]; rfl
      have bp578717 : gB p578717 0 1 := (hB578757.2.1)
      have ac578761 : (fI (F578708 q578562) 32).toInt = p578728.toInt := by rw [he578713]; rfl
      have bp578728 : gB p578728 0 8192 := (hB578757.2.2.2.2.2.2.2.1)
      have ac578762 : (fI (F578708 q578562) 9).toInt = p578716.toInt := by rw [he578713]; rfl
      have ac578763 : (fI (F578708 q578562) 10).toInt = p578717.toInt := by rw [he578713]; rfl
      have ac578764 : (fI (F578708 q578562) 32).toInt = p578728.toInt := by rw [he578713]; rfl
      exact G_iretA dr_cX17_shown_31 rfl (Nat.le_of_ble_eq_true rfl) (Nat.le_of_ble_eq_true rfl) ⟨F578708, 0, rfl, rfl, hT578709, hs578711, (Nat.le_of_ble_eq_true rfl), (Nat.le_of_ble_eq_true rfl), (by have qa0 : Int32.toInt 0 = 0 := (by decide); omega), (by have qa0 : Int32.toInt 0 = 0 := (by decide); omega), (by have qa0 : Int32.toInt 0 = 0 := (by decide); omega)⟩
    · have r578765 : p578563.toInt < p578577.toInt := gC_nle hc578693
      have bp578563'' : gB p578563 0 511 := ⟨by omega, by omega⟩
      have bp578577' : gB p578577 1 512 := ⟨by omega, by omega⟩
      refine G_aload_n 0 dr_cX17_shown_17 rfl ?_
      refine Gp_get 22 hm578565 he578618 dr_cX17_shown_18 (gk_X17 D I) (Nat.le_of_ble_eq_true rfl) wr_7_96 rfl ?_
      refine G_iload_n 1 dr_cX17_shown_21 rfl ?_
      have hT578766 : RS D I P578560 F578615 γ el := RS_set hT n578617 htq578562 (by decide) ⟨q578567, q578568, p578569, p578570, p578571, p578572, p578573, p578574, p578575, p578576, p578577, p578578, p578579, 0, p578581, p578582, p578583, he578618, ⟨bp578569, bp578570, (hB578610.2.2.1), (hB578610.2.2.2.1), (gB_w bp578577' (by decide) (by decide)), (hB578610.2.2.2.2.2.1), (hB578610.2.2.2.2.2.2.1), bp578581, (hB578610.2.2.2.2.2.2.2.2)⟩, ht578584, ht578585, ht578586, ht578587, ht578588, ht578589, ht578590, ht578591, ht578592, ht578593, ht578594, ht578595, ht578596, ht578597, ht578598, ht578599, ht578600, ht578601, ht578602, ht578603, ht578604, ht578605, ht578606, ht578607, hB578611⟩
      have hm578767 : (γ 9 22) ∈ P578560 := RS_m hT578766 ht578602 (by decide)
      obtain ⟨f578769, he578768⟩ := show rk_24 I (F578615 (γ 9 22)) from RS_o hT578766 ht578602
      refine Gp_iald 0 hm578767 he578768 dr_cX17_shown_22 rfl (gB_in bp578563'' (by decide) (by decide)) (G_nam fun z578770 hz578770 => ?_)
      have bz578770 : gB z578770 (-2147483648) 2147483647 := gB_any z578770
      refine G_goto 31 dr_cX17_shown_23 (by decide +kernel) ?_
      have ac578771 : (fI (F578615 q578562) 9).toInt = p578569.toInt := by rw [he578618]; rfl
      have ac578772 : (fI (F578615 q578562) 10).toInt = p578570.toInt := by rw [he578618]; rfl
      have ac578773 : (fI (F578615 q578562) 32).toInt = p578581.toInt := by rw [he578618]; rfl
      exact G_iretA dr_cX17_shown_31 rfl (Nat.le_of_ble_eq_true rfl) (Nat.le_of_ble_eq_true rfl) ⟨F578615, z578770, rfl, rfl, hT578766, hs578619, (Nat.le_of_ble_eq_true rfl), (Nat.le_of_ble_eq_true rfl), (by omega), (by omega), (by omega)⟩
abbrev ky_578779_SpillForgeModel_thrown : gKey := (cX17_thrown, 1, "SpillForgeModel", (some FieldType.int), [], "thrown", fun _ _ => True)
def pt_578779_SpillForgeModel_thrown (D : va_G) (I : FieldType → ClassId) (γ el : Nat → Nat → Nat) (P578776 : List Nat) (F578777 : Nat → va_E) (q578778 : Nat) : Option Value → va_W → Nat → Nat → Prop := fun r w dc ds => ∃ (o578829 : Int32), r = some (.int o578829) ∧ w = va_pl P578776 F578777 ∧ dc ≤ 0 ∧ ds ≤ 0 ∧ o578829.toInt = (fI (F578777 q578778) 30).toInt
set_option maxRecDepth 100000 in
set_option maxHeartbeats 4000000 in
theorem ct_578779_SpillForgeModel_thrown (l : Launch) (hl0 : l.stackTraces = false) (D : va_G) (I : FieldType → ClassId) (γ el : Nat → Nat → Nat) (P578776 : List Nat) (F578777 : Nat → va_E) (q578778 : Nat) (hT : RS D I P578776 F578777 γ el) (htq578778 : rKd γ q578778 10) : CtA (gV D I) l yX17_thrown cX17_thrown 1 (some FieldType.int) 0 0 0 0 [.ref q578778] (va_pl P578776 F578777) (pt_578779_SpillForgeModel_thrown D I γ el P578776 F578777 q578778) gNA := by
  refine CtA_of hl0 (by decide) (Nat.le_of_ble_eq_true rfl) ?_
  have hm578780 : q578778 ∈ P578776 := RS_m hT htq578778 (by decide)
  refine rk10_e (show rk_10 γ (F578777 q578778) from RS_o hT htq578778) (fun q578782 q578783 p578784 p578785 p578786 p578787 p578788 p578789 p578790 p578791 p578792 p578793 p578794 p578795 p578796 p578797 p578798 he578781 hB578825 ht578799 ht578800 ht578801 ht578802 ht578803 ht578804 ht578805 ht578806 ht578807 ht578808 ht578809 ht578810 ht578811 ht578812 ht578813 ht578814 ht578815 ht578816 ht578817 ht578818 ht578819 ht578820 ht578821 ht578822 hB578826 => ?_)
  have ac578827 : (fI (F578777 q578778) 30).toInt = p578795.toInt := by rw [he578781]; rfl
  have bp578795 : gB p578795 (-2147483648) 2147483647 := (gB_any p578795)
  refine G_aload_n 0 dr_cX17_thrown_0 rfl ?_
  refine Gp_get 30 hm578780 he578781 dr_cX17_thrown_1 (gk_X17 D I) (Nat.le_of_ble_eq_true rfl) wr_7_104 rfl ?_
  have ac578828 : (fI (F578777 q578778) 30).toInt = p578795.toInt := by rw [he578781]; rfl
  exact G_iretA dr_cX17_thrown_4 rfl (Nat.le_of_ble_eq_true rfl) (Nat.le_of_ble_eq_true rfl) ⟨p578795, rfl, rfl, (Nat.le_of_ble_eq_true rfl), (Nat.le_of_ble_eq_true rfl), (by omega)⟩
abbrev ky_578905_SpillForgeModel_word : gKey := (cX17_word, 4, "SpillForgeModel", none, [], "word", fun _ _ => True)
def pt_578905_SpillForgeModel_word (D : va_G) (I : FieldType → ClassId) (γ el : Nat → Nat → Nat) (P578900 : List Nat) (F578901 : Nat → va_E) (q578902 : Nat) (p578903 : Int32) (p578904 : Int32) : Option Value → va_W → Nat → Nat → Prop := fun r w dc ds => ∃ (F579395 : Nat → va_E), r = none ∧ w = va_pl P578900 F579395 ∧ RS D I P578900 F579395 γ el ∧ rStr γ [] F578901 F579395 ∧ dc ≤ 0 ∧ ds ≤ 0 ∧ (fI (F579395 q578902) 9).toInt = (fI (F578901 q578902) 9).toInt ∧ (fI (F579395 q578902) 10).toInt = (fI (F578901 q578902) 10).toInt ∧ (fI (F579395 q578902) 32).toInt = (fI (F578901 q578902) 32).toInt ∧ (fI (F579395 q578902) 30).toInt = (fI (F578901 q578902) 30).toInt
set_option maxRecDepth 100000 in
set_option maxHeartbeats 4000000 in
theorem ct_578905_SpillForgeModel_word (l : Launch) (hl0 : l.stackTraces = false) (D : va_G) (I : FieldType → ClassId) (γ el : Nat → Nat → Nat) (P578900 : List Nat) (F578901 : Nat → va_E) (q578902 : Nat) (p578903 : Int32) (p578904 : Int32) (hT : RS D I P578900 F578901 γ el) (htq578902 : rKd γ q578902 10) (bp578904 : gB p578904 0 8188) : CtA (gV D I) l yX17_word cX17_word 4 none 0 0 0 0 [.ref q578902, .int p578903, .int p578904] (va_pl P578900 F578901) (pt_578905_SpillForgeModel_word D I γ el P578900 F578901 q578902 p578903 p578904) gNA := by
  refine CtA_of hl0 (by decide) (Nat.le_of_ble_eq_true rfl) ?_
  have bp578903 := gB_any p578903
  have hm578906 : q578902 ∈ P578900 := RS_m hT htq578902 (by decide)
  refine rk10_e (show rk_10 γ (F578901 q578902) from RS_o hT htq578902) (fun q578908 q578909 p578910 p578911 p578912 p578913 p578914 p578915 p578916 p578917 p578918 p578919 p578920 p578921 p578922 p578923 p578924 he578907 hB578951 ht578925 ht578926 ht578927 ht578928 ht578929 ht578930 ht578931 ht578932 ht578933 ht578934 ht578935 ht578936 ht578937 ht578938 ht578939 ht578940 ht578941 ht578942 ht578943 ht578944 ht578945 ht578946 ht578947 ht578948 hB578952 => ?_)
  have ac578953 : (fI (F578901 q578902) 9).toInt = p578910.toInt := by rw [he578907]; rfl
  have bp578910 : gB p578910 0 1 := (hB578951.1)
  have ac578954 : (fI (F578901 q578902) 10).toInt = p578911.toInt := by rw [he578907]; rfl
  have bp578911 : gB p578911 0 1 := (hB578951.2.1)
  have ac578955 : (fI (F578901 q578902) 32).toInt = p578922.toInt := by rw [he578907]; rfl
  have bp578922 : gB p578922 0 8192 := (hB578951.2.2.2.2.2.2.2.1)
  have ac578956 : (fI (F578901 q578902) 30).toInt = p578921.toInt := by rw [he578907]; rfl
  have bp578921 : gB p578921 (-2147483648) 2147483647 := (gB_any p578921)
  refine G_iconst 0 dr_cX17_word_0 (by decide +kernel) ?_
  refine G_istore_n (L' := [(3, .int 0), (0, .ref q578902), (1, .int p578903), (2, .int p578904)]) dr_cX17_word_1 (Nat.le_of_ble_eq_true rfl) rfl ?_
  have hlp2_579304 : ∀ (n2_579304 : Nat) (F579298 : Nat → va_E) (g579297 : Int32), gB g579297 0 4 → RS D I P578900 F579298 γ el → rStr γ [] F578901 F579298 → (fI (F579298 q578902) 9).toInt = (fI (F578901 q578902) 9).toInt → (fI (F579298 q578902) 10).toInt = (fI (F578901 q578902) 10).toInt → (fI (F579298 q578902) 32).toInt = (fI (F578901 q578902) 32).toInt → (fI (F579298 q578902) 30).toInt = (fI (F578901 q578902) 30).toInt → ((5 : Int) - g579297.toInt).toNat < n2_579304 → G (gV D I) l (gRm 0 0 0 0) (gMA (gV D I) (pt_578905_SpillForgeModel_word D I γ el P578900 F578901 q578902 p578903 p578904) gNA 0 0) ky_578905_SpillForgeModel_word 2 [(3, .int g579297), (0, .ref q578902), (1, .int p578903), (2, .int p578904)] [] (va_pl P578900 F579298) 0 0 := by
    intro n2_579304
    induction n2_579304 with
    | zero => intro F579298 g579297 bg579297 hT579299 hs579300 x579301 x579302 x579303 x579304 hm2_579304; exact absurd hm2_579304 (Nat.not_lt_zero _)
    | succ n2_579304 ih2_579304 =>
      intro F579298 g579297 bg579297 hT579299 hs579300 x579301 x579302 x579303 x579304 hm2_579304
      have hs579306 : rStr γ [] F578901 F579298 := fun b h0 hb hw => (hs579300 b h0 hb hw).trans ((rStr_rf (γ := γ) (W := []) (F := F578901)) b h0 hb hw).symm
      have hs579307 : rStr γ [] F578901 F579298 := rStr_tr (rStr_rf (γ := γ) (W := []) (F := F578901)) hs579306
      have hm579308 : q578902 ∈ P578900 := RS_m hT579299 htq578902 (by decide)
      refine rk10_e (show rk_10 γ (F579298 q578902) from RS_o hT579299 htq578902) (fun q579310 q579311 p579312 p579313 p579314 p579315 p579316 p579317 p579318 p579319 p579320 p579321 p579322 p579323 p579324 p579325 p579326 he579309 hB579353 ht579327 ht579328 ht579329 ht579330 ht579331 ht579332 ht579333 ht579334 ht579335 ht579336 ht579337 ht579338 ht579339 ht579340 ht579341 ht579342 ht579343 ht579344 ht579345 ht579346 ht579347 ht579348 ht579349 ht579350 hB579354 => ?_)
      have ac579355 : (fI (F579298 q578902) 9).toInt = p579312.toInt := by rw [he579309]; rfl
      have bp579312 : gB p579312 0 1 := (hB579353.1)
      have ac579356 : (fI (F579298 q578902) 10).toInt = p579313.toInt := by rw [he579309]; rfl
      have bp579313 : gB p579313 0 1 := (hB579353.2.1)
      have ac579357 : (fI (F579298 q578902) 32).toInt = p579324.toInt := by rw [he579309]; rfl
      have bp579324 : gB p579324 0 8192 := (hB579353.2.2.2.2.2.2.2.1)
      have ac579358 : (fI (F579298 q578902) 30).toInt = p579323.toInt := by rw [he579309]; rfl
      have bp579323 : gB p579323 (-2147483648) 2147483647 := (gB_any p579323)
      have ac579359 : (fI (F579298 q578902) 9).toInt = p579312.toInt := by rw [he579309]; rfl
      have ac579360 : (fI (F579298 q578902) 10).toInt = p579313.toInt := by rw [he579309]; rfl
      have ac579361 : (fI (F579298 q578902) 32).toInt = p579324.toInt := by rw [he579309]; rfl
      have ac579362 : (fI (F579298 q578902) 30).toInt = p579323.toInt := by rw [he579309]; rfl
      refine G_iload_n 0 dr_cX17_word_2 rfl ?_
      refine G_iconst 4 dr_cX17_word_3 (by decide +kernel) ?_
      refine G_icmp_ge 31 dr_cX17_word_4 (by decide +kernel) (fun hc579363 => ?_) (fun hc579363 => ?_)
      · have r579364 : 4 ≤ g579297.toInt := gj_leL hc579363 (show Int32.toInt 4 = 4 by decide)
        have bg579297' : gB g579297 4 4 := ⟨by omega, by omega⟩
        have ac579365 : (fI (F579298 q578902) 9).toInt = p579312.toInt := by rw [he579309]; rfl
        have ac579366 : (fI (F579298 q578902) 10).toInt = p579313.toInt := by rw [he579309]; rfl
        have ac579367 : (fI (F579298 q578902) 32).toInt = p579324.toInt := by rw [he579309]; rfl
        have ac579368 : (fI (F579298 q578902) 30).toInt = p579323.toInt := by rw [he579309]; rfl
        exact G_vretA dr_cX17_word_31 rfl (Nat.le_of_ble_eq_true rfl) (Nat.le_of_ble_eq_true rfl) ⟨F579298, rfl, rfl, hT579299, hs579300, (Nat.le_of_ble_eq_true rfl), (Nat.le_of_ble_eq_true rfl), (by omega), (by omega), (by omega), (by omega)⟩
      · have r579369 : g579297.toInt < 4 := gj_nleL hc579363 (show Int32.toInt 4 = 4 by decide)
        have bg579297' : gB g579297 0 3 := ⟨by omega, by omega⟩
        refine G_aload_n 1 dr_cX17_word_7 rfl ?_
        refine Gp_get 31 hm579308 he579309 dr_cX17_word_8 (gk_X17 D I) (Nat.le_of_ble_eq_true rfl) wr_7_105 rfl ?_
        refine G_iload_n 3 dr_cX17_word_11 rfl ?_
        refine G_iload_n 0 dr_cX17_word_12 rfl ?_
        refine G_iadd dr_cX17_word_13 (G_nam fun z579370 hz579370 => ?_)
        have ez579370 : z579370.toInt = p578904.toInt + g579297.toInt := by rw [gI_add hz579370 bp578904 bg579297' (by decide) (by decide)]
        have bz579370 : gB z579370 0 8191 := gB_add (gI_add hz579370 bp578904 bg579297' (by decide) (by decide)) bp578904 bg579297' (by decide) (by decide)
        refine G_iload_n 2 dr_cX17_word_14 rfl ?_
        refine G_bipush 24 dr_cX17_word_15 (by decide +kernel) ?_
        refine G_bipush 8 dr_cX17_word_17 (by decide +kernel) ?_
        refine G_iload_n 0 dr_cX17_word_19 rfl ?_
        refine G_imul dr_cX17_word_20 (G_nam fun z579371 hz579371 => ?_)
        have ez579371 : z579371.toInt = 8 * g579297.toInt := by rw [gI_mul hz579371 (gBl (show Int32.toInt 8 = 8 by decide)) bg579297' (by decide) (by decide) (by decide), show Int32.toInt 8 = 8 from by decide]
        have bz579371 : gB z579371 0 24 := gB_mul hz579371 (gBl (show Int32.toInt 8 = 8 by decide)) bg579297' (by decide) (by decide) (by decide) (by decide)
        refine G_isub dr_cX17_word_21 (G_nam fun z579372 hz579372 => ?_)
        have ez579372 : z579372.toInt = 24 - z579371.toInt := by rw [gI_sub hz579372 (gBl (show Int32.toInt 24 = 24 by decide)) bz579371 (by decide) (by decide), show Int32.toInt 24 = 24 from by decide]
        have bz579372 : gB z579372 0 24 := gB_sub (gI_sub hz579372 (gBl (show Int32.toInt 24 = 24 by decide)) bz579371 (by decide) (by decide)) (gBl (show Int32.toInt 24 = 24 by decide)) bz579371 (by decide) (by decide)
        refine G_ishr dr_cX17_word_22 (G_nam fun z579373 hz579373 => ?_)
        have bz579373 : gB z579373 (-2147483648) 2147483647 := gB_any z579373
        refine G_i2b dr_cX17_word_23 (G_nam fun z579374 hz579374 => ?_)
        have bz579374 : gB z579374 (-128) 127 := gB_i2b hz579374
        have hm579375 : (γ 9 31) ∈ P578900 := RS_m hT579299 ht579347 (by decide)
        obtain ⟨f579377, he579376, bf579377⟩ := show rk_25 I (F579298 (γ 9 31)) from RS_o hT579299 ht579347
        refine Gp_bast 1 hm579375 he579376 dr_cX17_word_24 rfl (gB_in bz579370 (by decide) (by decide)) (fun F579378 e579379 n579380 => ?_)
        obtain ⟨f579381, hf579381⟩ : ∃ z, z = upd f579377 z579370.toNatClampNeg (vp_nar .byte z579374) := ⟨_, rfl⟩
        rw [← hf579381] at e579379
        have he579382 : F579378 q578902 = .inr (22, [.ref (γ 9 0), .ref (γ 9 1), .ref (γ 9 2), .ref (γ 9 3), .ref (γ 9 4), .ref (γ 9 5), .ref (γ 9 6), .ref (γ 9 7), .ref (γ 9 8), .int p579312, .int p579313, .int p579314, .int p579315, .int p579316, .int p579317, .ref (γ 9 15), .ref (γ 9 16), .ref (γ 9 17), .ref (γ 9 18), .ref (γ 9 19), .ref (γ 9 20), .ref (γ 9 21), .ref (γ 9 22), .int p579318, .int p579319, .int p579320, .int p579321, .int p579322, .ref q579310, .ref (γ 9 29), .int p579323, .ref (γ 9 31), .int p579324, .int p579325, .int p579326, .ref q579311]) := (n579380 q578902 (rn_oa he579309 he579376)).trans he579309
        have he579383 : F579378 (γ 9 31) = .inl (I .byte, 8192, .inl f579381) := e579379
        have hs579384 : rStr γ [] F578901 F579378 := rStr_put hs579300 n579380 ht579347 (by decide)
        have bf579381 : gF f579381 (-128) 127 := gF_upd hf579381 bf579377 gB_byte
        obtain ⟨z579385, hz579385⟩ : ∃ z : Int32, z = g579297 + Int32.ofInt 1 := ⟨_, rfl⟩
        have ez579385 : z579385.toInt = g579297.toInt + 1 := gI_inc hz579385 (by decide) bg579297' (by decide) (by decide)
        have bz579385 : gB z579385 1 4 := ⟨by omega, by omega⟩
        refine G_iinc (L' := [(3, .int z579385), (0, .ref q578902), (1, .int p578903), (2, .int p578904)]) z579385 0 dr_cX17_word_25 rfl hz579385.symm (Nat.le_of_ble_eq_true rfl) rfl ?_
        refine G_goto 2 dr_cX17_word_28 (by decide +kernel) ?_
        have hT579386 : RS D I P578900 F579378 γ el := RS_set hT579299 n579380 ht579347 (by decide) ⟨f579381, he579383, bf579381⟩
        have ac579387 : (fI (F579378 q578902) 9).toInt = p579312.toInt := by rw [he579382]; rfl
        have ac579388 : (fI (F579378 q578902) 10).toInt = p579313.toInt := by rw [he579382]; rfl
        have ac579389 : (fI (F579378 q578902) 32).toInt = p579324.toInt := by rw [he579382]; rfl
        have ac579390 : (fI (F579378 q578902) 30).toInt = p579323.toInt := by rw [he579382]; rfl
        exact ih2_579304 F579378 z579385 (gB_w bz579385 (by decide) (by decide)) hT579386 hs579384 (by omega) (by omega) (by omega) (by omega) (mz_up ez579385 (Int.le_trans bg579297'.2 (by decide)) hm2_579304)
  have ac579391 : (fI (F578901 q578902) 9).toInt = p578910.toInt := by rw [he578907]; rfl
  have ac579392 : (fI (F578901 q578902) 10).toInt = p578911.toInt := by rw [he578907]; rfl
  have ac579393 : (fI (F578901 q578902) 32).toInt = p578922.toInt := by rw [he578907]; rfl
  have ac579394 : (fI (F578901 q578902) 30).toInt = p578921.toInt := by rw [he578907]; rfl
  exact hlp2_579304 (((5 : Int) - 0).toNat + 1) F578901 0 (gB_w (gBl (show Int32.toInt 0 = 0 by decide)) (by decide) (by decide)) hT (rStr_rf (γ := γ) (W := []) (F := F578901)) (by omega) (by omega) (by omega) (by omega) (Nat.lt_succ_self _)
abbrev ky_578839_SpillForgeModel_feed : gKey := (cX17_feed, 6, "SpillForgeModel", (some FieldType.int), [], "feed", fun _ _ => True)
def pt_578839_SpillForgeModel_feed (D : va_G) (I : FieldType → ClassId) (γ el : Nat → Nat → Nat) (P578831 : List Nat) (F578832 : Nat → va_E) (q578833 : Nat) (p578834 : Int32) (p578835 : Int32) (p578836 : Int32) (p578837 : Int32) (p578838 : Int32) : Option Value → va_W → Nat → Nat → Prop := fun r w dc ds => ∃ (F579826 : Nat → va_E) (o579825 : Int32), r = some (.int o579825) ∧ w = va_pl P578831 F579826 ∧ RS D I P578831 F579826 γ el ∧ rStr γ [] F578832 F579826 ∧ dc ≤ 0 ∧ ds ≤ 0 ∧ gB o579825 0 8212 ∧ (((fI (F578832 q578833) 32).toInt ≤ 8172 ∧ o579825.toInt = (fI (F578832 q578833) 32).toInt + 20 ∧ (fI (F579826 q578833) 32).toInt = (fI (F578832 q578833) 32).toInt + 20 ∧ (fI (F579826 q578833) 30).toInt = 0) ∨ (8172 < (fI (F578832 q578833) 32).toInt ∧ (fI (F579826 q578833) 30).toInt = 1 ∧ (fI (F579826 q578833) 32).toInt = (fI (F578832 q578833) 32).toInt)) ∧ (fI (F579826 q578833) 9).toInt = (fI (F578832 q578833) 9).toInt ∧ (fI (F579826 q578833) 10).toInt = (fI (F578832 q578833) 10).toInt
set_option maxRecDepth 100000 in
set_option maxHeartbeats 4000000 in
theorem ct_578839_SpillForgeModel_feed (l : Launch) (hl0 : l.stackTraces = false) (D : va_G) (I : FieldType → ClassId) (γ el : Nat → Nat → Nat) (P578831 : List Nat) (F578832 : Nat → va_E) (q578833 : Nat) (p578834 : Int32) (p578835 : Int32) (p578836 : Int32) (p578837 : Int32) (p578838 : Int32) (hT : RS D I P578831 F578832 γ el) (htq578833 : rKd γ q578833 10) : CtA (gV D I) l yX17_feed cX17_feed 6 (some FieldType.int) 1 23 0 0 [.ref q578833, .int p578834, .int p578835, .int p578836, .int p578837, .int p578838] (va_pl P578831 F578832) (pt_578839_SpillForgeModel_feed D I γ el P578831 F578832 q578833 p578834 p578835 p578836 p578837 p578838) gNA := by
  refine CtA_of hl0 (by decide) (Nat.le_of_ble_eq_true rfl) ?_
  have bp578834 := gB_any p578834
  have bp578835 := gB_any p578835
  have bp578836 := gB_any p578836
  have bp578837 := gB_any p578837
  have bp578838 := gB_any p578838
  have hm578840 : q578833 ∈ P578831 := RS_m hT htq578833 (by decide)
  refine rk10_e (show rk_10 γ (F578832 q578833) from RS_o hT htq578833) (fun q578842 q578843 p578844 p578845 p578846 p578847 p578848 p578849 p578850 p578851 p578852 p578853 p578854 p578855 p578856 p578857 p578858 he578841 hB578885 ht578859 ht578860 ht578861 ht578862 ht578863 ht578864 ht578865 ht578866 ht578867 ht578868 ht578869 ht578870 ht578871 ht578872 ht578873 ht578874 ht578875 ht578876 ht578877 ht578878 ht578879 ht578880 ht578881 ht578882 hB578886 => ?_)
  have ac578887 : (fI (F578832 q578833) 9).toInt = p578844.toInt := by rw [he578841]; rfl
  have bp578844 : gB p578844 0 1 := (hB578885.1)
  have ac578888 : (fI (F578832 q578833) 10).toInt = p578845.toInt := by rw [he578841]; rfl
  have bp578845 : gB p578845 0 1 := (hB578885.2.1)
  have ac578889 : (fI (F578832 q578833) 32).toInt = p578856.toInt := by rw [he578841]; rfl
  have bp578856 : gB p578856 0 8192 := (hB578885.2.2.2.2.2.2.2.1)
  have ac578890 : (fI (F578832 q578833) 30).toInt = p578855.toInt := by rw [he578841]; rfl
  have bp578855 : gB p578855 (-2147483648) 2147483647 := (gB_any p578855)
  refine G_aload_n 0 dr_cX17_feed_0 rfl ?_
  refine G_iconst 0 dr_cX17_feed_1 (by decide +kernel) ?_
  refine Gp_put 30 hm578840 he578841 dr_cX17_feed_2 (gk_X17 D I) (Nat.le_of_ble_eq_true rfl) wr_7_104 rfl rfl rfl (Nat.le_of_ble_eq_true rfl) (fun F578891 e578892 n578893 => ?_)
  have he578894 : F578891 q578833 = .inr (22, [.ref (γ 9 0), .ref (γ 9 1), .ref (γ 9 2), .ref (γ 9 3), .ref (γ 9 4), .ref (γ 9 5), .ref (γ 9 6), .ref (γ 9 7), .ref (γ 9 8), .int p578844, .int p578845, .int p578846, .int p578847, .int p578848, .int p578849, .ref (γ 9 15), .ref (γ 9 16), .ref (γ 9 17), .ref (γ 9 18), .ref (γ 9 19), .ref (γ 9 20), .ref (γ 9 21), .ref (γ 9 22), .int p578850, .int p578851, .int p578852, .int p578853, .int p578854, .ref q578842, .ref (γ 9 29), .int 0, .ref (γ 9 31), .int p578856, .int p578857, .int p578858, .ref q578843]) := e578892
  have hs578895 : rStr γ [] F578832 F578891 := rStr_put (rStr_rf (γ := γ) (W := []) (F := F578832)) n578893 htq578833 (by decide)
  refine G_aload_n 0 dr_cX17_feed_5 rfl ?_
  refine Gp_get 32 hm578840 he578894 dr_cX17_feed_6 (gk_X17 D I) (Nat.le_of_ble_eq_true rfl) wr_7_106 rfl ?_
  refine G_bipush 20 dr_cX17_feed_9 (by decide +kernel) ?_
  refine G_iadd dr_cX17_feed_11 (G_nam fun z578896 hz578896 => ?_)
  have ez578896 : z578896.toInt = p578856.toInt + 20 := by rw [gI_add hz578896 bp578856 (gBl (show Int32.toInt 20 = 20 by decide)) (by decide) (by decide), show Int32.toInt 20 = 20 from by decide]
  have bz578896 : gB z578896 20 8212 := gB_add (gI_add hz578896 bp578856 (gBl (show Int32.toInt 20 = 20 by decide)) (by decide) (by decide)) bp578856 (gBl (show Int32.toInt 20 = 20 by decide)) (by decide) (by decide)
  refine G_sipush 8192 dr_cX17_feed_12 (by decide +kernel) ?_
  refine G_icmp_le 24 dr_cX17_feed_15 (by decide +kernel) (fun hc578897 => ?_) (fun hc578897 => ?_)
  · have r578898 : z578896.toInt ≤ 8192 := gj_le hc578897 (show Int32.toInt 8192 = 8192 by decide)
    have bz578896' : gB z578896 20 8192 := ⟨by omega, by omega⟩
    refine G_aload_n 0 dr_cX17_feed_24 rfl ?_
    refine G_iload_n 1 dr_cX17_feed_25 rfl ?_
    refine G_aload_n 0 dr_cX17_feed_26 rfl ?_
    refine Gp_get 32 hm578840 he578894 dr_cX17_feed_27 (gk_X17 D I) (Nat.le_of_ble_eq_true rfl) wr_7_106 rfl ?_
    have hT578899 : RS D I P578831 F578891 γ el := RS_set hT n578893 htq578833 (by decide) ⟨q578842, q578843, p578844, p578845, p578846, p578847, p578848, p578849, p578850, p578851, p578852, p578853, p578854, 0, p578856, p578857, p578858, he578894, ⟨bp578844, bp578845, (hB578885.2.2.1), (hB578885.2.2.2.1), (hB578885.2.2.2.2.1), (hB578885.2.2.2.2.2.1), (hB578885.2.2.2.2.2.2.1), bp578856, (hB578885.2.2.2.2.2.2.2.2)⟩, ht578859, ht578860, ht578861, ht578862, ht578863, ht578864, ht578865, ht578866, ht578867, ht578868, ht578869, ht578870, ht578871, ht578872, ht578873, ht578874, ht578875, ht578876, ht578877, ht578878, ht578879, ht578880, ht578881, ht578882, hB578886⟩
    have ac579396 : (fI (F578891 q578833) 9).toInt = p578844.toInt := by rw [he578894]; rfl
    have ac579397 : (fI (F578891 q578833) 10).toInt = p578845.toInt := by rw [he578894]; rfl
    have ac579398 : (fI (F578891 q578833) 32).toInt = p578856.toInt := by rw [he578894]; rfl
    have ac579399 : (fI (F578891 q578833) 30).toInt = 0 := by rw [he578894]; show Int32.toInt 0 = 0; decide
    refine Gw_callV (As := [.int p578834, .int p578856]) (gV_ok D I) (ct_578905_SpillForgeModel_word l hl0 D I γ el P578831 F578891 q578833 p578834 p578856 hT578899 htq578833 ⟨by omega, by omega⟩) dr_cX17_feed_30 ⟨wr_7_195, wr_1_14, wr_7_198, by decide, rfl, (Nat.le_of_ble_eq_true rfl), (Nat.le_of_ble_eq_true rfl)⟩ wr_7_197 wr_p_74 hm578840 he578894 rfl (show 0 + 0 ≤ 0 by first | omega | decide) (show 0 + 0 ≤ 0 by first | omega | decide) (Nat.le_of_ble_eq_true rfl) (fun r579403 w579404 dc579400 ds579401 hp579402 => ?_) (fun _ _ _ _ _ z => z.elim)
    obtain ⟨F579409, rfl, rfl, hT579410, hs579411, hdc, hds, x579405, x579406, x579407, x579408⟩ := hp579402
    have hs579412 : rStr γ [] F578832 F579409 := rStr_tr hs578895 hs579411
    change G _ _ _ _ _ _ _ _ _ _ _
    refine G_widen (cs' := 0) (sl' := 0) (by omega) (by omega) ?_
    refine G_aload_n 0 dr_cX17_feed_33 rfl ?_
    refine G_iload_n 2 dr_cX17_feed_34 rfl ?_
    refine G_aload_n 0 dr_cX17_feed_35 rfl ?_
    have hm579413 : q578833 ∈ P578831 := RS_m hT579410 htq578833 (by decide)
    refine rk10_e (show rk_10 γ (F579409 q578833) from RS_o hT579410 htq578833) (fun q579415 q579416 p579417 p579418 p579419 p579420 p579421 p579422 p579423 p579424 p579425 p579426 p579427 p579428 p579429 p579430 p579431 he579414 hB579458 ht579432 ht579433 ht579434 ht579435 ht579436 ht579437 ht579438 ht579439 ht579440 ht579441 ht579442 ht579443 ht579444 ht579445 ht579446 ht579447 ht579448 ht579449 ht579450 ht579451 ht579452 ht579453 ht579454 ht579455 hB579459 => ?_)
    have ac579460 : (fI (F579409 q578833) 9).toInt = p579417.toInt := by rw [he579414]; rfl
    have bp579417 : gB p579417 0 1 := (hB579458.1)
    have ac579461 : (fI (F579409 q578833) 10).toInt = p579418.toInt := by rw [he579414]; rfl
    have bp579418 : gB p579418 0 1 := (hB579458.2.1)
    have ac579462 : (fI (F579409 q578833) 32).toInt = p579429.toInt := by rw [he579414]; rfl
    have bp579429 : gB p579429 0 8192 := (hB579458.2.2.2.2.2.2.2.1)
    have ac579463 : (fI (F579409 q578833) 30).toInt = p579428.toInt := by rw [he579414]; rfl
    have bp579428 : gB p579428 (-2147483648) 2147483647 := (gB_any p579428)
    refine Gp_get 32 hm579413 he579414 dr_cX17_feed_36 (gk_X17 D I) (Nat.le_of_ble_eq_true rfl) wr_7_106 rfl ?_
    refine G_iconst 4 dr_cX17_feed_39 (by decide +kernel) ?_
    refine G_iadd dr_cX17_feed_40 (G_nam fun z579464 hz579464 => ?_)
    have ez579464 : z579464.toInt = p579429.toInt + 4 := by rw [gI_add hz579464 bp579429 (gBl (show Int32.toInt 4 = 4 by decide)) (by decide) (by decide), show Int32.toInt 4 = 4 from by decide]
    have bz579464 : gB z579464 4 8196 := gB_add (gI_add hz579464 bp579429 (gBl (show Int32.toInt 4 = 4 by decide)) (by decide) (by decide)) bp579429 (gBl (show Int32.toInt 4 = 4 by decide)) (by decide) (by decide)
    have ac579465 : (fI (F579409 q578833) 9).toInt = p579417.toInt := by rw [he579414]; rfl
    have ac579466 : (fI (F579409 q578833) 10).toInt = p579418.toInt := by rw [he579414]; rfl
    have ac579467 : (fI (F579409 q578833) 32).toInt = p579429.toInt := by rw [he579414]; rfl
    have ac579468 : (fI (F579409 q578833) 30).toInt = p579428.toInt := by rw [he579414]; rfl
    refine Gw_callV (As := [.int p578835, .int z579464]) (gV_ok D I) (ct_578905_SpillForgeModel_word l hl0 D I γ el P578831 F579409 q578833 p578835 z579464 hT579410 htq578833 ⟨by omega, by omega⟩) dr_cX17_feed_41 ⟨wr_7_195, wr_1_14, wr_7_198, by decide, rfl, (Nat.le_of_ble_eq_true rfl), (Nat.le_of_ble_eq_true rfl)⟩ wr_7_197 wr_p_74 hm579413 he579414 rfl (show 0 + 0 ≤ 0 by first | omega | decide) (show 0 + 0 ≤ 0 by first | omega | decide) (Nat.le_of_ble_eq_true rfl) (fun r579472 w579473 dc579469 ds579470 hp579471 => ?_) (fun _ _ _ _ _ z => z.elim)
    obtain ⟨F579478, rfl, rfl, hT579479, hs579480, hdc, hds, x579474, x579475, x579476, x579477⟩ := hp579471
    have hs579481 : rStr γ [] F578832 F579478 := rStr_tr hs579412 hs579480
    change G _ _ _ _ _ _ _ _ _ _ _
    refine G_widen (cs' := 0) (sl' := 0) (by omega) (by omega) ?_
    refine G_aload_n 0 dr_cX17_feed_44 rfl ?_
    refine G_iload_n 3 dr_cX17_feed_45 rfl ?_
    refine G_aload_n 0 dr_cX17_feed_46 rfl ?_
    have hm579482 : q578833 ∈ P578831 := RS_m hT579479 htq578833 (by decide)
    refine rk10_e (show rk_10 γ (F579478 q578833) from RS_o hT579479 htq578833) (fun q579484 q579485 p579486 p579487 p579488 p579489 p579490 p579491 p579492 p579493 p579494 p579495 p579496 p579497 p579498 p579499 p579500 he579483 hB579527 ht579501 ht579502 ht579503 ht579504 ht579505 ht579506 ht579507 ht579508 ht579509 ht579510 ht579511 ht579512 ht579513 ht579514 ht579515 ht579516 ht579517 ht579518 ht579519 ht579520 ht579521 ht579522 ht579523 ht579524 hB579528 => ?_)
    have ac579529 : (fI (F579478 q578833) 9).toInt = p579486.toInt := by rw [he579483]; rfl
    have bp579486 : gB p579486 0 1 := (hB579527.1)
    have ac579530 : (fI (F579478 q578833) 10).toInt = p579487.toInt := by rw [he579483]; rfl
    have bp579487 : gB p579487 0 1 := (hB579527.2.1)
    have ac579531 : (fI (F579478 q578833) 32).toInt = p579498.toInt := by rw [he579483]; rfl
    have bp579498 : gB p579498 0 8192 := (hB579527.2.2.2.2.2.2.2.1)
    have ac579532 : (fI (F579478 q578833) 30).toInt = p579497.toInt := by rw [he579483]; rfl
    have bp579497 : gB p579497 (-2147483648) 2147483647 := (gB_any p579497)
    refine Gp_get 32 hm579482 he579483 dr_cX17_feed_47 (gk_X17 D I) (Nat.le_of_ble_eq_true rfl) wr_7_106 rfl ?_
    refine G_bipush 8 dr_cX17_feed_50 (by decide +kernel) ?_
    refine G_iadd dr_cX17_feed_52 (G_nam fun z579533 hz579533 => ?_)
    have ez579533 : z579533.toInt = p579498.toInt + 8 := by rw [gI_add hz579533 bp579498 (gBl (show Int32.toInt 8 = 8 by decide)) (by decide) (by decide), show Int32.toInt 8 = 8 from by decide]
    have bz579533 : gB z579533 8 8200 := gB_add (gI_add hz579533 bp579498 (gBl (show Int32.toInt 8 = 8 by decide)) (by decide) (by decide)) bp579498 (gBl (show Int32.toInt 8 = 8 by decide)) (by decide) (by decide)
    have ac579534 : (fI (F579478 q578833) 9).toInt = p579486.toInt := by rw [he579483]; rfl
    have ac579535 : (fI (F579478 q578833) 10).toInt = p579487.toInt := by rw [he579483]; rfl
    have ac579536 : (fI (F579478 q578833) 32).toInt = p579498.toInt := by rw [he579483]; rfl
    have ac579537 : (fI (F579478 q578833) 30).toInt = p579497.toInt := by rw [he579483]; rfl
    refine Gw_callV (As := [.int p578836, .int z579533]) (gV_ok D I) (ct_578905_SpillForgeModel_word l hl0 D I γ el P578831 F579478 q578833 p578836 z579533 hT579479 htq578833 ⟨by omega, by omega⟩) dr_cX17_feed_53 ⟨wr_7_195, wr_1_14, wr_7_198, by decide, rfl, (Nat.le_of_ble_eq_true rfl), (Nat.le_of_ble_eq_true rfl)⟩ wr_7_197 wr_p_74 hm579482 he579483 rfl (show 0 + 0 ≤ 0 by first | omega | decide) (show 0 + 0 ≤ 0 by first | omega | decide) (Nat.le_of_ble_eq_true rfl) (fun r579541 w579542 dc579538 ds579539 hp579540 => ?_) (fun _ _ _ _ _ z => z.elim)
    obtain ⟨F579547, rfl, rfl, hT579548, hs579549, hdc, hds, x579543, x579544, x579545, x579546⟩ := hp579540
    have hs579550 : rStr γ [] F578832 F579547 := rStr_tr hs579481 hs579549
    change G _ _ _ _ _ _ _ _ _ _ _
    refine G_widen (cs' := 0) (sl' := 0) (by omega) (by omega) ?_
    refine G_aload_n 0 dr_cX17_feed_56 rfl ?_
    refine G_iload 4 dr_cX17_feed_57 rfl ?_
    refine G_aload_n 0 dr_cX17_feed_59 rfl ?_
    have hm579551 : q578833 ∈ P578831 := RS_m hT579548 htq578833 (by decide)
    refine rk10_e (show rk_10 γ (F579547 q578833) from RS_o hT579548 htq578833) (fun q579553 q579554 p579555 p579556 p579557 p579558 p579559 p579560 p579561 p579562 p579563 p579564 p579565 p579566 p579567 p579568 p579569 he579552 hB579596 ht579570 ht579571 ht579572 ht579573 ht579574 ht579575 ht579576 ht579577 ht579578 ht579579 ht579580 ht579581 ht579582 ht579583 ht579584 ht579585 ht579586 ht579587 ht579588 ht579589 ht579590 ht579591 ht579592 ht579593 hB579597 => ?_)
    have ac579598 : (fI (F579547 q578833) 9).toInt = p579555.toInt := by rw [he579552]; rfl
    have bp579555 : gB p579555 0 1 := (hB579596.1)
    have ac579599 : (fI (F579547 q578833) 10).toInt = p579556.toInt := by rw [he579552]; rfl
    have bp579556 : gB p579556 0 1 := (hB579596.2.1)
    have ac579600 : (fI (F579547 q578833) 32).toInt = p579567.toInt := by rw [he579552]; rfl
    have bp579567 : gB p579567 0 8192 := (hB579596.2.2.2.2.2.2.2.1)
    have ac579601 : (fI (F579547 q578833) 30).toInt = p579566.toInt := by rw [he579552]; rfl
    have bp579566 : gB p579566 (-2147483648) 2147483647 := (gB_any p579566)
    refine Gp_get 32 hm579551 he579552 dr_cX17_feed_60 (gk_X17 D I) (Nat.le_of_ble_eq_true rfl) wr_7_106 rfl ?_
    refine G_bipush 12 dr_cX17_feed_63 (by decide +kernel) ?_
    refine G_iadd dr_cX17_feed_65 (G_nam fun z579602 hz579602 => ?_)
    have ez579602 : z579602.toInt = p579567.toInt + 12 := by rw [gI_add hz579602 bp579567 (gBl (show Int32.toInt 12 = 12 by decide)) (by decide) (by decide), show Int32.toInt 12 = 12 from by decide]
    have bz579602 : gB z579602 12 8204 := gB_add (gI_add hz579602 bp579567 (gBl (show Int32.toInt 12 = 12 by decide)) (by decide) (by decide)) bp579567 (gBl (show Int32.toInt 12 = 12 by decide)) (by decide) (by decide)
    have ac579603 : (fI (F579547 q578833) 9).toInt = p579555.toInt := by rw [he579552]; rfl
    have ac579604 : (fI (F579547 q578833) 10).toInt = p579556.toInt := by rw [he579552]; rfl
    have ac579605 : (fI (F579547 q578833) 32).toInt = p579567.toInt := by rw [he579552]; rfl
    have ac579606 : (fI (F579547 q578833) 30).toInt = p579566.toInt := by rw [he579552]; rfl
    refine Gw_callV (As := [.int p578837, .int z579602]) (gV_ok D I) (ct_578905_SpillForgeModel_word l hl0 D I γ el P578831 F579547 q578833 p578837 z579602 hT579548 htq578833 ⟨by omega, by omega⟩) dr_cX17_feed_66 ⟨wr_7_195, wr_1_14, wr_7_198, by decide, rfl, (Nat.le_of_ble_eq_true rfl), (Nat.le_of_ble_eq_true rfl)⟩ wr_7_197 wr_p_74 hm579551 he579552 rfl (show 0 + 0 ≤ 0 by first | omega | decide) (show 0 + 0 ≤ 0 by first | omega | decide) (Nat.le_of_ble_eq_true rfl) (fun r579610 w579611 dc579607 ds579608 hp579609 => ?_) (fun _ _ _ _ _ z => z.elim)
    obtain ⟨F579616, rfl, rfl, hT579617, hs579618, hdc, hds, x579612, x579613, x579614, x579615⟩ := hp579609
    have hs579619 : rStr γ [] F578832 F579616 := rStr_tr hs579550 hs579618
    change G _ _ _ _ _ _ _ _ _ _ _
    refine G_widen (cs' := 0) (sl' := 0) (by omega) (by omega) ?_
    refine G_aload_n 0 dr_cX17_feed_69 rfl ?_
    refine G_iload 5 dr_cX17_feed_70 rfl ?_
    refine G_aload_n 0 dr_cX17_feed_72 rfl ?_
    have hm579620 : q578833 ∈ P578831 := RS_m hT579617 htq578833 (by decide)
    refine rk10_e (show rk_10 γ (F579616 q578833) from RS_o hT579617 htq578833) (fun q579622 q579623 p579624 p579625 p579626 p579627 p579628 p579629 p579630 p579631 p579632 p579633 p579634 p579635 p579636 p579637 p579638 he579621 hB579665 ht579639 ht579640 ht579641 ht579642 ht579643 ht579644 ht579645 ht579646 ht579647 ht579648 ht579649 ht579650 ht579651 ht579652 ht579653 ht579654 ht579655 ht579656 ht579657 ht579658 ht579659 ht579660 ht579661 ht579662 hB579666 => ?_)
    have ac579667 : (fI (F579616 q578833) 9).toInt = p579624.toInt := by rw [he579621]; rfl
    have bp579624 : gB p579624 0 1 := (hB579665.1)
    have ac579668 : (fI (F579616 q578833) 10).toInt = p579625.toInt := by rw [he579621]; rfl
    have bp579625 : gB p579625 0 1 := (hB579665.2.1)
    have ac579669 : (fI (F579616 q578833) 32).toInt = p579636.toInt := by rw [he579621]; rfl
    have bp579636 : gB p579636 0 8192 := (hB579665.2.2.2.2.2.2.2.1)
    have ac579670 : (fI (F579616 q578833) 30).toInt = p579635.toInt := by rw [he579621]; rfl
    have bp579635 : gB p579635 (-2147483648) 2147483647 := (gB_any p579635)
    refine Gp_get 32 hm579620 he579621 dr_cX17_feed_73 (gk_X17 D I) (Nat.le_of_ble_eq_true rfl) wr_7_106 rfl ?_
    refine G_bipush 16 dr_cX17_feed_76 (by decide +kernel) ?_
    refine G_iadd dr_cX17_feed_78 (G_nam fun z579671 hz579671 => ?_)
    have ez579671 : z579671.toInt = p579636.toInt + 16 := by rw [gI_add hz579671 bp579636 (gBl (show Int32.toInt 16 = 16 by decide)) (by decide) (by decide), show Int32.toInt 16 = 16 from by decide]
    have bz579671 : gB z579671 16 8208 := gB_add (gI_add hz579671 bp579636 (gBl (show Int32.toInt 16 = 16 by decide)) (by decide) (by decide)) bp579636 (gBl (show Int32.toInt 16 = 16 by decide)) (by decide) (by decide)
    have ac579672 : (fI (F579616 q578833) 9).toInt = p579624.toInt := by rw [he579621]; rfl
    have ac579673 : (fI (F579616 q578833) 10).toInt = p579625.toInt := by rw [he579621]; rfl
    have ac579674 : (fI (F579616 q578833) 32).toInt = p579636.toInt := by rw [he579621]; rfl
    have ac579675 : (fI (F579616 q578833) 30).toInt = p579635.toInt := by rw [he579621]; rfl
    refine Gw_callV (As := [.int p578838, .int z579671]) (gV_ok D I) (ct_578905_SpillForgeModel_word l hl0 D I γ el P578831 F579616 q578833 p578838 z579671 hT579617 htq578833 ⟨by omega, by omega⟩) dr_cX17_feed_79 ⟨wr_7_195, wr_1_14, wr_7_198, by decide, rfl, (Nat.le_of_ble_eq_true rfl), (Nat.le_of_ble_eq_true rfl)⟩ wr_7_197 wr_p_74 hm579620 he579621 rfl (show 0 + 0 ≤ 0 by first | omega | decide) (show 0 + 0 ≤ 0 by first | omega | decide) (Nat.le_of_ble_eq_true rfl) (fun r579679 w579680 dc579676 ds579677 hp579678 => ?_) (fun _ _ _ _ _ z => z.elim)
    obtain ⟨F579685, rfl, rfl, hT579686, hs579687, hdc, hds, x579681, x579682, x579683, x579684⟩ := hp579678
    have hs579688 : rStr γ [] F578832 F579685 := rStr_tr hs579619 hs579687
    change G _ _ _ _ _ _ _ _ _ _ _
    refine G_widen (cs' := 0) (sl' := 0) (by omega) (by omega) ?_
    refine G_aload_n 0 dr_cX17_feed_82 rfl ?_
    refine G_dup dr_cX17_feed_83 rfl ?_
    have hm579689 : q578833 ∈ P578831 := RS_m hT579686 htq578833 (by decide)
    refine rk10_e (show rk_10 γ (F579685 q578833) from RS_o hT579686 htq578833) (fun q579691 q579692 p579693 p579694 p579695 p579696 p579697 p579698 p579699 p579700 p579701 p579702 p579703 p579704 p579705 p579706 p579707 he579690 hB579734 ht579708 ht579709 ht579710 ht579711 ht579712 ht579713 ht579714 ht579715 ht579716 ht579717 ht579718 ht579719 ht579720 ht579721 ht579722 ht579723 ht579724 ht579725 ht579726 ht579727 ht579728 ht579729 ht579730 ht579731 hB579735 => ?_)
    have ac579736 : (fI (F579685 q578833) 9).toInt = p579693.toInt := by rw [he579690]; rfl
    have bp579693 : gB p579693 0 1 := (hB579734.1)
    have ac579737 : (fI (F579685 q578833) 10).toInt = p579694.toInt := by rw [he579690]; rfl
    have bp579694 : gB p579694 0 1 := (hB579734.2.1)
    have ac579738 : (fI (F579685 q578833) 32).toInt = p579705.toInt := by rw [he579690]; rfl
    have bp579705 : gB p579705 0 8192 := (hB579734.2.2.2.2.2.2.2.1)
    have ac579739 : (fI (F579685 q578833) 30).toInt = p579704.toInt := by rw [he579690]; rfl
    have bp579704 : gB p579704 (-2147483648) 2147483647 := (gB_any p579704)
    refine Gp_get 32 hm579689 he579690 dr_cX17_feed_84 (gk_X17 D I) (Nat.le_of_ble_eq_true rfl) wr_7_106 rfl ?_
    refine G_bipush 20 dr_cX17_feed_87 (by decide +kernel) ?_
    refine G_iadd dr_cX17_feed_89 (G_nam fun z579740 hz579740 => ?_)
    have ez579740 : z579740.toInt = p579705.toInt + 20 := by rw [gI_add hz579740 bp579705 (gBl (show Int32.toInt 20 = 20 by decide)) (by decide) (by decide), show Int32.toInt 20 = 20 from by decide]
    have bz579740 : gB z579740 20 8212 := gB_add (gI_add hz579740 bp579705 (gBl (show Int32.toInt 20 = 20 by decide)) (by decide) (by decide)) bp579705 (gBl (show Int32.toInt 20 = 20 by decide)) (by decide) (by decide)
    refine Gp_put 32 hm579689 he579690 dr_cX17_feed_90 (gk_X17 D I) (Nat.le_of_ble_eq_true rfl) wr_7_106 rfl rfl rfl (Nat.le_of_ble_eq_true rfl) (fun F579741 e579742 n579743 => ?_)
    have he579744 : F579741 q578833 = .inr (22, [.ref (γ 9 0), .ref (γ 9 1), .ref (γ 9 2), .ref (γ 9 3), .ref (γ 9 4), .ref (γ 9 5), .ref (γ 9 6), .ref (γ 9 7), .ref (γ 9 8), .int p579693, .int p579694, .int p579695, .int p579696, .int p579697, .int p579698, .ref (γ 9 15), .ref (γ 9 16), .ref (γ 9 17), .ref (γ 9 18), .ref (γ 9 19), .ref (γ 9 20), .ref (γ 9 21), .ref (γ 9 22), .int p579699, .int p579700, .int p579701, .int p579702, .int p579703, .ref q579691, .ref (γ 9 29), .int p579704, .ref (γ 9 31), .int z579740, .int p579706, .int p579707, .ref q579692]) := e579742
    have hs579745 : rStr γ [] F578832 F579741 := rStr_put hs579688 n579743 htq578833 (by decide)
    refine G_aload_n 0 dr_cX17_feed_93 rfl ?_
    refine Gp_get 32 hm579689 he579744 dr_cX17_feed_94 (gk_X17 D I) (Nat.le_of_ble_eq_true rfl) wr_7_106 rfl ?_
    have hT579746 : RS D I P578831 F579741 γ el := RS_set hT579686 n579743 htq578833 (by decide) ⟨q579691, q579692, p579693, p579694, p579695, p579696, p579697, p579698, p579699, p579700, p579701, p579702, p579703, p579704, z579740, p579706, p579707, he579744, ⟨bp579693, bp579694, (hB579734.2.2.1), (hB579734.2.2.2.1), (hB579734.2.2.2.2.1), (hB579734.2.2.2.2.2.1), (hB579734.2.2.2.2.2.2.1), ⟨by omega, by omega⟩, (hB579734.2.2.2.2.2.2.2.2)⟩, ht579708, ht579709, ht579710, ht579711, ht579712, ht579713, ht579714, ht579715, ht579716, ht579717, ht579718, ht579719, ht579720, ht579721, ht579722, ht579723, ht579724, ht579725, ht579726, ht579727, ht579728, ht579729, ht579730, ht579731, hB579735⟩
    have ac579747 : (fI (F579741 q578833) 9).toInt = p579693.toInt := by rw [he579744]; rfl
    have ac579748 : (fI (F579741 q578833) 10).toInt = p579694.toInt := by rw [he579744]; rfl
    have ac579749 : (fI (F579741 q578833) 32).toInt = z579740.toInt := by rw [he579744]; rfl
    have ac579750 : (fI (F579741 q578833) 30).toInt = p579704.toInt := by rw [he579744]; rfl
    exact G_iretA dr_cX17_feed_97 rfl (Nat.le_of_ble_eq_true rfl) (Nat.le_of_ble_eq_true rfl) ⟨F579741, z579740, rfl, rfl, hT579746, hs579745, (Nat.le_of_ble_eq_true rfl), (Nat.le_of_ble_eq_true rfl), (gB_w bz579740 (by decide) (by decide)), (by omega), (by omega), (by omega)⟩
  · have r579751 : 8192 < z578896.toInt := gj_nle hc578897 (show Int32.toInt 8192 = 8192 by decide)
    have bz578896' : gB z578896 8193 8212 := ⟨by omega, by omega⟩
    refine G_aload_n 0 dr_cX17_feed_18 rfl ?_
    refine G_iconst 1 dr_cX17_feed_19 (by decide +kernel) ?_
    have hT579752 : RS D I P578831 F578891 γ el := RS_set hT n578893 htq578833 (by decide) ⟨q578842, q578843, p578844, p578845, p578846, p578847, p578848, p578849, p578850, p578851, p578852, p578853, p578854, 0, p578856, p578857, p578858, he578894, ⟨bp578844, bp578845, (hB578885.2.2.1), (hB578885.2.2.2.1), (hB578885.2.2.2.2.1), (hB578885.2.2.2.2.2.1), (hB578885.2.2.2.2.2.2.1), bp578856, (hB578885.2.2.2.2.2.2.2.2)⟩, ht578859, ht578860, ht578861, ht578862, ht578863, ht578864, ht578865, ht578866, ht578867, ht578868, ht578869, ht578870, ht578871, ht578872, ht578873, ht578874, ht578875, ht578876, ht578877, ht578878, ht578879, ht578880, ht578881, ht578882, hB578886⟩
    have ac579753 : (fI (F578891 q578833) 9).toInt = p578844.toInt := by rw [he578894]; rfl
    have ac579754 : (fI (F578891 q578833) 10).toInt = p578845.toInt := by rw [he578894]; rfl
    have ac579755 : (fI (F578891 q578833) 32).toInt = p578856.toInt := by rw [he578894]; rfl
    have ac579756 : (fI (F578891 q578833) 30).toInt = 0 := by rw [he578894]; show Int32.toInt 0 = 0; decide
    refine Gw_callV (As := [.int 1]) (gV_ok D I) (ct_578426_SpillForgeModel_no l hl0 D I γ el P578831 F578891 q578833 1 hT579752 htq578833) dr_cX17_feed_20 ⟨wr_7_191, wr_1_14, wr_7_194, by decide, rfl, (Nat.le_of_ble_eq_true rfl), (Nat.le_of_ble_eq_true rfl)⟩ wr_7_193 wr_p_73 hm578840 he578894 rfl (show 0 + 0 ≤ 0 by first | omega | decide) (show 0 + 0 ≤ 0 by first | omega | decide) (Nat.le_of_ble_eq_true rfl) (fun r579760 w579761 dc579757 ds579758 hp579759 => ?_) (fun _ _ _ _ _ z => z.elim)
    obtain ⟨F579766, rfl, rfl, hT579767, hs579768, hdc, hds, x579762, x579763, x579764, x579765⟩ := hp579759
    have hs579769 : rStr γ [] F578832 F579766 := rStr_tr hs578895 hs579768
    rw [show Int32.toInt 1 = 1 from by decide] at x579765
    change G _ _ _ _ _ _ _ (.int 0 :: _) _ _ _
    refine G_widen (cs' := 0) (sl' := 0) (by omega) (by omega) ?_
    have hm579770 : q578833 ∈ P578831 := RS_m hT579767 htq578833 (by decide)
    refine rk10_e (show rk_10 γ (F579766 q578833) from RS_o hT579767 htq578833) (fun q579772 q579773 p579774 p579775 p579776 p579777 p579778 p579779 p579780 p579781 p579782 p579783 p579784 p579785 p579786 p579787 p579788 he579771 hB579815 ht579789 ht579790 ht579791 ht579792 ht579793 ht579794 ht579795 ht579796 ht579797 ht579798 ht579799 ht579800 ht579801 ht579802 ht579803 ht579804 ht579805 ht579806 ht579807 ht579808 ht579809 ht579810 ht579811 ht579812 hB579816 => ?_)
    have ac579817 : (fI (F579766 q578833) 9).toInt = p579774.toInt := by rw [he579771]; rfl
    have bp579774 : gB p579774 0 1 := (hB579815.1)
    have ac579818 : (fI (F579766 q578833) 10).toInt = p579775.toInt := by rw [he579771]; rfl
    have bp579775 : gB p579775 0 1 := (hB579815.2.1)
    have ac579819 : (fI (F579766 q578833) 32).toInt = p579786.toInt := by rw [he579771]; rfl
    have bp579786 : gB p579786 0 8192 := (hB579815.2.2.2.2.2.2.2.1)
    have ac579820 : (fI (F579766 q578833) 30).toInt = p579785.toInt := by rw [he579771]; rfl
    have bp579785 : gB p579785 (-2147483648) 2147483647 := (gB_any p579785)
    have ac579821 : (fI (F579766 q578833) 9).toInt = p579774.toInt := by rw [he579771]; rfl
    have ac579822 : (fI (F579766 q578833) 10).toInt = p579775.toInt := by rw [he579771]; rfl
    have ac579823 : (fI (F579766 q578833) 32).toInt = p579786.toInt := by rw [he579771]; rfl
    have ac579824 : (fI (F579766 q578833) 30).toInt = p579785.toInt := by rw [he579771]; rfl
    exact G_iretA dr_cX17_feed_23 rfl (Nat.le_of_ble_eq_true rfl) (Nat.le_of_ble_eq_true rfl) ⟨F579766, 0, rfl, rfl, hT579767, hs579769, (Nat.le_of_ble_eq_true rfl), (Nat.le_of_ble_eq_true rfl), (gB_w (gBl (show Int32.toInt 0 = 0 by decide)) (by decide) (by decide)), (by have qa0 : Int32.toInt 0 = 0 := (by decide); omega), (by have qa0 : Int32.toInt 0 = 0 := (by decide); omega), (by have qa0 : Int32.toInt 0 = 0 := (by decide); omega)⟩
