abbrev ky_563506_SpillForgeModel_no : gKey := (cX17_no, 2, "SpillForgeModel", (some FieldType.int), [], "no", fun _ _ => True)
def pt_563506_SpillForgeModel_no (D : va_G) (I : FieldType → ClassId) (γ el : Nat → Nat → Nat) (P563502 : List Nat) (F563503 : Nat → va_E) (q563504 : Nat) (p563505 : Int32) : Option Value → va_W → Nat → Nat → Prop := fun r w dc ds => ∃ (F563568 : Nat → va_E), r = some (.int 0) ∧ w = va_pl P563502 F563568 ∧ RS D I P563502 F563568 γ el ∧ rStr γ [] F563503 F563568 ∧ dc ≤ 0 ∧ ds ≤ 0 ∧ (fI (F563568 q563504) 9).toInt = (fI (F563503 q563504) 9).toInt ∧ (fI (F563568 q563504) 10).toInt = (fI (F563503 q563504) 10).toInt ∧ (fI (F563568 q563504) 32).toInt = (fI (F563503 q563504) 32).toInt ∧ (fI (F563568 q563504) 30).toInt = p563505.toInt
set_option maxRecDepth 100000 in
set_option maxHeartbeats 4000000 in
theorem ct_563506_SpillForgeModel_no (l : Launch) (hl0 : l.stackTraces = false) (D : va_G) (I : FieldType → ClassId) (γ el : Nat → Nat → Nat) (P563502 : List Nat) (F563503 : Nat → va_E) (q563504 : Nat) (p563505 : Int32) (hT : RS D I P563502 F563503 γ el) (htq563504 : rKd γ q563504 10) : CtA (gV D I) l yX17_no cX17_no 2 (some FieldType.int) 0 0 0 0 [.ref q563504, .int p563505] (va_pl P563502 F563503) (pt_563506_SpillForgeModel_no D I γ el P563502 F563503 q563504 p563505) gNA := by
  refine CtA_of hl0 (by decide) (Nat.le_of_ble_eq_true rfl) ?_
  have bp563505 := gB_any p563505
  have hm563507 : q563504 ∈ P563502 := RS_m hT htq563504 (by decide)
  refine rk10_e (show rk_10 γ (F563503 q563504) from RS_o hT htq563504) (fun q563509 q563510 p563511 p563512 p563513 p563514 p563515 p563516 p563517 p563518 p563519 p563520 p563521 p563522 p563523 p563524 p563525 he563508 hB563552 ht563526 ht563527 ht563528 ht563529 ht563530 ht563531 ht563532 ht563533 ht563534 ht563535 ht563536 ht563537 ht563538 ht563539 ht563540 ht563541 ht563542 ht563543 ht563544 ht563545 ht563546 ht563547 ht563548 ht563549 hB563553 => ?_)
  have ac563554 : (fI (F563503 q563504) 9).toInt = p563511.toInt := by rw [he563508]; rfl
  have bp563511 : gB p563511 0 1 := (hB563552.1)
  have ac563555 : (fI (F563503 q563504) 10).toInt = p563512.toInt := by rw [he563508]; rfl
  have bp563512 : gB p563512 0 1 := (hB563552.2.1)
  have ac563556 : (fI (F563503 q563504) 32).toInt = p563523.toInt := by rw [he563508]; rfl
  have bp563523 : gB p563523 0 8192 := (hB563552.2.2.2.2.2.2.2.1)
  have ac563557 : (fI (F563503 q563504) 30).toInt = p563522.toInt := by rw [he563508]; rfl
  have bp563522 : gB p563522 (-2147483648) 2147483647 := (gB_any p563522)
  refine G_aload_n 0 dr_cX17_no_0 rfl ?_
  refine G_iload_n 1 dr_cX17_no_1 rfl ?_
  refine Gp_put 30 hm563507 he563508 dr_cX17_no_2 (gk_X17 D I) (Nat.le_of_ble_eq_true rfl) wr_7_104 rfl rfl rfl (Nat.le_of_ble_eq_true rfl) (fun F563558 e563559 n563560 => ?_)
  have he563561 : F563558 q563504 = .inr (22, [.ref (γ 9 0), .ref (γ 9 1), .ref (γ 9 2), .ref (γ 9 3), .ref (γ 9 4), .ref (γ 9 5), .ref (γ 9 6), .ref (γ 9 7), .ref (γ 9 8), .int p563511, .int p563512, .int p563513, .int p563514, .int p563515, .int p563516, .ref (γ 9 15), .ref (γ 9 16), .ref (γ 9 17), .ref (γ 9 18), .ref (γ 9 19), .ref (γ 9 20), .ref (γ 9 21), .ref (γ 9 22), .int p563517, .int p563518, .int p563519, .int p563520, .int p563521, .ref q563509, .ref (γ 9 29), .int p563505, .ref (γ 9 31), .int p563523, .int p563524, .int p563525, .ref q563510]) := e563559
  have hs563562 : rStr γ [] F563503 F563558 := rStr_put (rStr_rf (γ := γ) (W := []) (F := F563503)) n563560 htq563504 (by decide)
  refine G_iconst 0 dr_cX17_no_5 (by decide +kernel) ?_
  have hT563563 : RS D I P563502 F563558 γ el := RS_set hT n563560 htq563504 (by decide) ⟨q563509, q563510, p563511, p563512, p563513, p563514, p563515, p563516, p563517, p563518, p563519, p563520, p563521, p563505, p563523, p563524, p563525, he563561, ⟨bp563511, bp563512, (hB563552.2.2.1), (hB563552.2.2.2.1), (hB563552.2.2.2.2.1), (hB563552.2.2.2.2.2.1), (hB563552.2.2.2.2.2.2.1), bp563523, (hB563552.2.2.2.2.2.2.2.2)⟩, ht563526, ht563527, ht563528, ht563529, ht563530, ht563531, ht563532, ht563533, ht563534, ht563535, ht563536, ht563537, ht563538, ht563539, ht563540, ht563541, ht563542, ht563543, ht563544, ht563545, ht563546, ht563547, ht563548, ht563549, hB563553⟩
  have ac563564 : (fI (F563558 q563504) 9).toInt = p563511.toInt := by rw [he563561]; rfl
  have ac563565 : (fI (F563558 q563504) 10).toInt = p563512.toInt := by rw [he563561]; rfl
  have ac563566 : (fI (F563558 q563504) 32).toInt = p563523.toInt := by rw [he563561]; rfl
  have ac563567 : (fI (F563558 q563504) 30).toInt = p563505.toInt := by rw [he563561]; rfl
  exact G_iretA dr_cX17_no_6 rfl (Nat.le_of_ble_eq_true rfl) (Nat.le_of_ble_eq_true rfl) ⟨F563558, rfl, rfl, hT563563, hs563562, (Nat.le_of_ble_eq_true rfl), (Nat.le_of_ble_eq_true rfl), (by have qa0 : Int32.toInt 0 = 0 := (by decide); omega), (by have qa0 : Int32.toInt 0 = 0 := (by decide); omega), (by have qa0 : Int32.toInt 0 = 0 := (by decide); omega), (by have qa0 : Int32.toInt 0 = 0 := (by decide); omega)⟩
abbrev ky_563413_SpillForgeModel_told : gKey := (cX17_told, 2, "SpillForgeModel", (some FieldType.int), [], "told", fun _ _ => True)
def pt_563413_SpillForgeModel_told (D : va_G) (I : FieldType → ClassId) (γ el : Nat → Nat → Nat) (P563409 : List Nat) (F563410 : Nat → va_E) (q563411 : Nat) (p563412 : Int32) : Option Value → va_W → Nat → Nat → Prop := fun r w dc ds => ∃ (F563639 : Nat → va_E) (o563638 : Int32), r = some (.int o563638) ∧ w = va_pl P563409 F563639 ∧ RS D I P563409 F563639 γ el ∧ rStr γ [] F563410 F563639 ∧ dc ≤ 0 ∧ ds ≤ 0 ∧ (fI (F563639 q563411) 9).toInt = (fI (F563410 q563411) 9).toInt ∧ (fI (F563639 q563411) 10).toInt = (fI (F563410 q563411) 10).toInt ∧ (fI (F563639 q563411) 32).toInt = (fI (F563410 q563411) 32).toInt
set_option maxRecDepth 100000 in
set_option maxHeartbeats 4000000 in
theorem ct_563413_SpillForgeModel_told (l : Launch) (hl0 : l.stackTraces = false) (D : va_G) (I : FieldType → ClassId) (γ el : Nat → Nat → Nat) (P563409 : List Nat) (F563410 : Nat → va_E) (q563411 : Nat) (p563412 : Int32) (hT : RS D I P563409 F563410 γ el) (htq563411 : rKd γ q563411 10) : CtA (gV D I) l yX17_told cX17_told 2 (some FieldType.int) 1 21 0 0 [.ref q563411, .int p563412] (va_pl P563409 F563410) (pt_563413_SpillForgeModel_told D I γ el P563409 F563410 q563411 p563412) gNA := by
  refine CtA_of hl0 (by decide) (Nat.le_of_ble_eq_true rfl) ?_
  have bp563412 := gB_any p563412
  have hm563414 : q563411 ∈ P563409 := RS_m hT htq563411 (by decide)
  refine rk10_e (show rk_10 γ (F563410 q563411) from RS_o hT htq563411) (fun q563416 q563417 p563418 p563419 p563420 p563421 p563422 p563423 p563424 p563425 p563426 p563427 p563428 p563429 p563430 p563431 p563432 he563415 hB563459 ht563433 ht563434 ht563435 ht563436 ht563437 ht563438 ht563439 ht563440 ht563441 ht563442 ht563443 ht563444 ht563445 ht563446 ht563447 ht563448 ht563449 ht563450 ht563451 ht563452 ht563453 ht563454 ht563455 ht563456 hB563460 => ?_)
  have ac563461 : (fI (F563410 q563411) 9).toInt = p563418.toInt := by rw [he563415]; rfl
  have bp563418 : gB p563418 0 1 := (hB563459.1)
  have ac563462 : (fI (F563410 q563411) 10).toInt = p563419.toInt := by rw [he563415]; rfl
  have bp563419 : gB p563419 0 1 := (hB563459.2.1)
  have ac563463 : (fI (F563410 q563411) 32).toInt = p563430.toInt := by rw [he563415]; rfl
  have bp563430 : gB p563430 0 8192 := (hB563459.2.2.2.2.2.2.2.1)
  refine G_aload_n 0 dr_cX17_told_0 rfl ?_
  refine G_iconst 0 dr_cX17_told_1 (by decide +kernel) ?_
  refine Gp_put 30 hm563414 he563415 dr_cX17_told_2 (gk_X17 D I) (Nat.le_of_ble_eq_true rfl) wr_7_104 rfl rfl rfl (Nat.le_of_ble_eq_true rfl) (fun F563464 e563465 n563466 => ?_)
  have he563467 : F563464 q563411 = .inr (22, [.ref (γ 9 0), .ref (γ 9 1), .ref (γ 9 2), .ref (γ 9 3), .ref (γ 9 4), .ref (γ 9 5), .ref (γ 9 6), .ref (γ 9 7), .ref (γ 9 8), .int p563418, .int p563419, .int p563420, .int p563421, .int p563422, .int p563423, .ref (γ 9 15), .ref (γ 9 16), .ref (γ 9 17), .ref (γ 9 18), .ref (γ 9 19), .ref (γ 9 20), .ref (γ 9 21), .ref (γ 9 22), .int p563424, .int p563425, .int p563426, .int p563427, .int p563428, .ref q563416, .ref (γ 9 29), .int 0, .ref (γ 9 31), .int p563430, .int p563431, .int p563432, .ref q563417]) := e563465
  have hs563468 : rStr γ [] F563410 F563464 := rStr_put (rStr_rf (γ := γ) (W := []) (F := F563410)) n563466 htq563411 (by decide)
  refine G_iload_n 1 dr_cX17_told_5 rfl ?_
  by_cases hs563469 : p563412 = 0
  · have ehs563469 : p563412.toInt = 0 := gj_eq hs563469 (show Int32.toInt 0 = 0 by decide)
    have bp563412' : gB p563412 0 0 := ⟨by omega, by omega⟩
    refine G_eqi (y := 0) hs563469 ?_
    refine G_tableIn 40 dr_cX17_told_6 (by decide) (by decide) (by first | rfl | decide) (by decide) ?_
    refine G_aload_n 0 dr_cX17_told_40 rfl ?_
    refine Gp_get 23 hm563414 he563467 dr_cX17_told_41 (gk_X17 D I) (Nat.le_of_ble_eq_true rfl) wr_7_97 rfl ?_
    have bp563424 : gB p563424 (-2147483648) 2147483647 := (gB_any p563424)
    refine G_if_ne 54 dr_cX17_told_44 (by decide +kernel) (fun hc563470 => ?_) (fun hc563470 => ?_)
    · have r563471 : p563424.toInt ≠ 0 := gj_neq hc563470 (show Int32.toInt 0 = 0 by decide)
      refine G_iconst 0 dr_cX17_told_54 (by decide +kernel) ?_
      have hT563472 : RS D I P563409 F563464 γ el := RS_set hT n563466 htq563411 (by decide) ⟨q563416, q563417, p563418, p563419, p563420, p563421, p563422, p563423, p563424, p563425, p563426, p563427, p563428, 0, p563430, p563431, p563432, he563467, ⟨bp563418, bp563419, (hB563459.2.2.1), (hB563459.2.2.2.1), (hB563459.2.2.2.2.1), (hB563459.2.2.2.2.2.1), (hB563459.2.2.2.2.2.2.1), bp563430, (hB563459.2.2.2.2.2.2.2.2)⟩, ht563433, ht563434, ht563435, ht563436, ht563437, ht563438, ht563439, ht563440, ht563441, ht563442, ht563443, ht563444, ht563445, ht563446, ht563447, ht563448, ht563449, ht563450, ht563451, ht563452, ht563453, ht563454, ht563455, ht563456, hB563460⟩
      have ac563473 : (fI (F563464 q563411) 9).toInt = p563418.toInt := by rw [he563467]; rfl
      have ac563474 : (fI (F563464 q563411) 10).toInt = p563419.toInt := by rw [he563467]; rfl
      have ac563475 : (fI (F563464 q563411) 32).toInt = p563430.toInt := by rw [he563467]; rfl
      exact G_iretA dr_cX17_told_55 rfl (Nat.le_of_ble_eq_true rfl) (Nat.le_of_ble_eq_true rfl) ⟨F563464, 0, rfl, rfl, hT563472, hs563468, (Nat.le_of_ble_eq_true rfl), (Nat.le_of_ble_eq_true rfl), (by have qa0 : Int32.toInt 0 = 0 := (by decide); omega), (by have qa0 : Int32.toInt 0 = 0 := (by decide); omega), (by have qa0 : Int32.toInt 0 = 0 := (by decide); omega)⟩
    · have r563476 : p563424.toInt = 0 := gj_eq hc563470 (show Int32.toInt 0 = 0 by decide)
      have bp563424' : gB p563424 0 0 := ⟨by omega, by omega⟩
      refine G_aload_n 0 dr_cX17_told_47 rfl ?_
      refine Gp_get 24 hm563414 he563467 dr_cX17_told_48 (gk_X17 D I) (Nat.le_of_ble_eq_true rfl) wr_7_98 rfl ?_
      have bp563425 : gB p563425 (-2147483648) 2147483647 := (gB_any p563425)
      refine G_goto 55 dr_cX17_told_51 (by decide +kernel) ?_
      have hT563477 : RS D I P563409 F563464 γ el := RS_set hT n563466 htq563411 (by decide) ⟨q563416, q563417, p563418, p563419, p563420, p563421, p563422, p563423, p563424, p563425, p563426, p563427, p563428, 0, p563430, p563431, p563432, he563467, ⟨bp563418, bp563419, (hB563459.2.2.1), (hB563459.2.2.2.1), (hB563459.2.2.2.2.1), (hB563459.2.2.2.2.2.1), (hB563459.2.2.2.2.2.2.1), bp563430, (hB563459.2.2.2.2.2.2.2.2)⟩, ht563433, ht563434, ht563435, ht563436, ht563437, ht563438, ht563439, ht563440, ht563441, ht563442, ht563443, ht563444, ht563445, ht563446, ht563447, ht563448, ht563449, ht563450, ht563451, ht563452, ht563453, ht563454, ht563455, ht563456, hB563460⟩
      have ac563478 : (fI (F563464 q563411) 9).toInt = p563418.toInt := by rw [he563467]; rfl
      have ac563479 : (fI (F563464 q563411) 10).toInt = p563419.toInt := by rw [he563467]; rfl
      have ac563480 : (fI (F563464 q563411) 32).toInt = p563430.toInt := by rw [he563467]; rfl
      exact G_iretA dr_cX17_told_55 rfl (Nat.le_of_ble_eq_true rfl) (Nat.le_of_ble_eq_true rfl) ⟨F563464, p563425, rfl, rfl, hT563477, hs563468, (Nat.le_of_ble_eq_true rfl), (Nat.le_of_ble_eq_true rfl), (by omega), (by omega), (by omega)⟩
  by_cases hs563481 : p563412 = 1
  · have ehs563481 : p563412.toInt = 1 := gj_eq hs563481 (show Int32.toInt 1 = 1 by decide)
    have bp563412' : gB p563412 1 1 := ⟨by omega, by omega⟩
    refine G_eqi (y := 1) hs563481 ?_
    refine G_tableIn 56 dr_cX17_told_6 (by decide) (by decide) (by first | rfl | decide) (by decide) ?_
    refine G_aload_n 0 dr_cX17_told_56 rfl ?_
    refine Gp_get 25 hm563414 he563467 dr_cX17_told_57 (gk_X17 D I) (Nat.le_of_ble_eq_true rfl) wr_7_99 rfl ?_
    have bp563426 : gB p563426 0 512 := (hB563459.2.2.2.2.1)
    have hT563482 : RS D I P563409 F563464 γ el := RS_set hT n563466 htq563411 (by decide) ⟨q563416, q563417, p563418, p563419, p563420, p563421, p563422, p563423, p563424, p563425, p563426, p563427, p563428, 0, p563430, p563431, p563432, he563467, ⟨bp563418, bp563419, (hB563459.2.2.1), (hB563459.2.2.2.1), bp563426, (hB563459.2.2.2.2.2.1), (hB563459.2.2.2.2.2.2.1), bp563430, (hB563459.2.2.2.2.2.2.2.2)⟩, ht563433, ht563434, ht563435, ht563436, ht563437, ht563438, ht563439, ht563440, ht563441, ht563442, ht563443, ht563444, ht563445, ht563446, ht563447, ht563448, ht563449, ht563450, ht563451, ht563452, ht563453, ht563454, ht563455, ht563456, hB563460⟩
    have ac563483 : (fI (F563464 q563411) 9).toInt = p563418.toInt := by rw [he563467]; rfl
    have ac563484 : (fI (F563464 q563411) 10).toInt = p563419.toInt := by rw [he563467]; rfl
    have ac563485 : (fI (F563464 q563411) 32).toInt = p563430.toInt := by rw [he563467]; rfl
    exact G_iretA dr_cX17_told_60 rfl (Nat.le_of_ble_eq_true rfl) (Nat.le_of_ble_eq_true rfl) ⟨F563464, p563426, rfl, rfl, hT563482, hs563468, (Nat.le_of_ble_eq_true rfl), (Nat.le_of_ble_eq_true rfl), (by omega), (by omega), (by omega)⟩
  by_cases hs563486 : p563412 = 2
  · have ehs563486 : p563412.toInt = 2 := gj_eq hs563486 (show Int32.toInt 2 = 2 by decide)
    have bp563412' : gB p563412 2 2 := ⟨by omega, by omega⟩
    refine G_eqi (y := 2) hs563486 ?_
    refine G_tableIn 61 dr_cX17_told_6 (by decide) (by decide) (by first | rfl | decide) (by decide) ?_
    refine G_aload_n 0 dr_cX17_told_61 rfl ?_
    refine Gp_get 26 hm563414 he563467 dr_cX17_told_62 (gk_X17 D I) (Nat.le_of_ble_eq_true rfl) wr_7_100 rfl ?_
    have bp563427 : gB p563427 0 100000 := (hB563459.2.2.2.2.2.1)
    have hT563487 : RS D I P563409 F563464 γ el := RS_set hT n563466 htq563411 (by decide) ⟨q563416, q563417, p563418, p563419, p563420, p563421, p563422, p563423, p563424, p563425, p563426, p563427, p563428, 0, p563430, p563431, p563432, he563467, ⟨bp563418, bp563419, (hB563459.2.2.1), (hB563459.2.2.2.1), (hB563459.2.2.2.2.1), bp563427, (hB563459.2.2.2.2.2.2.1), bp563430, (hB563459.2.2.2.2.2.2.2.2)⟩, ht563433, ht563434, ht563435, ht563436, ht563437, ht563438, ht563439, ht563440, ht563441, ht563442, ht563443, ht563444, ht563445, ht563446, ht563447, ht563448, ht563449, ht563450, ht563451, ht563452, ht563453, ht563454, ht563455, ht563456, hB563460⟩
    have ac563488 : (fI (F563464 q563411) 9).toInt = p563418.toInt := by rw [he563467]; rfl
    have ac563489 : (fI (F563464 q563411) 10).toInt = p563419.toInt := by rw [he563467]; rfl
    have ac563490 : (fI (F563464 q563411) 32).toInt = p563430.toInt := by rw [he563467]; rfl
    exact G_iretA dr_cX17_told_65 rfl (Nat.le_of_ble_eq_true rfl) (Nat.le_of_ble_eq_true rfl) ⟨F563464, p563427, rfl, rfl, hT563487, hs563468, (Nat.le_of_ble_eq_true rfl), (Nat.le_of_ble_eq_true rfl), (by omega), (by omega), (by omega)⟩
  by_cases hs563491 : p563412 = 3
  · have ehs563491 : p563412.toInt = 3 := gj_eq hs563491 (show Int32.toInt 3 = 3 by decide)
    have bp563412' : gB p563412 3 3 := ⟨by omega, by omega⟩
    refine G_eqi (y := 3) hs563491 ?_
    refine G_tableIn 66 dr_cX17_told_6 (by decide) (by decide) (by first | rfl | decide) (by decide) ?_
    refine G_aload_n 0 dr_cX17_told_66 rfl ?_
    refine Gp_get 27 hm563414 he563467 dr_cX17_told_67 (gk_X17 D I) (Nat.le_of_ble_eq_true rfl) wr_7_101 rfl ?_
    have bp563428 : gB p563428 0 2048 := (hB563459.2.2.2.2.2.2.1)
    have hT563492 : RS D I P563409 F563464 γ el := RS_set hT n563466 htq563411 (by decide) ⟨q563416, q563417, p563418, p563419, p563420, p563421, p563422, p563423, p563424, p563425, p563426, p563427, p563428, 0, p563430, p563431, p563432, he563467, ⟨bp563418, bp563419, (hB563459.2.2.1), (hB563459.2.2.2.1), (hB563459.2.2.2.2.1), (hB563459.2.2.2.2.2.1), bp563428, bp563430, (hB563459.2.2.2.2.2.2.2.2)⟩, ht563433, ht563434, ht563435, ht563436, ht563437, ht563438, ht563439, ht563440, ht563441, ht563442, ht563443, ht563444, ht563445, ht563446, ht563447, ht563448, ht563449, ht563450, ht563451, ht563452, ht563453, ht563454, ht563455, ht563456, hB563460⟩
    have ac563493 : (fI (F563464 q563411) 9).toInt = p563418.toInt := by rw [he563467]; rfl
    have ac563494 : (fI (F563464 q563411) 10).toInt = p563419.toInt := by rw [he563467]; rfl
    have ac563495 : (fI (F563464 q563411) 32).toInt = p563430.toInt := by rw [he563467]; rfl
    exact G_iretA dr_cX17_told_70 rfl (Nat.le_of_ble_eq_true rfl) (Nat.le_of_ble_eq_true rfl) ⟨F563464, p563428, rfl, rfl, hT563492, hs563468, (Nat.le_of_ble_eq_true rfl), (Nat.le_of_ble_eq_true rfl), (by omega), (by omega), (by omega)⟩
  by_cases hs563496 : p563412 = 4
  · have ehs563496 : p563412.toInt = 4 := gj_eq hs563496 (show Int32.toInt 4 = 4 by decide)
    have bp563412' : gB p563412 4 4 := ⟨by omega, by omega⟩
    refine G_eqi (y := 4) hs563496 ?_
    refine G_tableIn 71 dr_cX17_told_6 (by decide) (by decide) (by first | rfl | decide) (by decide) ?_
    refine G_aload_n 0 dr_cX17_told_71 rfl ?_
    refine Gp_get 23 hm563414 he563467 dr_cX17_told_72 (gk_X17 D I) (Nat.le_of_ble_eq_true rfl) wr_7_97 rfl ?_
    have bp563424 : gB p563424 (-2147483648) 2147483647 := (gB_any p563424)
    have hT563497 : RS D I P563409 F563464 γ el := RS_set hT n563466 htq563411 (by decide) ⟨q563416, q563417, p563418, p563419, p563420, p563421, p563422, p563423, p563424, p563425, p563426, p563427, p563428, 0, p563430, p563431, p563432, he563467, ⟨bp563418, bp563419, (hB563459.2.2.1), (hB563459.2.2.2.1), (hB563459.2.2.2.2.1), (hB563459.2.2.2.2.2.1), (hB563459.2.2.2.2.2.2.1), bp563430, (hB563459.2.2.2.2.2.2.2.2)⟩, ht563433, ht563434, ht563435, ht563436, ht563437, ht563438, ht563439, ht563440, ht563441, ht563442, ht563443, ht563444, ht563445, ht563446, ht563447, ht563448, ht563449, ht563450, ht563451, ht563452, ht563453, ht563454, ht563455, ht563456, hB563460⟩
    have ac563498 : (fI (F563464 q563411) 9).toInt = p563418.toInt := by rw [he563467]; rfl
    have ac563499 : (fI (F563464 q563411) 10).toInt = p563419.toInt := by rw [he563467]; rfl
    have ac563500 : (fI (F563464 q563411) 32).toInt = p563430.toInt := by rw [he563467]; rfl
    exact G_iretA dr_cX17_told_75 rfl (Nat.le_of_ble_eq_true rfl) (Nat.le_of_ble_eq_true rfl) ⟨F563464, p563424, rfl, rfl, hT563497, hs563468, (Nat.le_of_ble_eq_true rfl), (Nat.le_of_ble_eq_true rfl), (by omega), (by omega), (by omega)⟩
  have ehs563469 := lv_neT hs563469 (show Int32.toInt 0 = 0 by decide)
  have ehs563481 := lv_neT hs563481 (show Int32.toInt 1 = 1 by decide)
  have ehs563486 := lv_neT hs563486 (show Int32.toInt 2 = 2 by decide)
  have ehs563491 := lv_neT hs563491 (show Int32.toInt 3 = 3 by decide)
  have ehs563496 := lv_neT hs563496 (show Int32.toInt 4 = 4 by decide)
  refine G_tableOut 76 dr_cX17_told_6 (by omega) (by decide) ?_
  refine G_aload_n 0 dr_cX17_told_76 rfl ?_
  refine G_iconst 1 dr_cX17_told_77 (by decide +kernel) ?_
  have hT563501 : RS D I P563409 F563464 γ el := RS_set hT n563466 htq563411 (by decide) ⟨q563416, q563417, p563418, p563419, p563420, p563421, p563422, p563423, p563424, p563425, p563426, p563427, p563428, 0, p563430, p563431, p563432, he563467, ⟨bp563418, bp563419, (hB563459.2.2.1), (hB563459.2.2.2.1), (hB563459.2.2.2.2.1), (hB563459.2.2.2.2.2.1), (hB563459.2.2.2.2.2.2.1), bp563430, (hB563459.2.2.2.2.2.2.2.2)⟩, ht563433, ht563434, ht563435, ht563436, ht563437, ht563438, ht563439, ht563440, ht563441, ht563442, ht563443, ht563444, ht563445, ht563446, ht563447, ht563448, ht563449, ht563450, ht563451, ht563452, ht563453, ht563454, ht563455, ht563456, hB563460⟩
  have ac563569 : (fI (F563464 q563411) 9).toInt = p563418.toInt := by rw [he563467]; rfl
  have ac563570 : (fI (F563464 q563411) 10).toInt = p563419.toInt := by rw [he563467]; rfl
  have ac563571 : (fI (F563464 q563411) 32).toInt = p563430.toInt := by rw [he563467]; rfl
  refine Gw_callV (As := [.int 1]) (gV_ok D I) (ct_563506_SpillForgeModel_no l hl0 D I γ el P563409 F563464 q563411 1 hT563501 htq563411) dr_cX17_told_78 ⟨wr_7_187, wr_1_14, wr_7_190, by decide, rfl, (Nat.le_of_ble_eq_true rfl), (Nat.le_of_ble_eq_true rfl)⟩ wr_7_189 wr_p_73 hm563414 he563467 rfl (show 0 + 0 ≤ 0 by first | omega | decide) (show 0 + 0 ≤ 0 by first | omega | decide) (Nat.le_of_ble_eq_true rfl) (fun r563575 w563576 dc563572 ds563573 hp563574 => ?_) (fun _ _ _ _ _ z => z.elim)
  obtain ⟨F563581, rfl, rfl, hT563582, hs563583, hdc, hds, x563577, x563578, x563579, x563580⟩ := hp563574
  have hs563584 : rStr γ [] F563410 F563581 := rStr_tr hs563468 hs563583
  rw [show Int32.toInt 1 = 1 from by decide] at x563580
  change G _ _ _ _ _ _ _ (.int 0 :: _) _ _ _
  refine G_widen (cs' := 0) (sl' := 0) (by omega) (by omega) ?_
  have hm563585 : q563411 ∈ P563409 := RS_m hT563582 htq563411 (by decide)
  refine rk10_e (show rk_10 γ (F563581 q563411) from RS_o hT563582 htq563411) (fun q563587 q563588 p563589 p563590 p563591 p563592 p563593 p563594 p563595 p563596 p563597 p563598 p563599 p563600 p563601 p563602 p563603 he563586 hB563630 ht563604 ht563605 ht563606 ht563607 ht563608 ht563609 ht563610 ht563611 ht563612 ht563613 ht563614 ht563615 ht563616 ht563617 ht563618 ht563619 ht563620 ht563621 ht563622 ht563623 ht563624 ht563625 ht563626 ht563627 hB563631 => ?_)
  have ac563632 : (fI (F563581 q563411) 9).toInt = p563589.toInt := by rw [he563586]; rfl
  have bp563589 : gB p563589 0 1 := (hB563630.1)
  have ac563633 : (fI (F563581 q563411) 10).toInt = p563590.toInt := by rw [he563586]; rfl
  have bp563590 : gB p563590 0 1 := (hB563630.2.1)
  have ac563634 : (fI (F563581 q563411) 32).toInt = p563601.toInt := by rw [he563586]; rfl
  have bp563601 : gB p563601 0 8192 := (hB563630.2.2.2.2.2.2.2.1)
  have ac563635 : (fI (F563581 q563411) 9).toInt = p563589.toInt := by rw [he563586]; rfl
  have ac563636 : (fI (F563581 q563411) 10).toInt = p563590.toInt := by rw [he563586]; rfl
  have ac563637 : (fI (F563581 q563411) 32).toInt = p563601.toInt := by rw [he563586]; rfl
  exact G_iretA dr_cX17_told_81 rfl (Nat.le_of_ble_eq_true rfl) (Nat.le_of_ble_eq_true rfl) ⟨F563581, 0, rfl, rfl, hT563582, hs563584, (Nat.le_of_ble_eq_true rfl), (Nat.le_of_ble_eq_true rfl), (by have qa0 : Int32.toInt 0 = 0 := (by decide); omega), (by have qa0 : Int32.toInt 0 = 0 := (by decide); omega), (by have qa0 : Int32.toInt 0 = 0 := (by decide); omega)⟩
abbrev ky_563644_SpillForgeModel_shown : gKey := (cX17_shown, 2, "SpillForgeModel", (some FieldType.int), [], "shown", fun _ _ => True)
def pt_563644_SpillForgeModel_shown (D : va_G) (I : FieldType → ClassId) (γ el : Nat → Nat → Nat) (P563640 : List Nat) (F563641 : Nat → va_E) (q563642 : Nat) (p563643 : Int32) : Option Value → va_W → Nat → Nat → Prop := fun r w dc ds => ∃ (F563855 : Nat → va_E) (o563854 : Int32), r = some (.int o563854) ∧ w = va_pl P563640 F563855 ∧ RS D I P563640 F563855 γ el ∧ rStr γ [] F563641 F563855 ∧ dc ≤ 0 ∧ ds ≤ 0 ∧ (fI (F563855 q563642) 9).toInt = (fI (F563641 q563642) 9).toInt ∧ (fI (F563855 q563642) 10).toInt = (fI (F563641 q563642) 10).toInt ∧ (fI (F563855 q563642) 32).toInt = (fI (F563641 q563642) 32).toInt
set_option maxRecDepth 100000 in
set_option maxHeartbeats 4000000 in
theorem ct_563644_SpillForgeModel_shown (l : Launch) (hl0 : l.stackTraces = false) (D : va_G) (I : FieldType → ClassId) (γ el : Nat → Nat → Nat) (P563640 : List Nat) (F563641 : Nat → va_E) (q563642 : Nat) (p563643 : Int32) (hT : RS D I P563640 F563641 γ el) (htq563642 : rKd γ q563642 10) : CtA (gV D I) l yX17_shown cX17_shown 2 (some FieldType.int) 1 21 0 0 [.ref q563642, .int p563643] (va_pl P563640 F563641) (pt_563644_SpillForgeModel_shown D I γ el P563640 F563641 q563642 p563643) gNA := by
  refine CtA_of hl0 (by decide) (Nat.le_of_ble_eq_true rfl) ?_
  have bp563643 := gB_any p563643
  have hm563645 : q563642 ∈ P563640 := RS_m hT htq563642 (by decide)
  refine rk10_e (show rk_10 γ (F563641 q563642) from RS_o hT htq563642) (fun q563647 q563648 p563649 p563650 p563651 p563652 p563653 p563654 p563655 p563656 p563657 p563658 p563659 p563660 p563661 p563662 p563663 he563646 hB563690 ht563664 ht563665 ht563666 ht563667 ht563668 ht563669 ht563670 ht563671 ht563672 ht563673 ht563674 ht563675 ht563676 ht563677 ht563678 ht563679 ht563680 ht563681 ht563682 ht563683 ht563684 ht563685 ht563686 ht563687 hB563691 => ?_)
  have ac563692 : (fI (F563641 q563642) 9).toInt = p563649.toInt := by rw [he563646]; rfl
  have bp563649 : gB p563649 0 1 := (hB563690.1)
  have ac563693 : (fI (F563641 q563642) 10).toInt = p563650.toInt := by rw [he563646]; rfl
  have bp563650 : gB p563650 0 1 := (hB563690.2.1)
  have ac563694 : (fI (F563641 q563642) 32).toInt = p563661.toInt := by rw [he563646]; rfl
  have bp563661 : gB p563661 0 8192 := (hB563690.2.2.2.2.2.2.2.1)
  refine G_aload_n 0 dr_cX17_shown_0 rfl ?_
  refine G_iconst 0 dr_cX17_shown_1 (by decide +kernel) ?_
  refine Gp_put 30 hm563645 he563646 dr_cX17_shown_2 (gk_X17 D I) (Nat.le_of_ble_eq_true rfl) wr_7_104 rfl rfl rfl (Nat.le_of_ble_eq_true rfl) (fun F563695 e563696 n563697 => ?_)
  have he563698 : F563695 q563642 = .inr (22, [.ref (γ 9 0), .ref (γ 9 1), .ref (γ 9 2), .ref (γ 9 3), .ref (γ 9 4), .ref (γ 9 5), .ref (γ 9 6), .ref (γ 9 7), .ref (γ 9 8), .int p563649, .int p563650, .int p563651, .int p563652, .int p563653, .int p563654, .ref (γ 9 15), .ref (γ 9 16), .ref (γ 9 17), .ref (γ 9 18), .ref (γ 9 19), .ref (γ 9 20), .ref (γ 9 21), .ref (γ 9 22), .int p563655, .int p563656, .int p563657, .int p563658, .int p563659, .ref q563647, .ref (γ 9 29), .int 0, .ref (γ 9 31), .int p563661, .int p563662, .int p563663, .ref q563648]) := e563696
  have hs563699 : rStr γ [] F563641 F563695 := rStr_put (rStr_rf (γ := γ) (W := []) (F := F563641)) n563697 htq563642 (by decide)
  refine G_iload_n 1 dr_cX17_shown_5 rfl ?_
  refine G_if_lt 26 dr_cX17_shown_6 (by decide +kernel) (fun hc563700 => ?_) (fun hc563700 => ?_)
  · have r563701 : p563643.toInt < 0 := gj_lt hc563700 (show Int32.toInt 0 = 0 by decide)
    have bp563643' : gB p563643 (-2147483648) (-1) := ⟨by omega, by omega⟩
    refine G_aload_n 0 dr_cX17_shown_26 rfl ?_
    refine G_iconst 1 dr_cX17_shown_27 (by decide +kernel) ?_
    have hT563702 : RS D I P563640 F563695 γ el := RS_set hT n563697 htq563642 (by decide) ⟨q563647, q563648, p563649, p563650, p563651, p563652, p563653, p563654, p563655, p563656, p563657, p563658, p563659, 0, p563661, p563662, p563663, he563698, ⟨bp563649, bp563650, (hB563690.2.2.1), (hB563690.2.2.2.1), (hB563690.2.2.2.2.1), (hB563690.2.2.2.2.2.1), (hB563690.2.2.2.2.2.2.1), bp563661, (hB563690.2.2.2.2.2.2.2.2)⟩, ht563664, ht563665, ht563666, ht563667, ht563668, ht563669, ht563670, ht563671, ht563672, ht563673, ht563674, ht563675, ht563676, ht563677, ht563678, ht563679, ht563680, ht563681, ht563682, ht563683, ht563684, ht563685, ht563686, ht563687, hB563691⟩
    have ac563703 : (fI (F563695 q563642) 9).toInt = p563649.toInt := by rw [he563698]; rfl
    have ac563704 : (fI (F563695 q563642) 10).toInt = p563650.toInt := by rw [he563698]; rfl
    have ac563705 : (fI (F563695 q563642) 32).toInt = p563661.toInt := by rw [he563698]; rfl
    refine Gw_callV (As := [.int 1]) (gV_ok D I) (ct_563506_SpillForgeModel_no l hl0 D I γ el P563640 F563695 q563642 1 hT563702 htq563642) dr_cX17_shown_28 ⟨wr_7_187, wr_1_14, wr_7_190, by decide, rfl, (Nat.le_of_ble_eq_true rfl), (Nat.le_of_ble_eq_true rfl)⟩ wr_7_189 wr_p_73 hm563645 he563698 rfl (show 0 + 0 ≤ 0 by first | omega | decide) (show 0 + 0 ≤ 0 by first | omega | decide) (Nat.le_of_ble_eq_true rfl) (fun r563709 w563710 dc563706 ds563707 hp563708 => ?_) (fun _ _ _ _ _ z => z.elim)
    obtain ⟨F563715, rfl, rfl, hT563716, hs563717, hdc, hds, x563711, x563712, x563713, x563714⟩ := hp563708
    have hs563718 : rStr γ [] F563641 F563715 := rStr_tr hs563699 hs563717
    rw [show Int32.toInt 1 = 1 from by decide] at x563714
    change G _ _ _ _ _ _ _ (.int 0 :: _) _ _ _
    refine G_widen (cs' := 0) (sl' := 0) (by omega) (by omega) ?_
    have hm563719 : q563642 ∈ P563640 := RS_m hT563716 htq563642 (by decide)
    refine rk10_e (show rk_10 γ (F563715 q563642) from RS_o hT563716 htq563642) (fun q563721 q563722 p563723 p563724 p563725 p563726 p563727 p563728 p563729 p563730 p563731 p563732 p563733 p563734 p563735 p563736 p563737 he563720 hB563764 ht563738 ht563739 ht563740 ht563741 ht563742 ht563743 ht563744 ht563745 ht563746 ht563747 ht563748 ht563749 ht563750 ht563751 ht563752 ht563753 ht563754 ht563755 ht563756 ht563757 ht563758 ht563759 ht563760 ht563761 hB563765 => ?_)
    have ac563766 : (fI (F563715 q563642) 9).toInt = p563723.toInt := by rw [he563720]; rfl
    have bp563723 : gB p563723 0 1 := (hB563764.1)
    have ac563767 : (fI (F563715 q563642) 10).toInt = p563724.toInt := by rw [he563720]; rfl
    have bp563724 : gB p563724 0 1 := (hB563764.2.1)
    have ac563768 : (fI (F563715 q563642) 32).toInt = p563735.toInt := by rw [he563720]; rfl
    have bp563735 : gB p563735 0 8192 := (hB563764.2.2.2.2.2.2.2.1)
    have ac563769 : (fI (F563715 q563642) 9).toInt = p563723.toInt := by rw [he563720]; rfl
    have ac563770 : (fI (F563715 q563642) 10).toInt = p563724.toInt := by rw [he563720]; rfl
    have ac563771 : (fI (F563715 q563642) 32).toInt = p563735.toInt := by rw [he563720]; rfl
    exact G_iretA dr_cX17_shown_31 rfl (Nat.le_of_ble_eq_true rfl) (Nat.le_of_ble_eq_true rfl) ⟨F563715, 0, rfl, rfl, hT563716, hs563718, (Nat.le_of_ble_eq_true rfl), (Nat.le_of_ble_eq_true rfl), (by have qa0 : Int32.toInt 0 = 0 := (by decide); omega), (by have qa0 : Int32.toInt 0 = 0 := (by decide); omega), (by have qa0 : Int32.toInt 0 = 0 := (by decide); omega)⟩
  · have r563772 : 0 ≤ p563643.toInt := gj_nlt hc563700 (show Int32.toInt 0 = 0 by decide)
    have bp563643' : gB p563643 0 2147483647 := ⟨by omega, by omega⟩
    refine G_iload_n 1 dr_cX17_shown_9 rfl ?_
    refine G_aload_n 0 dr_cX17_shown_10 rfl ?_
    refine Gp_get 25 hm563645 he563698 dr_cX17_shown_11 (gk_X17 D I) (Nat.le_of_ble_eq_true rfl) wr_7_99 rfl ?_
    have bp563657 : gB p563657 0 512 := (hB563690.2.2.2.2.1)
    refine G_icmp_ge 26 dr_cX17_shown_14 (by decide +kernel) (fun hc563773 => ?_) (fun hc563773 => ?_)
    · have r563774 : p563657.toInt ≤ p563643.toInt := gC_le hc563773
      refine G_aload_n 0 dr_cX17_shown_26 rfl ?_
      refine G_iconst 1 dr_cX17_shown_27 (by decide +kernel) ?_
      have hT563775 : RS D I P563640 F563695 γ el := RS_set hT n563697 htq563642 (by decide) ⟨q563647, q563648, p563649, p563650, p563651, p563652, p563653, p563654, p563655, p563656, p563657, p563658, p563659, 0, p563661, p563662, p563663, he563698, ⟨bp563649, bp563650, (hB563690.2.2.1), (hB563690.2.2.2.1), bp563657, (hB563690.2.2.2.2.2.1), (hB563690.2.2.2.2.2.2.1), bp563661, (hB563690.2.2.2.2.2.2.2.2)⟩, ht563664, ht563665, ht563666, ht563667, ht563668, ht563669, ht563670, ht563671, ht563672, ht563673, ht563674, ht563675, ht563676, ht563677, ht563678, ht563679, ht563680, ht563681, ht563682, ht563683, ht563684, ht563685, ht563686, ht563687, hB563691⟩
      have ac563776 : (fI (F563695 q563642) 9).toInt = p563649.toInt := by rw [he563698]; rfl
      have ac563777 : (fI (F563695 q563642) 10).toInt = p563650.toInt := by rw [he563698]; rfl
      have ac563778 : (fI (F563695 q563642) 32).toInt = p563661.toInt := by rw [he563698]; rfl
      refine Gw_callV (As := [.int 1]) (gV_ok D I) (ct_563506_SpillForgeModel_no l hl0 D I γ el P563640 F563695 q563642 1 hT563775 htq563642) dr_cX17_shown_28 ⟨wr_7_187, wr_1_14, wr_7_190, by decide, rfl, (Nat.le_of_ble_eq_true rfl), (Nat.le_of_ble_eq_true rfl)⟩ wr_7_189 wr_p_73 hm563645 he563698 rfl (show 0 + 0 ≤ 0 by first | omega | decide) (show 0 + 0 ≤ 0 by first | omega | decide) (Nat.le_of_ble_eq_true rfl) (fun r563782 w563783 dc563779 ds563780 hp563781 => ?_) (fun _ _ _ _ _ z => z.elim)
      obtain ⟨F563788, rfl, rfl, hT563789, hs563790, hdc, hds, x563784, x563785, x563786, x563787⟩ := hp563781
      have hs563791 : rStr γ [] F563641 F563788 := rStr_tr hs563699 hs563790
      rw [show Int32.toInt 1 = 1 from by decide] at x563787
      change G _ _ _ _ _ _ _ (.int 0 :: _) _ _ _
      refine G_widen (cs' := 0) (sl' := 0) (by omega) (by omega) ?_
      have hm563792 : q563642 ∈ P563640 := RS_m hT563789 htq563642 (by decide)
      refine rk10_e (show rk_10 γ (F563788 q563642) from RS_o hT563789 htq563642) (fun q563794 q563795 p563796 p563797 p563798 p563799 p563800 p563801 p563802 p563803 p563804 p563805 p563806 p563807 p563808 p563809 p563810 he563793 hB563837 ht563811 ht563812 ht563813 ht563814 ht563815 ht563816 ht563817 ht563818 ht563819 ht563820 ht563821 ht563822 ht563823 ht563824 ht563825 ht563826 ht563827 ht563828 ht563829 ht563830 ht563831 ht563832 ht563833 ht563834 hB563838 => ?_)
      have ac563839 : (fI (F563788 q563642) 9).toInt = p563796.toInt := by rw [he563793]; rfl
      have bp563796 : gB p563796 0 1 := (hB563837.1)
      have ac563840 : (fI (F563788 q563642) 10).toInt = p563797.toInt := by rw [he563793]; rfl
      have bp563797 : gB p563797 0 1 := (hB563837.2.1)
      have ac563841 : (fI (F563788 q563642) 32).toInt = p563808.toInt := by rw [he563793]; rfl
      have bp563808 : gB p563808 0 8192 := (hB563837.2.2.2.2.2.2.2.1)
      have ac563842 : (fI (F563788 q563642) 9).toInt = p563796.toInt := by rw [he563793]; rfl
      have ac563843 : (fI (F563788 q563642) 10).toInt = p563797.toInt := by rw [he563793]; rfl
      have ac563844 : (fI (F563788 q563642) 32).toInt = p563808.toInt := by rw [he563793]; rfl
      exact G_iretA dr_cX17_shown_31 rfl (Nat.le_of_ble_eq_true rfl) (Nat.le_of_ble_eq_true rfl) ⟨F563788, 0, rfl, rfl, hT563789, hs563791, (Nat.le_of_ble_eq_true rfl), (Nat.le_of_ble_eq_true rfl), (by have qa0 : Int32.toInt 0 = 0 := (by decide); omega), (by have qa0 : Int32.toInt 0 = 0 := (by decide); omega), (by have qa0 : Int32.toInt 0 = 0 := (by decide); omega)⟩
    · have r563845 : p563643.toInt < p563657.toInt := gC_nle hc563773
      have bp563643'' : gB p563643 0 511 := ⟨by omega, by omega⟩
      have bp563657' : gB p563657 1 512 := ⟨by omega, by omega⟩
      refine G_aload_n 0 dr_cX17_shown_17 rfl ?_
      refine Gp_get 22 hm563645 he563698 dr_cX17_shown_18 (gk_X17 D I) (Nat.le_of_ble_eq_true rfl) wr_7_96 rfl ?_
      refine G_iload_n 1 dr_cX17_shown_21 rfl ?_
      have hT563846 : RS D I P563640 F563695 γ el := RS_set hT n563697 htq563642 (by decide) ⟨q563647, q563648, p563649, p563650, p563651, p563652, p563653, p563654, p563655, p563656, p563657, p563658, p563659, 0, p563661, p563662, p563663, he563698, ⟨bp563649, bp563650, (hB563690.2.2.1), (hB563690.2.2.2.1), (gB_w bp563657' (by decide) (by decide)), (hB563690.2.2.2.2.2.1), (hB563690.2.2.2.2.2.2.1), bp563661, (hB563690.2.2.2.2.2.2.2.2)⟩, ht563664, ht563665, ht563666, ht563667, ht563668, ht563669, ht563670, ht563671, ht563672, ht563673, ht563674, ht563675, ht563676, ht563677, ht563678, ht563679, ht563680, ht563681, ht563682, ht563683, ht563684, ht563685, ht563686, ht563687, hB563691⟩
      have hm563847 : (γ 9 22) ∈ P563640 := RS_m hT563846 ht563682 (by decide)
      obtain ⟨f563849, he563848⟩ := show rk_24 I (F563695 (γ 9 22)) from RS_o hT563846 ht563682
      refine Gp_iald 0 hm563847 he563848 dr_cX17_shown_22 rfl (gB_in bp563643'' (by decide) (by decide)) (G_nam fun z563850 hz563850 => ?_)
      have bz563850 : gB z563850 (-2147483648) 2147483647 := gB_any z563850
      refine G_goto 31 dr_cX17_shown_23 (by decide +kernel) ?_
      have ac563851 : (fI (F563695 q563642) 9).toInt = p563649.toInt := by rw [he563698]; rfl
      have ac563852 : (fI (F563695 q563642) 10).toInt = p563650.toInt := by rw [he563698]; rfl
      have ac563853 : (fI (F563695 q563642) 32).toInt = p563661.toInt := by rw [he563698]; rfl
      exact G_iretA dr_cX17_shown_31 rfl (Nat.le_of_ble_eq_true rfl) (Nat.le_of_ble_eq_true rfl) ⟨F563695, z563850, rfl, rfl, hT563846, hs563699, (Nat.le_of_ble_eq_true rfl), (Nat.le_of_ble_eq_true rfl), (by omega), (by omega), (by omega)⟩
abbrev ky_563930_SpillForgeModel_word : gKey := (cX17_word, 4, "SpillForgeModel", none, [], "word", fun _ _ => True)
def pt_563930_SpillForgeModel_word (D : va_G) (I : FieldType → ClassId) (γ el : Nat → Nat → Nat) (P563925 : List Nat) (F563926 : Nat → va_E) (q563927 : Nat) (p563928 : Int32) (p563929 : Int32) : Option Value → va_W → Nat → Nat → Prop := fun r w dc ds => ∃ (F564420 : Nat → va_E), r = none ∧ w = va_pl P563925 F564420 ∧ RS D I P563925 F564420 γ el ∧ rStr γ [] F563926 F564420 ∧ dc ≤ 0 ∧ ds ≤ 0 ∧ (fI (F564420 q563927) 9).toInt = (fI (F563926 q563927) 9).toInt ∧ (fI (F564420 q563927) 10).toInt = (fI (F563926 q563927) 10).toInt ∧ (fI (F564420 q563927) 32).toInt = (fI (F563926 q563927) 32).toInt ∧ (fI (F564420 q563927) 30).toInt = (fI (F563926 q563927) 30).toInt
set_option maxRecDepth 100000 in
set_option maxHeartbeats 4000000 in
theorem ct_563930_SpillForgeModel_word (l : Launch) (hl0 : l.stackTraces = false) (D : va_G) (I : FieldType → ClassId) (γ el : Nat → Nat → Nat) (P563925 : List Nat) (F563926 : Nat → va_E) (q563927 : Nat) (p563928 : Int32) (p563929 : Int32) (hT : RS D I P563925 F563926 γ el) (htq563927 : rKd γ q563927 10) (bp563929 : gB p563929 0 8188) : CtA (gV D I) l yX17_word cX17_word 4 none 0 0 0 0 [.ref q563927, .int p563928, .int p563929] (va_pl P563925 F563926) (pt_563930_SpillForgeModel_word D I γ el P563925 F563926 q563927 p563928 p563929) gNA := by
  refine CtA_of hl0 (by decide) (Nat.le_of_ble_eq_true rfl) ?_
  have bp563928 := gB_any p563928
  have hm563931 : q563927 ∈ P563925 := RS_m hT htq563927 (by decide)
  refine rk10_e (show rk_10 γ (F563926 q563927) from RS_o hT htq563927) (fun q563933 q563934 p563935 p563936 p563937 p563938 p563939 p563940 p563941 p563942 p563943 p563944 p563945 p563946 p563947 p563948 p563949 he563932 hB563976 ht563950 ht563951 ht563952 ht563953 ht563954 ht563955 ht563956 ht563957 ht563958 ht563959 ht563960 ht563961 ht563962 ht563963 ht563964 ht563965 ht563966 ht563967 ht563968 ht563969 ht563970 ht563971 ht563972 ht563973 hB563977 => ?_)
  have ac563978 : (fI (F563926 q563927) 9).toInt = p563935.toInt := by rw [he563932]; rfl
  have bp563935 : gB p563935 0 1 := (hB563976.1)
  have ac563979 : (fI (F563926 q563927) 10).toInt = p563936.toInt := by rw [he563932]; rfl
  have bp563936 : gB p563936 0 1 := (hB563976.2.1)
  have ac563980 : (fI (F563926 q563927) 32).toInt = p563947.toInt := by rw [he563932]; rfl
  have bp563947 : gB p563947 0 8192 := (hB563976.2.2.2.2.2.2.2.1)
  have ac563981 : (fI (F563926 q563927) 30).toInt = p563946.toInt := by rw [he563932]; rfl
  have bp563946 : gB p563946 (-2147483648) 2147483647 := (gB_any p563946)
  refine G_iconst 0 dr_cX17_word_0 (by decide +kernel) ?_
  refine G_istore_n (L' := [(3, .int 0), (0, .ref q563927), (1, .int p563928), (2, .int p563929)]) dr_cX17_word_1 (Nat.le_of_ble_eq_true rfl) rfl ?_
  have hlp2_564329 : ∀ (n2_564329 : Nat) (F564323 : Nat → va_E) (g564322 : Int32), gB g564322 0 4 → RS D I P563925 F564323 γ el → rStr γ [] F563926 F564323 → (fI (F564323 q563927) 9).toInt = (fI (F563926 q563927) 9).toInt → (fI (F564323 q563927) 10).toInt = (fI (F563926 q563927) 10).toInt → (fI (F564323 q563927) 32).toInt = (fI (F563926 q563927) 32).toInt → (fI (F564323 q563927) 30).toInt = (fI (F563926 q563927) 30).toInt → ((5 : Int) - g564322.toInt).toNat < n2_564329 → G (gV D I) l (gRm 0 0 0 0) (gMA (gV D I) (pt_563930_SpillForgeModel_word D I γ el P563925 F563926 q563927 p563928 p563929) gNA 0 0) ky_563930_SpillForgeModel_word 2 [(3, .int g564322), (0, .ref q563927), (1, .int p563928), (2, .int p563929)] [] (va_pl P563925 F564323) 0 0 := by
    intro n2_564329
    induction n2_564329 with
    | zero => intro F564323 g564322 bg564322 hT564324 hs564325 x564326 x564327 x564328 x564329 hm2_564329; exact absurd hm2_564329 (Nat.not_lt_zero _)
    | succ n2_564329 ih2_564329 =>
      intro F564323 g564322 bg564322 hT564324 hs564325 x564326 x564327 x564328 x564329 hm2_564329
      have hs564331 : rStr γ [] F563926 F564323 := fun b h0 hb hw => (hs564325 b h0 hb hw).trans ((rStr_rf (γ := γ) (W := []) (F := F563926)) b h0 hb hw).symm
      have hs564332 : rStr γ [] F563926 F564323 := rStr_tr (rStr_rf (γ := γ) (W := []) (F := F563926)) hs564331
      have hm564333 : q563927 ∈ P563925 := RS_m hT564324 htq563927 (by decide)
      refine rk10_e (show rk_10 γ (F564323 q563927) from RS_o hT564324 htq563927) (fun q564335 q564336 p564337 p564338 p564339 p564340 p564341 p564342 p564343 p564344 p564345 p564346 p564347 p564348 p564349 p564350 p564351 he564334 hB564378 ht564352 ht564353 ht564354 ht564355 ht564356 ht564357 ht564358 ht564359 ht564360 ht564361 ht564362 ht564363 ht564364 ht564365 ht564366 ht564367 ht564368 ht564369 ht564370 ht564371 ht564372 ht564373 ht564374 ht564375 hB564379 => ?_)
      have ac564380 : (fI (F564323 q563927) 9).toInt = p564337.toInt := by rw [he564334]; rfl
      have bp564337 : gB p564337 0 1 := (hB564378.1)
      have ac564381 : (fI (F564323 q563927) 10).toInt = p564338.toInt := by rw [he564334]; rfl
      have bp564338 : gB p564338 0 1 := (hB564378.2.1)
      have ac564382 : (fI (F564323 q563927) 32).toInt = p564349.toInt := by rw [he564334]; rfl
      have bp564349 : gB p564349 0 8192 := (hB564378.2.2.2.2.2.2.2.1)
      have ac564383 : (fI (F564323 q563927) 30).toInt = p564348.toInt := by rw [he564334]; rfl
      have bp564348 : gB p564348 (-2147483648) 2147483647 := (gB_any p564348)
      have ac564384 : (fI (F564323 q563927) 9).toInt = p564337.toInt := by rw [he564334]; rfl
      have ac564385 : (fI (F564323 q563927) 10).toInt = p564338.toInt := by rw [he564334]; rfl
      have ac564386 : (fI (F564323 q563927) 32).toInt = p564349.toInt := by rw [he564334]; rfl
      have ac564387 : (fI (F564323 q563927) 30).toInt = p564348.toInt := by rw [he564334]; rfl
      refine G_iload_n 0 dr_cX17_word_2 rfl ?_
      refine G_iconst 4 dr_cX17_word_3 (by decide +kernel) ?_
      refine G_icmp_ge 31 dr_cX17_word_4 (by decide +kernel) (fun hc564388 => ?_) (fun hc564388 => ?_)
      · have r564389 : 4 ≤ g564322.toInt := gj_leL hc564388 (show Int32.toInt 4 = 4 by decide)
        have bg564322' : gB g564322 4 4 := ⟨by omega, by omega⟩
        have ac564390 : (fI (F564323 q563927) 9).toInt = p564337.toInt := by rw [he564334]; rfl
        have ac564391 : (fI (F564323 q563927) 10).toInt = p564338.toInt := by rw [he564334]; rfl
        have ac564392 : (fI (F564323 q563927) 32).toInt = p564349.toInt := by rw [he564334]; rfl
        have ac564393 : (fI (F564323 q563927) 30).toInt = p564348.toInt := by rw [he564334]; rfl
        exact G_vretA dr_cX17_word_31 rfl (Nat.le_of_ble_eq_true rfl) (Nat.le_of_ble_eq_true rfl) ⟨F564323, rfl, rfl, hT564324, hs564325, (Nat.le_of_ble_eq_true rfl), (Nat.le_of_ble_eq_true rfl), (by omega), (by omega), (by omega), (by omega)⟩
      · have r564394 : g564322.toInt < 4 := gj_nleL hc564388 (show Int32.toInt 4 = 4 by decide)
        have bg564322' : gB g564322 0 3 := ⟨by omega, by omega⟩
        refine G_aload_n 1 dr_cX17_word_7 rfl ?_
        refine Gp_get 31 hm564333 he564334 dr_cX17_word_8 (gk_X17 D I) (Nat.le_of_ble_eq_true rfl) wr_7_105 rfl ?_
        refine G_iload_n 3 dr_cX17_word_11 rfl ?_
        refine G_iload_n 0 dr_cX17_word_12 rfl ?_
        refine G_iadd dr_cX17_word_13 (G_nam fun z564395 hz564395 => ?_)
        have ez564395 : z564395.toInt = p563929.toInt + g564322.toInt := by rw [gI_add hz564395 bp563929 bg564322' (by decide) (by decide)]
        have bz564395 : gB z564395 0 8191 := gB_add (gI_add hz564395 bp563929 bg564322' (by decide) (by decide)) bp563929 bg564322' (by decide) (by decide)
        refine G_iload_n 2 dr_cX17_word_14 rfl ?_
        refine G_bipush 24 dr_cX17_word_15 (by decide +kernel) ?_
        refine G_bipush 8 dr_cX17_word_17 (by decide +kernel) ?_
        refine G_iload_n 0 dr_cX17_word_19 rfl ?_
        refine G_imul dr_cX17_word_20 (G_nam fun z564396 hz564396 => ?_)
        have ez564396 : z564396.toInt = 8 * g564322.toInt := by rw [gI_mul hz564396 (gBl (show Int32.toInt 8 = 8 by decide)) bg564322' (by decide) (by decide) (by decide), show Int32.toInt 8 = 8 from by decide]
        have bz564396 : gB z564396 0 24 := gB_mul hz564396 (gBl (show Int32.toInt 8 = 8 by decide)) bg564322' (by decide) (by decide) (by decide) (by decide)
        refine G_isub dr_cX17_word_21 (G_nam fun z564397 hz564397 => ?_)
        have ez564397 : z564397.toInt = 24 - z564396.toInt := by rw [gI_sub hz564397 (gBl (show Int32.toInt 24 = 24 by decide)) bz564396 (by decide) (by decide), show Int32.toInt 24 = 24 from by decide]
        have bz564397 : gB z564397 0 24 := gB_sub (gI_sub hz564397 (gBl (show Int32.toInt 24 = 24 by decide)) bz564396 (by decide) (by decide)) (gBl (show Int32.toInt 24 = 24 by decide)) bz564396 (by decide) (by decide)
        refine G_ishr dr_cX17_word_22 (G_nam fun z564398 hz564398 => ?_)
        have bz564398 : gB z564398 (-2147483648) 2147483647 := gB_any z564398
        refine G_i2b dr_cX17_word_23 (G_nam fun z564399 hz564399 => ?_)
        have bz564399 : gB z564399 (-128) 127 := gB_i2b hz564399
        have hm564400 : (γ 9 31) ∈ P563925 := RS_m hT564324 ht564372 (by decide)
        obtain ⟨f564402, he564401, bf564402⟩ := show rk_25 I (F564323 (γ 9 31)) from RS_o hT564324 ht564372
        refine Gp_bast 1 hm564400 he564401 dr_cX17_word_24 rfl (gB_in bz564395 (by decide) (by decide)) (fun F564403 e564404 n564405 => ?_)
        obtain ⟨f564406, hf564406⟩ : ∃ z, z = upd f564402 z564395.toNatClampNeg (vp_nar .byte z564399) := ⟨_, rfl⟩
        rw [← hf564406] at e564404
        have he564407 : F564403 q563927 = .inr (22, [.ref (γ 9 0), .ref (γ 9 1), .ref (γ 9 2), .ref (γ 9 3), .ref (γ 9 4), .ref (γ 9 5), .ref (γ 9 6), .ref (γ 9 7), .ref (γ 9 8), .int p564337, .int p564338, .int p564339, .int p564340, .int p564341, .int p564342, .ref (γ 9 15), .ref (γ 9 16), .ref (γ 9 17), .ref (γ 9 18), .ref (γ 9 19), .ref (γ 9 20), .ref (γ 9 21), .ref (γ 9 22), .int p564343, .int p564344, .int p564345, .int p564346, .int p564347, .ref q564335, .ref (γ 9 29), .int p564348, .ref (γ 9 31), .int p564349, .int p564350, .int p564351, .ref q564336]) := (n564405 q563927 (rn_oa he564334 he564401)).trans he564334
        have he564408 : F564403 (γ 9 31) = .inl (I .byte, 8192, .inl f564406) := e564404
        have hs564409 : rStr γ [] F563926 F564403 := rStr_put hs564325 n564405 ht564372 (by decide)
        have bf564406 : gF f564406 (-128) 127 := gF_upd hf564406 bf564402 gB_byte
        obtain ⟨z564410, hz564410⟩ : ∃ z : Int32, z = g564322 + Int32.ofInt 1 := ⟨_, rfl⟩
        have ez564410 : z564410.toInt = g564322.toInt + 1 := gI_inc hz564410 (by decide) bg564322' (by decide) (by decide)
        have bz564410 : gB z564410 1 4 := ⟨by omega, by omega⟩
        refine G_iinc (L' := [(3, .int z564410), (0, .ref q563927), (1, .int p563928), (2, .int p563929)]) z564410 0 dr_cX17_word_25 rfl hz564410.symm (Nat.le_of_ble_eq_true rfl) rfl ?_
        refine G_goto 2 dr_cX17_word_28 (by decide +kernel) ?_
        have hT564411 : RS D I P563925 F564403 γ el := RS_set hT564324 n564405 ht564372 (by decide) ⟨f564406, he564408, bf564406⟩
        have ac564412 : (fI (F564403 q563927) 9).toInt = p564337.toInt := by rw [he564407]; rfl
        have ac564413 : (fI (F564403 q563927) 10).toInt = p564338.toInt := by rw [he564407]; rfl
        have ac564414 : (fI (F564403 q563927) 32).toInt = p564349.toInt := by rw [he564407]; rfl
        have ac564415 : (fI (F564403 q563927) 30).toInt = p564348.toInt := by rw [he564407]; rfl
        exact ih2_564329 F564403 z564410 (gB_w bz564410 (by decide) (by decide)) hT564411 hs564409 (by omega) (by omega) (by omega) (by omega) (mz_up ez564410 (Int.le_trans bg564322'.2 (by decide)) hm2_564329)
  have ac564416 : (fI (F563926 q563927) 9).toInt = p563935.toInt := by rw [he563932]; rfl
  have ac564417 : (fI (F563926 q563927) 10).toInt = p563936.toInt := by rw [he563932]; rfl
  have ac564418 : (fI (F563926 q563927) 32).toInt = p563947.toInt := by rw [he563932]; rfl
  have ac564419 : (fI (F563926 q563927) 30).toInt = p563946.toInt := by rw [he563932]; rfl
  exact hlp2_564329 (((5 : Int) - 0).toNat + 1) F563926 0 (gB_w (gBl (show Int32.toInt 0 = 0 by decide)) (by decide) (by decide)) hT (rStr_rf (γ := γ) (W := []) (F := F563926)) (by omega) (by omega) (by omega) (by omega) (Nat.lt_succ_self _)
abbrev ky_563864_SpillForgeModel_feed : gKey := (cX17_feed, 6, "SpillForgeModel", (some FieldType.int), [], "feed", fun _ _ => True)
def pt_563864_SpillForgeModel_feed (D : va_G) (I : FieldType → ClassId) (γ el : Nat → Nat → Nat) (P563856 : List Nat) (F563857 : Nat → va_E) (q563858 : Nat) (p563859 : Int32) (p563860 : Int32) (p563861 : Int32) (p563862 : Int32) (p563863 : Int32) : Option Value → va_W → Nat → Nat → Prop := fun r w dc ds => ∃ (F564851 : Nat → va_E) (o564850 : Int32), r = some (.int o564850) ∧ w = va_pl P563856 F564851 ∧ RS D I P563856 F564851 γ el ∧ rStr γ [] F563857 F564851 ∧ dc ≤ 0 ∧ ds ≤ 0 ∧ gB o564850 0 8212 ∧ (((fI (F563857 q563858) 32).toInt ≤ 8172 ∧ o564850.toInt = (fI (F563857 q563858) 32).toInt + 20 ∧ (fI (F564851 q563858) 32).toInt = (fI (F563857 q563858) 32).toInt + 20 ∧ (fI (F564851 q563858) 30).toInt = 0) ∨ (8172 < (fI (F563857 q563858) 32).toInt ∧ (fI (F564851 q563858) 30).toInt = 1 ∧ (fI (F564851 q563858) 32).toInt = (fI (F563857 q563858) 32).toInt)) ∧ (fI (F564851 q563858) 9).toInt = (fI (F563857 q563858) 9).toInt ∧ (fI (F564851 q563858) 10).toInt = (fI (F563857 q563858) 10).toInt
set_option maxRecDepth 100000 in
set_option maxHeartbeats 4000000 in
theorem ct_563864_SpillForgeModel_feed (l : Launch) (hl0 : l.stackTraces = false) (D : va_G) (I : FieldType → ClassId) (γ el : Nat → Nat → Nat) (P563856 : List Nat) (F563857 : Nat → va_E) (q563858 : Nat) (p563859 : Int32) (p563860 : Int32) (p563861 : Int32) (p563862 : Int32) (p563863 : Int32) (hT : RS D I P563856 F563857 γ el) (htq563858 : rKd γ q563858 10) : CtA (gV D I) l yX17_feed cX17_feed 6 (some FieldType.int) 1 23 0 0 [.ref q563858, .int p563859, .int p563860, .int p563861, .int p563862, .int p563863] (va_pl P563856 F563857) (pt_563864_SpillForgeModel_feed D I γ el P563856 F563857 q563858 p563859 p563860 p563861 p563862 p563863) gNA := by
  refine CtA_of hl0 (by decide) (Nat.le_of_ble_eq_true rfl) ?_
  have bp563859 := gB_any p563859
  have bp563860 := gB_any p563860
  have bp563861 := gB_any p563861
  have bp563862 := gB_any p563862
  have bp563863 := gB_any p563863
  have hm563865 : q563858 ∈ P563856 := RS_m hT htq563858 (by decide)
  refine rk10_e (show rk_10 γ (F563857 q563858) from RS_o hT htq563858) (fun q563867 q563868 p563869 p563870 p563871 p563872 p563873 p563874 p563875 p563876 p563877 p563878 p563879 p563880 p563881 p563882 p563883 he563866 hB563910 ht563884 ht563885 ht563886 ht563887 ht563888 ht563889 ht563890 ht563891 ht563892 ht563893 ht563894 ht563895 ht563896 ht563897 ht563898 ht563899 ht563900 ht563901 ht563902 ht563903 ht563904 ht563905 ht563906 ht563907 hB563911 => ?_)
  have ac563912 : (fI (F563857 q563858) 9).toInt = p563869.toInt := by rw [he563866]; rfl
  have bp563869 : gB p563869 0 1 := (hB563910.1)
  have ac563913 : (fI (F563857 q563858) 10).toInt = p563870.toInt := by rw [he563866]; rfl
  have bp563870 : gB p563870 0 1 := (hB563910.2.1)
  have ac563914 : (fI (F563857 q563858) 32).toInt = p563881.toInt := by rw [he563866]; rfl
  have bp563881 : gB p563881 0 8192 := (hB563910.2.2.2.2.2.2.2.1)
  have ac563915 : (fI (F563857 q563858) 30).toInt = p563880.toInt := by rw [he563866]; rfl
  have bp563880 : gB p563880 (-2147483648) 2147483647 := (gB_any p563880)
  refine G_aload_n 0 dr_cX17_feed_0 rfl ?_
  refine G_iconst 0 dr_cX17_feed_1 (by decide +kernel) ?_
  refine Gp_put 30 hm563865 he563866 dr_cX17_feed_2 (gk_X17 D I) (Nat.le_of_ble_eq_true rfl) wr_7_104 rfl rfl rfl (Nat.le_of_ble_eq_true rfl) (fun F563916 e563917 n563918 => ?_)
  have he563919 : F563916 q563858 = .inr (22, [.ref (γ 9 0), .ref (γ 9 1), .ref (γ 9 2), .ref (γ 9 3), .ref (γ 9 4), .ref (γ 9 5), .ref (γ 9 6), .ref (γ 9 7), .ref (γ 9 8), .int p563869, .int p563870, .int p563871, .int p563872, .int p563873, .int p563874, .ref (γ 9 15), .ref (γ 9 16), .ref (γ 9 17), .ref (γ 9 18), .ref (γ 9 19), .ref (γ 9 20), .ref (γ 9 21), .ref (γ 9 22), .int p563875, .int p563876, .int p563877, .int p563878, .int p563879, .ref q563867, .ref (γ 9 29), .int 0, .ref (γ 9 31), .int p563881, .int p563882, .int p563883, .ref q563868]) := e563917
  have hs563920 : rStr γ [] F563857 F563916 := rStr_put (rStr_rf (γ := γ) (W := []) (F := F563857)) n563918 htq563858 (by decide)
  refine G_aload_n 0 dr_cX17_feed_5 rfl ?_
  refine Gp_get 32 hm563865 he563919 dr_cX17_feed_6 (gk_X17 D I) (Nat.le_of_ble_eq_true rfl) wr_7_106 rfl ?_
  refine G_bipush 20 dr_cX17_feed_9 (by decide +kernel) ?_
  refine G_iadd dr_cX17_feed_11 (G_nam fun z563921 hz563921 => ?_)
  have ez563921 : z563921.toInt = p563881.toInt + 20 := by rw [gI_add hz563921 bp563881 (gBl (show Int32.toInt 20 = 20 by decide)) (by decide) (by decide), show Int32.toInt 20 = 20 from by decide]
  have bz563921 : gB z563921 20 8212 := gB_add (gI_add hz563921 bp563881 (gBl (show Int32.toInt 20 = 20 by decide)) (by decide) (by decide)) bp563881 (gBl (show Int32.toInt 20 = 20 by decide)) (by decide) (by decide)
  refine G_sipush 8192 dr_cX17_feed_12 (by decide +kernel) ?_
  refine G_icmp_le 24 dr_cX17_feed_15 (by decide +kernel) (fun hc563922 => ?_) (fun hc563922 => ?_)
  · have r563923 : z563921.toInt ≤ 8192 := gj_le hc563922 (show Int32.toInt 8192 = 8192 by decide)
    have bz563921' : gB z563921 20 8192 := ⟨by omega, by omega⟩
    refine G_aload_n 0 dr_cX17_feed_24 rfl ?_
    refine G_iload_n 1 dr_cX17_feed_25 rfl ?_
    refine G_aload_n 0 dr_cX17_feed_26 rfl ?_
    refine Gp_get 32 hm563865 he563919 dr_cX17_feed_27 (gk_X17 D I) (Nat.le_of_ble_eq_true rfl) wr_7_106 rfl ?_
    have hT563924 : RS D I P563856 F563916 γ el := RS_set hT n563918 htq563858 (by decide) ⟨q563867, q563868, p563869, p563870, p563871, p563872, p563873, p563874, p563875, p563876, p563877, p563878, p563879, 0, p563881, p563882, p563883, he563919, ⟨bp563869, bp563870, (hB563910.2.2.1), (hB563910.2.2.2.1), (hB563910.2.2.2.2.1), (hB563910.2.2.2.2.2.1), (hB563910.2.2.2.2.2.2.1), bp563881, (hB563910.2.2.2.2.2.2.2.2)⟩, ht563884, ht563885, ht563886, ht563887, ht563888, ht563889, ht563890, ht563891, ht563892, ht563893, ht563894, ht563895, ht563896, ht563897, ht563898, ht563899, ht563900, ht563901, ht563902, ht563903, ht563904, ht563905, ht563906, ht563907, hB563911⟩
    have ac564421 : (fI (F563916 q563858) 9).toInt = p563869.toInt := by rw [he563919]; rfl
    have ac564422 : (fI (F563916 q563858) 10).toInt = p563870.toInt := by rw [he563919]; rfl
    have ac564423 : (fI (F563916 q563858) 32).toInt = p563881.toInt := by rw [he563919]; rfl
    have ac564424 : (fI (F563916 q563858) 30).toInt = 0 := by rw [he563919]; show Int32.toInt 0 = 0; decide
    refine Gw_callV (As := [.int p563859, .int p563881]) (gV_ok D I) (ct_563930_SpillForgeModel_word l hl0 D I γ el P563856 F563916 q563858 p563859 p563881 hT563924 htq563858 ⟨by omega, by omega⟩) dr_cX17_feed_30 ⟨wr_7_191, wr_1_14, wr_7_194, by decide, rfl, (Nat.le_of_ble_eq_true rfl), (Nat.le_of_ble_eq_true rfl)⟩ wr_7_193 wr_p_74 hm563865 he563919 rfl (show 0 + 0 ≤ 0 by first | omega | decide) (show 0 + 0 ≤ 0 by first | omega | decide) (Nat.le_of_ble_eq_true rfl) (fun r564428 w564429 dc564425 ds564426 hp564427 => ?_) (fun _ _ _ _ _ z => z.elim)
    obtain ⟨F564434, rfl, rfl, hT564435, hs564436, hdc, hds, x564430, x564431, x564432, x564433⟩ := hp564427
    have hs564437 : rStr γ [] F563857 F564434 := rStr_tr hs563920 hs564436
    change G _ _ _ _ _ _ _ _ _ _ _
    refine G_widen (cs' := 0) (sl' := 0) (by omega) (by omega) ?_
    refine G_aload_n 0 dr_cX17_feed_33 rfl ?_
    refine G_iload_n 2 dr_cX17_feed_34 rfl ?_
    refine G_aload_n 0 dr_cX17_feed_35 rfl ?_
    have hm564438 : q563858 ∈ P563856 := RS_m hT564435 htq563858 (by decide)
    refine rk10_e (show rk_10 γ (F564434 q563858) from RS_o hT564435 htq563858) (fun q564440 q564441 p564442 p564443 p564444 p564445 p564446 p564447 p564448 p564449 p564450 p564451 p564452 p564453 p564454 p564455 p564456 he564439 hB564483 ht564457 ht564458 ht564459 ht564460 ht564461 ht564462 ht564463 ht564464 ht564465 ht564466 ht564467 ht564468 ht564469 ht564470 ht564471 ht564472 ht564473 ht564474 ht564475 ht564476 ht564477 ht564478 ht564479 ht564480 hB564484 => ?_)
    have ac564485 : (fI (F564434 q563858) 9).toInt = p564442.toInt := by rw [he564439]; rfl
    have bp564442 : gB p564442 0 1 := (hB564483.1)
    have ac564486 : (fI (F564434 q563858) 10).toInt = p564443.toInt := by rw [he564439]; rfl
    have bp564443 : gB p564443 0 1 := (hB564483.2.1)
    have ac564487 : (fI (F564434 q563858) 32).toInt = p564454.toInt := by rw [he564439]; rfl
    have bp564454 : gB p564454 0 8192 := (hB564483.2.2.2.2.2.2.2.1)
    have ac564488 : (fI (F564434 q563858) 30).toInt = p564453.toInt := by rw [he564439]; rfl
    have bp564453 : gB p564453 (-2147483648) 2147483647 := (gB_any p564453)
    refine Gp_get 32 hm564438 he564439 dr_cX17_feed_36 (gk_X17 D I) (Nat.le_of_ble_eq_true rfl) wr_7_106 rfl ?_
    refine G_iconst 4 dr_cX17_feed_39 (by decide +kernel) ?_
    refine G_iadd dr_cX17_feed_40 (G_nam fun z564489 hz564489 => ?_)
    have ez564489 : z564489.toInt = p564454.toInt + 4 := by rw [gI_add hz564489 bp564454 (gBl (show Int32.toInt 4 = 4 by decide)) (by decide) (by decide), show Int32.toInt 4 = 4 from by decide]
    have bz564489 : gB z564489 4 8196 := gB_add (gI_add hz564489 bp564454 (gBl (show Int32.toInt 4 = 4 by decide)) (by decide) (by decide)) bp564454 (gBl (show Int32.toInt 4 = 4 by decide)) (by decide) (by decide)
    have ac564490 : (fI (F564434 q563858) 9).toInt = p564442.toInt := by rw [he564439]; rfl
    have ac564491 : (fI (F564434 q563858) 10).toInt = p564443.toInt := by rw [he564439]; rfl
    have ac564492 : (fI (F564434 q563858) 32).toInt = p564454.toInt := by rw [he564439]; rfl
    have ac564493 : (fI (F564434 q563858) 30).toInt = p564453.toInt := by rw [he564439]; rfl
    refine Gw_callV (As := [.int p563860, .int z564489]) (gV_ok D I) (ct_563930_SpillForgeModel_word l hl0 D I γ el P563856 F564434 q563858 p563860 z564489 hT564435 htq563858 ⟨by omega, by omega⟩) dr_cX17_feed_41 ⟨wr_7_191, wr_1_14, wr_7_194, by decide, rfl, (Nat.le_of_ble_eq_true rfl), (Nat.le_of_ble_eq_true rfl)⟩ wr_7_193 wr_p_74 hm564438 he564439 rfl (show 0 + 0 ≤ 0 by first | omega | decide) (show 0 + 0 ≤ 0 by first | omega | decide) (Nat.le_of_ble_eq_true rfl) (fun r564497 w564498 dc564494 ds564495 hp564496 => ?_) (fun _ _ _ _ _ z => z.elim)
    obtain ⟨F564503, rfl, rfl, hT564504, hs564505, hdc, hds, x564499, x564500, x564501, x564502⟩ := hp564496
    have hs564506 : rStr γ [] F563857 F564503 := rStr_tr hs564437 hs564505
    change G _ _ _ _ _ _ _ _ _ _ _
    refine G_widen (cs' := 0) (sl' := 0) (by omega) (by omega) ?_
    refine G_aload_n 0 dr_cX17_feed_44 rfl ?_
    refine G_iload_n 3 dr_cX17_feed_45 rfl ?_
    refine G_aload_n 0 dr_cX17_feed_46 rfl ?_
    have hm564507 : q563858 ∈ P563856 := RS_m hT564504 htq563858 (by decide)
    refine rk10_e (show rk_10 γ (F564503 q563858) from RS_o hT564504 htq563858) (fun q564509 q564510 p564511 p564512 p564513 p564514 p564515 p564516 p564517 p564518 p564519 p564520 p564521 p564522 p564523 p564524 p564525 he564508 hB564552 ht564526 ht564527 ht564528 ht564529 ht564530 ht564531 ht564532 ht564533 ht564534 ht564535 ht564536 ht564537 ht564538 ht564539 ht564540 ht564541 ht564542 ht564543 ht564544 ht564545 ht564546 ht564547 ht564548 ht564549 hB564553 => ?_)
    have ac564554 : (fI (F564503 q563858) 9).toInt = p564511.toInt := by rw [he564508]; rfl
    have bp564511 : gB p564511 0 1 := (hB564552.1)
    have ac564555 : (fI (F564503 q563858) 10).toInt = p564512.toInt := by rw [he564508]; rfl
    have bp564512 : gB p564512 0 1 := (hB564552.2.1)
    have ac564556 : (fI (F564503 q563858) 32).toInt = p564523.toInt := by rw [he564508]; rfl
    have bp564523 : gB p564523 0 8192 := (hB564552.2.2.2.2.2.2.2.1)
    have ac564557 : (fI (F564503 q563858) 30).toInt = p564522.toInt := by rw [he564508]; rfl
    have bp564522 : gB p564522 (-2147483648) 2147483647 := (gB_any p564522)
    refine Gp_get 32 hm564507 he564508 dr_cX17_feed_47 (gk_X17 D I) (Nat.le_of_ble_eq_true rfl) wr_7_106 rfl ?_
    refine G_bipush 8 dr_cX17_feed_50 (by decide +kernel) ?_
    refine G_iadd dr_cX17_feed_52 (G_nam fun z564558 hz564558 => ?_)
    have ez564558 : z564558.toInt = p564523.toInt + 8 := by rw [gI_add hz564558 bp564523 (gBl (show Int32.toInt 8 = 8 by decide)) (by decide) (by decide), show Int32.toInt 8 = 8 from by decide]
    have bz564558 : gB z564558 8 8200 := gB_add (gI_add hz564558 bp564523 (gBl (show Int32.toInt 8 = 8 by decide)) (by decide) (by decide)) bp564523 (gBl (show Int32.toInt 8 = 8 by decide)) (by decide) (by decide)
    have ac564559 : (fI (F564503 q563858) 9).toInt = p564511.toInt := by rw [he564508]; rfl
    have ac564560 : (fI (F564503 q563858) 10).toInt = p564512.toInt := by rw [he564508]; rfl
    have ac564561 : (fI (F564503 q563858) 32).toInt = p564523.toInt := by rw [he564508]; rfl
    have ac564562 : (fI (F564503 q563858) 30).toInt = p564522.toInt := by rw [he564508]; rfl
    refine Gw_callV (As := [.int p563861, .int z564558]) (gV_ok D I) (ct_563930_SpillForgeModel_word l hl0 D I γ el P563856 F564503 q563858 p563861 z564558 hT564504 htq563858 ⟨by omega, by omega⟩) dr_cX17_feed_53 ⟨wr_7_191, wr_1_14, wr_7_194, by decide, rfl, (Nat.le_of_ble_eq_true rfl), (Nat.le_of_ble_eq_true rfl)⟩ wr_7_193 wr_p_74 hm564507 he564508 rfl (show 0 + 0 ≤ 0 by first | omega | decide) (show 0 + 0 ≤ 0 by first | omega | decide) (Nat.le_of_ble_eq_true rfl) (fun r564566 w564567 dc564563 ds564564 hp564565 => ?_) (fun _ _ _ _ _ z => z.elim)
    obtain ⟨F564572, rfl, rfl, hT564573, hs564574, hdc, hds, x564568, x564569, x564570, x564571⟩ := hp564565
    have hs564575 : rStr γ [] F563857 F564572 := rStr_tr hs564506 hs564574
    change G _ _ _ _ _ _ _ _ _ _ _
    refine G_widen (cs' := 0) (sl' := 0) (by omega) (by omega) ?_
    refine G_aload_n 0 dr_cX17_feed_56 rfl ?_
    refine G_iload 4 dr_cX17_feed_57 rfl ?_
    refine G_aload_n 0 dr_cX17_feed_59 rfl ?_
    have hm564576 : q563858 ∈ P563856 := RS_m hT564573 htq563858 (by decide)
    refine rk10_e (show rk_10 γ (F564572 q563858) from RS_o hT564573 htq563858) (fun q564578 q564579 p564580 p564581 p564582 p564583 p564584 p564585 p564586 p564587 p564588 p564589 p564590 p564591 p564592 p564593 p564594 he564577 hB564621 ht564595 ht564596 ht564597 ht564598 ht564599 ht564600 ht564601 ht564602 ht564603 ht564604 ht564605 ht564606 ht564607 ht564608 ht564609 ht564610 ht564611 ht564612 ht564613 ht564614 ht564615 ht564616 ht564617 ht564618 hB564622 => ?_)
    have ac564623 : (fI (F564572 q563858) 9).toInt = p564580.toInt := by rw [he564577]; rfl
    have bp564580 : gB p564580 0 1 := (hB564621.1)
    have ac564624 : (fI (F564572 q563858) 10).toInt = p564581.toInt := by rw [he564577]; rfl
    have bp564581 : gB p564581 0 1 := (hB564621.2.1)
    have ac564625 : (fI (F564572 q563858) 32).toInt = p564592.toInt := by rw [he564577]; rfl
    have bp564592 : gB p564592 0 8192 := (hB564621.2.2.2.2.2.2.2.1)
    have ac564626 : (fI (F564572 q563858) 30).toInt = p564591.toInt := by rw [he564577]; rfl
    have bp564591 : gB p564591 (-2147483648) 2147483647 := (gB_any p564591)
    refine Gp_get 32 hm564576 he564577 dr_cX17_feed_60 (gk_X17 D I) (Nat.le_of_ble_eq_true rfl) wr_7_106 rfl ?_
    refine G_bipush 12 dr_cX17_feed_63 (by decide +kernel) ?_
    refine G_iadd dr_cX17_feed_65 (G_nam fun z564627 hz564627 => ?_)
    have ez564627 : z564627.toInt = p564592.toInt + 12 := by rw [gI_add hz564627 bp564592 (gBl (show Int32.toInt 12 = 12 by decide)) (by decide) (by decide), show Int32.toInt 12 = 12 from by decide]
    have bz564627 : gB z564627 12 8204 := gB_add (gI_add hz564627 bp564592 (gBl (show Int32.toInt 12 = 12 by decide)) (by decide) (by decide)) bp564592 (gBl (show Int32.toInt 12 = 12 by decide)) (by decide) (by decide)
    have ac564628 : (fI (F564572 q563858) 9).toInt = p564580.toInt := by rw [he564577]; rfl
    have ac564629 : (fI (F564572 q563858) 10).toInt = p564581.toInt := by rw [he564577]; rfl
    have ac564630 : (fI (F564572 q563858) 32).toInt = p564592.toInt := by rw [he564577]; rfl
    have ac564631 : (fI (F564572 q563858) 30).toInt = p564591.toInt := by rw [he564577]; rfl
    refine Gw_callV (As := [.int p563862, .int z564627]) (gV_ok D I) (ct_563930_SpillForgeModel_word l hl0 D I γ el P563856 F564572 q563858 p563862 z564627 hT564573 htq563858 ⟨by omega, by omega⟩) dr_cX17_feed_66 ⟨wr_7_191, wr_1_14, wr_7_194, by decide, rfl, (Nat.le_of_ble_eq_true rfl), (Nat.le_of_ble_eq_true rfl)⟩ wr_7_193 wr_p_74 hm564576 he564577 rfl (show 0 + 0 ≤ 0 by first | omega | decide) (show 0 + 0 ≤ 0 by first | omega | decide) (Nat.le_of_ble_eq_true rfl) (fun r564635 w564636 dc564632 ds564633 hp564634 => ?_) (fun _ _ _ _ _ z => z.elim)
    obtain ⟨F564641, rfl, rfl, hT564642, hs564643, hdc, hds, x564637, x564638, x564639, x564640⟩ := hp564634
    have hs564644 : rStr γ [] F563857 F564641 := rStr_tr hs564575 hs564643
    change G _ _ _ _ _ _ _ _ _ _ _
    refine G_widen (cs' := 0) (sl' := 0) (by omega) (by omega) ?_
    refine G_aload_n 0 dr_cX17_feed_69 rfl ?_
    refine G_iload 5 dr_cX17_feed_70 rfl ?_
    refine G_aload_n 0 dr_cX17_feed_72 rfl ?_
    have hm564645 : q563858 ∈ P563856 := RS_m hT564642 htq563858 (by decide)
    refine rk10_e (show rk_10 γ (F564641 q563858) from RS_o hT564642 htq563858) (fun q564647 q564648 p564649 p564650 p564651 p564652 p564653 p564654 p564655 p564656 p564657 p564658 p564659 p564660 p564661 p564662 p564663 he564646 hB564690 ht564664 ht564665 ht564666 ht564667 ht564668 ht564669 ht564670 ht564671 ht564672 ht564673 ht564674 ht564675 ht564676 ht564677 ht564678 ht564679 ht564680 ht564681 ht564682 ht564683 ht564684 ht564685 ht564686 ht564687 hB564691 => ?_)
    have ac564692 : (fI (F564641 q563858) 9).toInt = p564649.toInt := by rw [he564646]; rfl
    have bp564649 : gB p564649 0 1 := (hB564690.1)
    have ac564693 : (fI (F564641 q563858) 10).toInt = p564650.toInt := by rw [he564646]; rfl
    have bp564650 : gB p564650 0 1 := (hB564690.2.1)
    have ac564694 : (fI (F564641 q563858) 32).toInt = p564661.toInt := by rw [he564646]; rfl
    have bp564661 : gB p564661 0 8192 := (hB564690.2.2.2.2.2.2.2.1)
    have ac564695 : (fI (F564641 q563858) 30).toInt = p564660.toInt := by rw [he564646]; rfl
    have bp564660 : gB p564660 (-2147483648) 2147483647 := (gB_any p564660)
    refine Gp_get 32 hm564645 he564646 dr_cX17_feed_73 (gk_X17 D I) (Nat.le_of_ble_eq_true rfl) wr_7_106 rfl ?_
    refine G_bipush 16 dr_cX17_feed_76 (by decide +kernel) ?_
    refine G_iadd dr_cX17_feed_78 (G_nam fun z564696 hz564696 => ?_)
    have ez564696 : z564696.toInt = p564661.toInt + 16 := by rw [gI_add hz564696 bp564661 (gBl (show Int32.toInt 16 = 16 by decide)) (by decide) (by decide), show Int32.toInt 16 = 16 from by decide]
    have bz564696 : gB z564696 16 8208 := gB_add (gI_add hz564696 bp564661 (gBl (show Int32.toInt 16 = 16 by decide)) (by decide) (by decide)) bp564661 (gBl (show Int32.toInt 16 = 16 by decide)) (by decide) (by decide)
    have ac564697 : (fI (F564641 q563858) 9).toInt = p564649.toInt := by rw [he564646]; rfl
    have ac564698 : (fI (F564641 q563858) 10).toInt = p564650.toInt := by rw [he564646]; rfl
    have ac564699 : (fI (F564641 q563858) 32).toInt = p564661.toInt := by rw [he564646]; rfl
    have ac564700 : (fI (F564641 q563858) 30).toInt = p564660.toInt := by rw [he564646]; rfl
    refine Gw_callV (As := [.int p563863, .int z564696]) (gV_ok D I) (ct_563930_SpillForgeModel_word l hl0 D I γ el P563856 F564641 q563858 p563863 z564696 hT564642 htq563858 ⟨by omega, by omega⟩) dr_cX17_feed_79 ⟨wr_7_191, wr_1_14, wr_7_194, by decide, rfl, (Nat.le_of_ble_eq_true rfl), (Nat.le_of_ble_eq_true rfl)⟩ wr_7_193 wr_p_74 hm564645 he564646 rfl (show 0 + 0 ≤ 0 by first | omega | decide) (show 0 + 0 ≤ 0 by first | omega | decide) (Nat.le_of_ble_eq_true rfl) (fun r564704 w564705 dc564701 ds564702 hp564703 => ?_) (fun _ _ _ _ _ z => z.elim)
    obtain ⟨F564710, rfl, rfl, hT564711, hs564712, hdc, hds, x564706, x564707, x564708, x564709⟩ := hp564703
    have hs564713 : rStr γ [] F563857 F564710 := rStr_tr hs564644 hs564712
    change G _ _ _ _ _ _ _ _ _ _ _
    refine G_widen (cs' := 0) (sl' := 0) (by omega) (by omega) ?_
    refine G_aload_n 0 dr_cX17_feed_82 rfl ?_
    refine G_dup dr_cX17_feed_83 rfl ?_
    have hm564714 : q563858 ∈ P563856 := RS_m hT564711 htq563858 (by decide)
    refine rk10_e (show rk_10 γ (F564710 q563858) from RS_o hT564711 htq563858) (fun q564716 q564717 p564718 p564719 p564720 p564721 p564722 p564723 p564724 p564725 p564726 p564727 p564728 p564729 p564730 p564731 p564732 he564715 hB564759 ht564733 ht564734 ht564735 ht564736 ht564737 ht564738 ht564739 ht564740 ht564741 ht564742 ht564743 ht564744 ht564745 ht564746 ht564747 ht564748 ht564749 ht564750 ht564751 ht564752 ht564753 ht564754 ht564755 ht564756 hB564760 => ?_)
    have ac564761 : (fI (F564710 q563858) 9).toInt = p564718.toInt := by rw [he564715]; rfl
    have bp564718 : gB p564718 0 1 := (hB564759.1)
    have ac564762 : (fI (F564710 q563858) 10).toInt = p564719.toInt := by rw [he564715]; rfl
    have bp564719 : gB p564719 0 1 := (hB564759.2.1)
    have ac564763 : (fI (F564710 q563858) 32).toInt = p564730.toInt := by rw [he564715]; rfl
    have bp564730 : gB p564730 0 8192 := (hB564759.2.2.2.2.2.2.2.1)
    have ac564764 : (fI (F564710 q563858) 30).toInt = p564729.toInt := by rw [he564715]; rfl
    have bp564729 : gB p564729 (-2147483648) 2147483647 := (gB_any p564729)
    refine Gp_get 32 hm564714 he564715 dr_cX17_feed_84 (gk_X17 D I) (Nat.le_of_ble_eq_true rfl) wr_7_106 rfl ?_
    refine G_bipush 20 dr_cX17_feed_87 (by decide +kernel) ?_
    refine G_iadd dr_cX17_feed_89 (G_nam fun z564765 hz564765 => ?_)
    have ez564765 : z564765.toInt = p564730.toInt + 20 := by rw [gI_add hz564765 bp564730 (gBl (show Int32.toInt 20 = 20 by decide)) (by decide) (by decide), show Int32.toInt 20 = 20 from by decide]
    have bz564765 : gB z564765 20 8212 := gB_add (gI_add hz564765 bp564730 (gBl (show Int32.toInt 20 = 20 by decide)) (by decide) (by decide)) bp564730 (gBl (show Int32.toInt 20 = 20 by decide)) (by decide) (by decide)
    refine Gp_put 32 hm564714 he564715 dr_cX17_feed_90 (gk_X17 D I) (Nat.le_of_ble_eq_true rfl) wr_7_106 rfl rfl rfl (Nat.le_of_ble_eq_true rfl) (fun F564766 e564767 n564768 => ?_)
    have he564769 : F564766 q563858 = .inr (22, [.ref (γ 9 0), .ref (γ 9 1), .ref (γ 9 2), .ref (γ 9 3), .ref (γ 9 4), .ref (γ 9 5), .ref (γ 9 6), .ref (γ 9 7), .ref (γ 9 8), .int p564718, .int p564719, .int p564720, .int p564721, .int p564722, .int p564723, .ref (γ 9 15), .ref (γ 9 16), .ref (γ 9 17), .ref (γ 9 18), .ref (γ 9 19), .ref (γ 9 20), .ref (γ 9 21), .ref (γ 9 22), .int p564724, .int p564725, .int p564726, .int p564727, .int p564728, .ref q564716, .ref (γ 9 29), .int p564729, .ref (γ 9 31), .int z564765, .int p564731, .int p564732, .ref q564717]) := e564767
    have hs564770 : rStr γ [] F563857 F564766 := rStr_put hs564713 n564768 htq563858 (by decide)
    refine G_aload_n 0 dr_cX17_feed_93 rfl ?_
    refine Gp_get 32 hm564714 he564769 dr_cX17_feed_94 (gk_X17 D I) (Nat.le_of_ble_eq_true rfl) wr_7_106 rfl ?_
    have hT564771 : RS D I P563856 F564766 γ el := RS_set hT564711 n564768 htq563858 (by decide) ⟨q564716, q564717, p564718, p564719, p564720, p564721, p564722, p564723, p564724, p564725, p564726, p564727, p564728, p564729, z564765, p564731, p564732, he564769, ⟨bp564718, bp564719, (hB564759.2.2.1), (hB564759.2.2.2.1), (hB564759.2.2.2.2.1), (hB564759.2.2.2.2.2.1), (hB564759.2.2.2.2.2.2.1), ⟨by omega, by omega⟩, (hB564759.2.2.2.2.2.2.2.2)⟩, ht564733, ht564734, ht564735, ht564736, ht564737, ht564738, ht564739, ht564740, ht564741, ht564742, ht564743, ht564744, ht564745, ht564746, ht564747, ht564748, ht564749, ht564750, ht564751, ht564752, ht564753, ht564754, ht564755, ht564756, hB564760⟩
    have ac564772 : (fI (F564766 q563858) 9).toInt = p564718.toInt := by rw [he564769]; rfl
    have ac564773 : (fI (F564766 q563858) 10).toInt = p564719.toInt := by rw [he564769]; rfl
    have ac564774 : (fI (F564766 q563858) 32).toInt = z564765.toInt := by rw [he564769]; rfl
    have ac564775 : (fI (F564766 q563858) 30).toInt = p564729.toInt := by rw [he564769]; rfl
    exact G_iretA dr_cX17_feed_97 rfl (Nat.le_of_ble_eq_true rfl) (Nat.le_of_ble_eq_true rfl) ⟨F564766, z564765, rfl, rfl, hT564771, hs564770, (Nat.le_of_ble_eq_true rfl), (Nat.le_of_ble_eq_true rfl), (gB_w bz564765 (by decide) (by decide)), (by omega), (by omega), (by omega)⟩
  · have r564776 : 8192 < z563921.toInt := gj_nle hc563922 (show Int32.toInt 8192 = 8192 by decide)
    have bz563921' : gB z563921 8193 8212 := ⟨by omega, by omega⟩
    refine G_aload_n 0 dr_cX17_feed_18 rfl ?_
    refine G_iconst 1 dr_cX17_feed_19 (by decide +kernel) ?_
    have hT564777 : RS D I P563856 F563916 γ el := RS_set hT n563918 htq563858 (by decide) ⟨q563867, q563868, p563869, p563870, p563871, p563872, p563873, p563874, p563875, p563876, p563877, p563878, p563879, 0, p563881, p563882, p563883, he563919, ⟨bp563869, bp563870, (hB563910.2.2.1), (hB563910.2.2.2.1), (hB563910.2.2.2.2.1), (hB563910.2.2.2.2.2.1), (hB563910.2.2.2.2.2.2.1), bp563881, (hB563910.2.2.2.2.2.2.2.2)⟩, ht563884, ht563885, ht563886, ht563887, ht563888, ht563889, ht563890, ht563891, ht563892, ht563893, ht563894, ht563895, ht563896, ht563897, ht563898, ht563899, ht563900, ht563901, ht563902, ht563903, ht563904, ht563905, ht563906, ht563907, hB563911⟩
    have ac564778 : (fI (F563916 q563858) 9).toInt = p563869.toInt := by rw [he563919]; rfl
    have ac564779 : (fI (F563916 q563858) 10).toInt = p563870.toInt := by rw [he563919]; rfl
    have ac564780 : (fI (F563916 q563858) 32).toInt = p563881.toInt := by rw [he563919]; rfl
    have ac564781 : (fI (F563916 q563858) 30).toInt = 0 := by rw [he563919]; show Int32.toInt 0 = 0; decide
    refine Gw_callV (As := [.int 1]) (gV_ok D I) (ct_563506_SpillForgeModel_no l hl0 D I γ el P563856 F563916 q563858 1 hT564777 htq563858) dr_cX17_feed_20 ⟨wr_7_187, wr_1_14, wr_7_190, by decide, rfl, (Nat.le_of_ble_eq_true rfl), (Nat.le_of_ble_eq_true rfl)⟩ wr_7_189 wr_p_73 hm563865 he563919 rfl (show 0 + 0 ≤ 0 by first | omega | decide) (show 0 + 0 ≤ 0 by first | omega | decide) (Nat.le_of_ble_eq_true rfl) (fun r564785 w564786 dc564782 ds564783 hp564784 => ?_) (fun _ _ _ _ _ z => z.elim)
    obtain ⟨F564791, rfl, rfl, hT564792, hs564793, hdc, hds, x564787, x564788, x564789, x564790⟩ := hp564784
    have hs564794 : rStr γ [] F563857 F564791 := rStr_tr hs563920 hs564793
    rw [show Int32.toInt 1 = 1 from by decide] at x564790
    change G _ _ _ _ _ _ _ (.int 0 :: _) _ _ _
    refine G_widen (cs' := 0) (sl' := 0) (by omega) (by omega) ?_
    have hm564795 : q563858 ∈ P563856 := RS_m hT564792 htq563858 (by decide)
    refine rk10_e (show rk_10 γ (F564791 q563858) from RS_o hT564792 htq563858) (fun q564797 q564798 p564799 p564800 p564801 p564802 p564803 p564804 p564805 p564806 p564807 p564808 p564809 p564810 p564811 p564812 p564813 he564796 hB564840 ht564814 ht564815 ht564816 ht564817 ht564818 ht564819 ht564820 ht564821 ht564822 ht564823 ht564824 ht564825 ht564826 ht564827 ht564828 ht564829 ht564830 ht564831 ht564832 ht564833 ht564834 ht564835 ht564836 ht564837 hB564841 => ?_)
    have ac564842 : (fI (F564791 q563858) 9).toInt = p564799.toInt := by rw [he564796]; rfl
    have bp564799 : gB p564799 0 1 := (hB564840.1)
    have ac564843 : (fI (F564791 q563858) 10).toInt = p564800.toInt := by rw [he564796]; rfl
    have bp564800 : gB p564800 0 1 := (hB564840.2.1)
    have ac564844 : (fI (F564791 q563858) 32).toInt = p564811.toInt := by rw [he564796]; rfl
    have bp564811 : gB p564811 0 8192 := (hB564840.2.2.2.2.2.2.2.1)
    have ac564845 : (fI (F564791 q563858) 30).toInt = p564810.toInt := by rw [he564796]; rfl
    have bp564810 : gB p564810 (-2147483648) 2147483647 := (gB_any p564810)
    have ac564846 : (fI (F564791 q563858) 9).toInt = p564799.toInt := by rw [he564796]; rfl
    have ac564847 : (fI (F564791 q563858) 10).toInt = p564800.toInt := by rw [he564796]; rfl
    have ac564848 : (fI (F564791 q563858) 32).toInt = p564811.toInt := by rw [he564796]; rfl
    have ac564849 : (fI (F564791 q563858) 30).toInt = p564810.toInt := by rw [he564796]; rfl
    exact G_iretA dr_cX17_feed_23 rfl (Nat.le_of_ble_eq_true rfl) (Nat.le_of_ble_eq_true rfl) ⟨F564791, 0, rfl, rfl, hT564792, hs564794, (Nat.le_of_ble_eq_true rfl), (Nat.le_of_ble_eq_true rfl), (gB_w (gBl (show Int32.toInt 0 = 0 by decide)) (by decide) (by decide)), (by have qa0 : Int32.toInt 0 = 0 := (by decide); omega), (by have qa0 : Int32.toInt 0 = 0 := (by decide); omega), (by have qa0 : Int32.toInt 0 = 0 := (by decide); omega)⟩
