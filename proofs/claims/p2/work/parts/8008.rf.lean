abbrev ky_628511_SpillForgeModel_end : gKey := (cX17_end, 2, "SpillForgeModel", (some FieldType.int), [], "end", fun _ _ => True)
def pt_628511_SpillForgeModel_end (D : va_G) (I : FieldType → ClassId) (γ el : Nat → Nat → Nat) (P628507 : List Nat) (F628508 : Nat → va_E) (q628509 : Nat) (p628510 : Int32) : Option Value → va_W → Nat → Nat → Prop := fun r w dc ds => ∃ (F628732 : Nat → va_E) (o628731 : Int32), r = some (.int o628731) ∧ w = va_pl P628507 F628732 ∧ RS D I P628507 F628732 γ el ∧ rStr γ [] F628508 F628732 ∧ dc ≤ 0 ∧ ds ≤ 0 ∧ gB o628731 0 8192 ∧ ((0 ≤ p628510.toInt ∧ p628510.toInt ≤ (fI (F628508 q628509) 32).toInt ∧ o628731.toInt = p628510.toInt ∧ (fI (F628732 q628509) 32).toInt = p628510.toInt ∧ (fI (F628732 q628509) 30).toInt = 0) ∨ ((p628510.toInt < 0 ∨ (fI (F628508 q628509) 32).toInt < p628510.toInt) ∧ (fI (F628732 q628509) 30).toInt = 1 ∧ (fI (F628732 q628509) 32).toInt = (fI (F628508 q628509) 32).toInt)) ∧ (fI (F628732 q628509) 9).toInt = (fI (F628508 q628509) 9).toInt ∧ (fI (F628732 q628509) 10).toInt = (fI (F628508 q628509) 10).toInt
set_option maxRecDepth 100000 in
set_option maxHeartbeats 4000000 in
theorem ct_628511_SpillForgeModel_end (l : Launch) (hl0 : l.stackTraces = false) (D : va_G) (I : FieldType → ClassId) (γ el : Nat → Nat → Nat) (P628507 : List Nat) (F628508 : Nat → va_E) (q628509 : Nat) (p628510 : Int32) (hT : RS D I P628507 F628508 γ el) (htq628509 : rKd γ q628509 10) : CtA (gV D I) l yX17_end cX17_end 2 (some FieldType.int) 1 21 0 0 [.ref q628509, .int p628510] (va_pl P628507 F628508) (pt_628511_SpillForgeModel_end D I γ el P628507 F628508 q628509 p628510) gNA := by
  refine CtA_of hl0 (by decide) (Nat.le_of_ble_eq_true rfl) ?_
  have bp628510 := gB_any p628510
  have hm628512 : q628509 ∈ P628507 := RS_m hT htq628509 (by decide)
  refine rk10_e (show rk_10 γ (F628508 q628509) from RS_o hT htq628509) (fun q628514 q628515 p628516 p628517 p628518 p628519 p628520 p628521 p628522 p628523 p628524 p628525 p628526 p628527 p628528 p628529 p628530 he628513 hB628557 ht628531 ht628532 ht628533 ht628534 ht628535 ht628536 ht628537 ht628538 ht628539 ht628540 ht628541 ht628542 ht628543 ht628544 ht628545 ht628546 ht628547 ht628548 ht628549 ht628550 ht628551 ht628552 ht628553 ht628554 hB628558 => ?_)
  have ac628559 : (fI (F628508 q628509) 9).toInt = p628516.toInt := by rw [he628513]; rfl
  have bp628516 : gB p628516 0 1 := (hB628557.1)
  have ac628560 : (fI (F628508 q628509) 10).toInt = p628517.toInt := by rw [he628513]; rfl
  have bp628517 : gB p628517 0 1 := (hB628557.2.1)
  have ac628561 : (fI (F628508 q628509) 32).toInt = p628528.toInt := by rw [he628513]; rfl
  have bp628528 : gB p628528 0 8192 := (hB628557.2.2.2.2.2.2.2.1)
  have ac628562 : (fI (F628508 q628509) 30).toInt = p628527.toInt := by rw [he628513]; rfl
  have bp628527 : gB p628527 (-2147483648) 2147483647 := (gB_any p628527)
  refine G_aload_n 0 dr_cX17_end_0 rfl ?_
  refine G_iconst 0 dr_cX17_end_1 (by decide +kernel) ?_
  refine Gp_put 30 hm628512 he628513 dr_cX17_end_2 (gk_X17 D I) (Nat.le_of_ble_eq_true rfl) wr_7_104 rfl rfl rfl (Nat.le_of_ble_eq_true rfl) (fun F628563 e628564 n628565 => ?_)
  have he628566 : F628563 q628509 = .inr (22, [.ref (γ 9 0), .ref (γ 9 1), .ref (γ 9 2), .ref (γ 9 3), .ref (γ 9 4), .ref (γ 9 5), .ref (γ 9 6), .ref (γ 9 7), .ref (γ 9 8), .int p628516, .int p628517, .int p628518, .int p628519, .int p628520, .int p628521, .ref (γ 9 15), .ref (γ 9 16), .ref (γ 9 17), .ref (γ 9 18), .ref (γ 9 19), .ref (γ 9 20), .ref (γ 9 21), .ref (γ 9 22), .int p628522, .int p628523, .int p628524, .int p628525, .int p628526, .ref q628514, .ref (γ 9 29), .int 0, .ref (γ 9 31), .int p628528, .int p628529, .int p628530, .ref q628515]) := e628564
  have hs628567 : rStr γ [] F628508 F628563 := rStr_put (rStr_rf (γ := γ) (W := []) (F := F628508)) n628565 htq628509 (by decide)
  refine G_iload_n 1 dr_cX17_end_5 rfl ?_
  refine G_if_lt 17 dr_cX17_end_6 (by decide +kernel) (fun hc628568 => ?_) (fun hc628568 => ?_)
  · have r628569 : p628510.toInt < 0 := gj_lt hc628568 (show Int32.toInt 0 = 0 by decide)
    have bp628510' : gB p628510 (-2147483648) (-1) := ⟨by omega, by omega⟩
    refine G_aload_n 0 dr_cX17_end_17 rfl ?_
    refine G_iconst 1 dr_cX17_end_18 (by decide +kernel) ?_
    have hT628570 : RS D I P628507 F628563 γ el := RS_set hT n628565 htq628509 (by decide) ⟨q628514, q628515, p628516, p628517, p628518, p628519, p628520, p628521, p628522, p628523, p628524, p628525, p628526, 0, p628528, p628529, p628530, he628566, ⟨bp628516, bp628517, (hB628557.2.2.1), (hB628557.2.2.2.1), (hB628557.2.2.2.2.1), (hB628557.2.2.2.2.2.1), (hB628557.2.2.2.2.2.2.1), bp628528, (hB628557.2.2.2.2.2.2.2.2)⟩, ht628531, ht628532, ht628533, ht628534, ht628535, ht628536, ht628537, ht628538, ht628539, ht628540, ht628541, ht628542, ht628543, ht628544, ht628545, ht628546, ht628547, ht628548, ht628549, ht628550, ht628551, ht628552, ht628553, ht628554, hB628558⟩
    have ac628571 : (fI (F628563 q628509) 9).toInt = p628516.toInt := by rw [he628566]; rfl
    have ac628572 : (fI (F628563 q628509) 10).toInt = p628517.toInt := by rw [he628566]; rfl
    have ac628573 : (fI (F628563 q628509) 32).toInt = p628528.toInt := by rw [he628566]; rfl
    have ac628574 : (fI (F628563 q628509) 30).toInt = 0 := by rw [he628566]; show Int32.toInt 0 = 0; decide
    refine Gw_callV (As := [.int 1]) (gV_ok D I) (ct_627106_SpillForgeModel_no l hl0 D I γ el P628507 F628563 q628509 1 hT628570 htq628509) dr_cX17_end_19 ⟨wr_7_191, wr_1_14, wr_7_194, by decide, rfl, (Nat.le_of_ble_eq_true rfl), (Nat.le_of_ble_eq_true rfl)⟩ wr_7_193 wr_p_73 hm628512 he628566 rfl (show 0 + 0 ≤ 0 by first | omega | decide) (show 0 + 0 ≤ 0 by first | omega | decide) (Nat.le_of_ble_eq_true rfl) (fun r628578 w628579 dc628575 ds628576 hp628577 => ?_) (fun _ _ _ _ _ z => z.elim)
    obtain ⟨F628584, rfl, rfl, hT628585, hs628586, hdc, hds, x628580, x628581, x628582, x628583⟩ := hp628577
    have hs628587 : rStr γ [] F628508 F628584 := rStr_tr hs628567 hs628586
    rw [show Int32.toInt 1 = 1 from by decide] at x628583
    change G _ _ _ _ _ _ _ (.int 0 :: _) _ _ _
    refine G_widen (cs' := 0) (sl' := 0) (by omega) (by omega) ?_
    have hm628588 : q628509 ∈ P628507 := RS_m hT628585 htq628509 (by decide)
    refine rk10_e (show rk_10 γ (F628584 q628509) from RS_o hT628585 htq628509) (fun q628590 q628591 p628592 p628593 p628594 p628595 p628596 p628597 p628598 p628599 p628600 p628601 p628602 p628603 p628604 p628605 p628606 he628589 hB628633 ht628607 ht628608 ht628609 ht628610 ht628611 ht628612 ht628613 ht628614 ht628615 ht628616 ht628617 ht628618 ht628619 ht628620 ht628621 ht628622 ht628623 ht628624 ht628625 ht628626 ht628627 ht628628 ht628629 ht628630 hB628634 => ?_)
    have ac628635 : (fI (F628584 q628509) 9).toInt = p628592.toInt := by rw [he628589]; rfl
    have bp628592 : gB p628592 0 1 := (hB628633.1)
    have ac628636 : (fI (F628584 q628509) 10).toInt = p628593.toInt := by rw [he628589]; rfl
    have bp628593 : gB p628593 0 1 := (hB628633.2.1)
    have ac628637 : (fI (F628584 q628509) 32).toInt = p628604.toInt := by rw [he628589]; rfl
    have bp628604 : gB p628604 0 8192 := (hB628633.2.2.2.2.2.2.2.1)
    have ac628638 : (fI (F628584 q628509) 30).toInt = p628603.toInt := by rw [he628589]; rfl
    have bp628603 : gB p628603 (-2147483648) 2147483647 := (gB_any p628603)
    have ac628639 : (fI (F628584 q628509) 9).toInt = p628592.toInt := by rw [he628589]; rfl
    have ac628640 : (fI (F628584 q628509) 10).toInt = p628593.toInt := by rw [he628589]; rfl
    have ac628641 : (fI (F628584 q628509) 32).toInt = p628604.toInt := by rw [he628589]; rfl
    have ac628642 : (fI (F628584 q628509) 30).toInt = p628603.toInt := by rw [he628589]; rfl
    exact G_iretA dr_cX17_end_22 rfl (Nat.le_of_ble_eq_true rfl) (Nat.le_of_ble_eq_true rfl) ⟨F628584, 0, rfl, rfl, hT628585, hs628587, (Nat.le_of_ble_eq_true rfl), (Nat.le_of_ble_eq_true rfl), (gB_w (gBl (show Int32.toInt 0 = 0 by decide)) (by decide) (by decide)), (by have qa0 : Int32.toInt 0 = 0 := (by decide); omega), (by have qa0 : Int32.toInt 0 = 0 := (by decide); omega), (by have qa0 : Int32.toInt 0 = 0 := (by decide); omega)⟩
  · have r628643 : 0 ≤ p628510.toInt := gj_nlt hc628568 (show Int32.toInt 0 = 0 by decide)
    have bp628510' : gB p628510 0 2147483647 := ⟨by omega, by omega⟩
    refine G_iload_n 1 dr_cX17_end_9 rfl ?_
    refine G_aload_n 0 dr_cX17_end_10 rfl ?_
    refine Gp_get 32 hm628512 he628566 dr_cX17_end_11 (gk_X17 D I) (Nat.le_of_ble_eq_true rfl) wr_7_106 rfl ?_
    refine G_icmp_le 23 dr_cX17_end_14 (by decide +kernel) (fun hc628644 => ?_) (fun hc628644 => ?_)
    · have r628645 : p628510.toInt ≤ p628528.toInt := gC_le hc628644
      have bp628510'' : gB p628510 0 8192 := ⟨by omega, by omega⟩
      refine G_aload_n 0 dr_cX17_end_23 rfl ?_
      refine G_iload_n 1 dr_cX17_end_24 rfl ?_
      refine Gp_put 32 hm628512 he628566 dr_cX17_end_25 (gk_X17 D I) (Nat.le_of_ble_eq_true rfl) wr_7_106 rfl rfl rfl (Nat.le_of_ble_eq_true rfl) (fun F628646 e628647 n628648 => ?_)
      have he628649 : F628646 q628509 = .inr (22, [.ref (γ 9 0), .ref (γ 9 1), .ref (γ 9 2), .ref (γ 9 3), .ref (γ 9 4), .ref (γ 9 5), .ref (γ 9 6), .ref (γ 9 7), .ref (γ 9 8), .int p628516, .int p628517, .int p628518, .int p628519, .int p628520, .int p628521, .ref (γ 9 15), .ref (γ 9 16), .ref (γ 9 17), .ref (γ 9 18), .ref (γ 9 19), .ref (γ 9 20), .ref (γ 9 21), .ref (γ 9 22), .int p628522, .int p628523, .int p628524, .int p628525, .int p628526, .ref q628514, .ref (γ 9 29), .int 0, .ref (γ 9 31), .int p628510, .int p628529, .int p628530, .ref q628515]) := e628647
      have hs628650 : rStr γ [] F628508 F628646 := rStr_put hs628567 n628648 htq628509 (by decide)
      have n628651 : ∀ b, b ≠ q628509 → F628646 b = F628508 b := fun b hb => (n628648 b hb).trans (n628565 b hb)
      refine G_iload_n 1 dr_cX17_end_28 rfl ?_
      have hT628652 : RS D I P628507 F628646 γ el := RS_set hT n628651 htq628509 (by decide) ⟨q628514, q628515, p628516, p628517, p628518, p628519, p628520, p628521, p628522, p628523, p628524, p628525, p628526, 0, p628510, p628529, p628530, he628649, ⟨bp628516, bp628517, (hB628557.2.2.1), (hB628557.2.2.2.1), (hB628557.2.2.2.2.1), (hB628557.2.2.2.2.2.1), (hB628557.2.2.2.2.2.2.1), bp628510'', (hB628557.2.2.2.2.2.2.2.2)⟩, ht628531, ht628532, ht628533, ht628534, ht628535, ht628536, ht628537, ht628538, ht628539, ht628540, ht628541, ht628542, ht628543, ht628544, ht628545, ht628546, ht628547, ht628548, ht628549, ht628550, ht628551, ht628552, ht628553, ht628554, hB628558⟩
      have ac628653 : (fI (F628646 q628509) 9).toInt = p628516.toInt := by rw [he628649]; rfl
      have ac628654 : (fI (F628646 q628509) 10).toInt = p628517.toInt := by rw [he628649]; rfl
      have ac628655 : (fI (F628646 q628509) 32).toInt = p628510.toInt := by rw [he628649]; rfl
      have ac628656 : (fI (F628646 q628509) 30).toInt = 0 := by rw [he628649]; show Int32.toInt 0 = 0; decide
      exact G_iretA dr_cX17_end_29 rfl (Nat.le_of_ble_eq_true rfl) (Nat.le_of_ble_eq_true rfl) ⟨F628646, p628510, rfl, rfl, hT628652, hs628650, (Nat.le_of_ble_eq_true rfl), (Nat.le_of_ble_eq_true rfl), bp628510'', (by omega), (by omega), (by omega)⟩
    · have r628657 : p628528.toInt < p628510.toInt := gC_nle hc628644
      have bp628510'' : gB p628510 1 2147483647 := ⟨by omega, by omega⟩
      refine G_aload_n 0 dr_cX17_end_17 rfl ?_
      refine G_iconst 1 dr_cX17_end_18 (by decide +kernel) ?_
      have hT628658 : RS D I P628507 F628563 γ el := RS_set hT n628565 htq628509 (by decide) ⟨q628514, q628515, p628516, p628517, p628518, p628519, p628520, p628521, p628522, p628523, p628524, p628525, p628526, 0, p628528, p628529, p628530, he628566, ⟨bp628516, bp628517, (hB628557.2.2.1), (hB628557.2.2.2.1), (hB628557.2.2.2.2.1), (hB628557.2.2.2.2.2.1), (hB628557.2.2.2.2.2.2.1), bp628528, (hB628557.2.2.2.2.2.2.2.2)⟩, ht628531, ht628532, ht628533, ht628534, ht628535, ht628536, ht628537, ht628538, ht628539, ht628540, ht628541, ht628542, ht628543, ht628544, ht628545, ht628546, ht628547, ht628548, ht628549, ht628550, ht628551, ht628552, ht628553, ht628554, hB628558⟩
      have ac628659 : (fI (F628563 q628509) 9).toInt = p628516.toInt := by rw [he628566]; rfl
      have ac628660 : (fI (F628563 q628509) 10).toInt = p628517.toInt := by rw [he628566]; rfl
      have ac628661 : (fI (F628563 q628509) 32).toInt = p628528.toInt := by rw [he628566]; rfl
      have ac628662 : (fI (F628563 q628509) 30).toInt = 0 := by rw [he628566]; show Int32.toInt 0 = 0; decide
      refine Gw_callV (As := [.int 1]) (gV_ok D I) (ct_627106_SpillForgeModel_no l hl0 D I γ el P628507 F628563 q628509 1 hT628658 htq628509) dr_cX17_end_19 ⟨wr_7_191, wr_1_14, wr_7_194, by decide, rfl, (Nat.le_of_ble_eq_true rfl), (Nat.le_of_ble_eq_true rfl)⟩ wr_7_193 wr_p_73 hm628512 he628566 rfl (show 0 + 0 ≤ 0 by first | omega | decide) (show 0 + 0 ≤ 0 by first | omega | decide) (Nat.le_of_ble_eq_true rfl) (fun r628666 w628667 dc628663 ds628664 hp628665 => ?_) (fun _ _ _ _ _ z => z.elim)
      obtain ⟨F628672, rfl, rfl, hT628673, hs628674, hdc, hds, x628668, x628669, x628670, x628671⟩ := hp628665
      have hs628675 : rStr γ [] F628508 F628672 := rStr_tr hs628567 hs628674
      rw [show Int32.toInt 1 = 1 from by decide] at x628671
      change G _ _ _ _ _ _ _ (.int 0 :: _) _ _ _
      refine G_widen (cs' := 0) (sl' := 0) (by omega) (by omega) ?_
      have hm628676 : q628509 ∈ P628507 := RS_m hT628673 htq628509 (by decide)
      refine rk10_e (show rk_10 γ (F628672 q628509) from RS_o hT628673 htq628509) (fun q628678 q628679 p628680 p628681 p628682 p628683 p628684 p628685 p628686 p628687 p628688 p628689 p628690 p628691 p628692 p628693 p628694 he628677 hB628721 ht628695 ht628696 ht628697 ht628698 ht628699 ht628700 ht628701 ht628702 ht628703 ht628704 ht628705 ht628706 ht628707 ht628708 ht628709 ht628710 ht628711 ht628712 ht628713 ht628714 ht628715 ht628716 ht628717 ht628718 hB628722 => ?_)
      have ac628723 : (fI (F628672 q628509) 9).toInt = p628680.toInt := by rw [he628677]; rfl
      have bp628680 : gB p628680 0 1 := (hB628721.1)
      have ac628724 : (fI (F628672 q628509) 10).toInt = p628681.toInt := by rw [he628677]; rfl
      have bp628681 : gB p628681 0 1 := (hB628721.2.1)
      have ac628725 : (fI (F628672 q628509) 32).toInt = p628692.toInt := by rw [he628677]; rfl
      have bp628692 : gB p628692 0 8192 := (hB628721.2.2.2.2.2.2.2.1)
      have ac628726 : (fI (F628672 q628509) 30).toInt = p628691.toInt := by rw [he628677]; rfl
      have bp628691 : gB p628691 (-2147483648) 2147483647 := (gB_any p628691)
      have ac628727 : (fI (F628672 q628509) 9).toInt = p628680.toInt := by rw [he628677]; rfl
      have ac628728 : (fI (F628672 q628509) 10).toInt = p628681.toInt := by rw [he628677]; rfl
      have ac628729 : (fI (F628672 q628509) 32).toInt = p628692.toInt := by rw [he628677]; rfl
      have ac628730 : (fI (F628672 q628509) 30).toInt = p628691.toInt := by rw [he628677]; rfl
      exact G_iretA dr_cX17_end_22 rfl (Nat.le_of_ble_eq_true rfl) (Nat.le_of_ble_eq_true rfl) ⟨F628672, 0, rfl, rfl, hT628673, hs628675, (Nat.le_of_ble_eq_true rfl), (Nat.le_of_ble_eq_true rfl), (gB_w (gBl (show Int32.toInt 0 = 0 by decide)) (by decide) (by decide)), (by have qa0 : Int32.toInt 0 = 0 := (by decide); omega), (by have qa0 : Int32.toInt 0 = 0 := (by decide); omega), (by have qa0 : Int32.toInt 0 = 0 := (by decide); omega)⟩
abbrev ky_629513_SpillForgeModel_step : gKey := (cX17_step, 4, "SpillForgeModel", (some FieldType.int), [], "step", fun _ _ => True)
def pt_629513_SpillForgeModel_step (D : va_G) (I : FieldType → ClassId) (γ el : Nat → Nat → Nat) (P629509 : List Nat) (F629510 : Nat → va_E) (q629511 : Nat) (q629512 : Nat) : Option Value → va_W → Nat → Nat → Prop := fun r w dc ds => ∃ (F629797 : Nat → va_E) (o629796 : Int32), r = some (.int o629796) ∧ w = va_pl P629509 F629797 ∧ RS D I P629509 F629797 γ el ∧ rStr γ [] F629510 F629797 ∧ dc ≤ 0 ∧ ds ≤ 0 ∧ gB o629796 (-1) 5 ∧ (fI (F629797 q629511) 26).toInt = (fI (F629510 q629511) 26).toInt ∧ (fI (F629797 q629511) 9).toInt = (fI (F629510 q629511) 9).toInt ∧ (fI (F629797 q629511) 10).toInt = (fI (F629510 q629511) 10).toInt ∧ (fI (F629797 q629511) 32).toInt = (fI (F629510 q629511) 32).toInt
set_option maxRecDepth 100000 in
set_option maxHeartbeats 4000000 in
theorem ct_629513_SpillForgeModel_step (l : Launch) (hl0 : l.stackTraces = false) (D : va_G) (I : FieldType → ClassId) (γ el : Nat → Nat → Nat) (P629509 : List Nat) (F629510 : Nat → va_E) (q629511 : Nat) (q629512 : Nat) (hT : RS D I P629509 F629510 γ el) (htq629511 : rKd γ q629511 10) (htq629512 : rKd γ q629512 1) : CtA (gV D I) l yX17_step cX17_step 4 (some FieldType.int) 1 23 0 0 [.ref q629511, .ref q629512] (va_pl P629509 F629510) (pt_629513_SpillForgeModel_step D I γ el P629509 F629510 q629511 q629512) gNA := by
  refine CtA_of hl0 (by decide) (Nat.le_of_ble_eq_true rfl) ?_
  have hm629514 : q629511 ∈ P629509 := RS_m hT htq629511 (by decide)
  refine rk10_e (show rk_10 γ (F629510 q629511) from RS_o hT htq629511) (fun q629516 q629517 p629518 p629519 p629520 p629521 p629522 p629523 p629524 p629525 p629526 p629527 p629528 p629529 p629530 p629531 p629532 he629515 hB629559 ht629533 ht629534 ht629535 ht629536 ht629537 ht629538 ht629539 ht629540 ht629541 ht629542 ht629543 ht629544 ht629545 ht629546 ht629547 ht629548 ht629549 ht629550 ht629551 ht629552 ht629553 ht629554 ht629555 ht629556 hB629560 => ?_)
  have ac629561 : (fI (F629510 q629511) 26).toInt = p629527.toInt := by rw [he629515]; rfl
  have bp629527 : gB p629527 0 100000 := (hB629559.2.2.2.2.2.1)
  have ac629562 : (fI (F629510 q629511) 9).toInt = p629518.toInt := by rw [he629515]; rfl
  have bp629518 : gB p629518 0 1 := (hB629559.1)
  have ac629563 : (fI (F629510 q629511) 10).toInt = p629519.toInt := by rw [he629515]; rfl
  have bp629519 : gB p629519 0 1 := (hB629559.2.1)
  have ac629564 : (fI (F629510 q629511) 32).toInt = p629530.toInt := by rw [he629515]; rfl
  have bp629530 : gB p629530 0 8192 := (hB629559.2.2.2.2.2.2.2.1)
  refine G_aload_n 1 dr_cX17_step_0 rfl ?_
  have hm629565 : q629512 ∈ P629509 := RS_m hT htq629512 (by decide)
  obtain ⟨p629567, p629568, p629569, p629570, p629571, p629572, p629573, he629566, bp629567, bp629568, bp629571, bp629572, bp629573, r629574, r629575, r629576, r629577⟩ := show rk_1 γ q629512 (F629510 q629512) from RS_o hT htq629512
  have bp629569 := gB_any p629569
  have bp629570 := gB_any p629570
  refine Gp_get 0 hm629565 he629566 dr_cX17_step_1 (gk_X15 D I) (Nat.le_of_ble_eq_true rfl) wr_9_177 rfl ?_
  by_cases hs629578 : p629567 = 0
  · have ehs629578 : p629567.toInt = 0 := gj_eq hs629578 (show Int32.toInt 0 = 0 by decide)
    have bp629567' : gB p629567 0 0 := ⟨by omega, by omega⟩
    refine G_eqi (y := 0) hs629578 ?_
    refine G_lookup 198 dr_cX17_step_4 (by decide) (by first | rfl | decide) (by decide) ?_
    refine G_aload_n 0 dr_cX17_step_198 rfl ?_
    refine Gp_get 20 hm629514 he629515 dr_cX17_step_199 (gk_X17 D I) (Nat.le_of_ble_eq_true rfl) wr_7_94 rfl ?_
    refine G_aload_n 1 dr_cX17_step_202 rfl ?_
    refine Gp_get 1 hm629565 he629566 dr_cX17_step_203 (gk_X15 D I) (Nat.le_of_ble_eq_true rfl) wr_9_182 rfl ?_
    refine G_aload_n 0 dr_cX17_step_206 rfl ?_
    refine G_aload_n 1 dr_cX17_step_207 rfl ?_
    refine Gp_get 5 hm629565 he629566 dr_cX17_step_208 (gk_X15 D I) (Nat.le_of_ble_eq_true rfl) wr_9_197 rfl ?_
    refine G_aload_n 1 dr_cX17_step_211 rfl ?_
    refine Gp_get 2 hm629565 he629566 dr_cX17_step_212 (gk_X15 D I) (Nat.le_of_ble_eq_true rfl) wr_9_186 rfl ?_
    refine Gw_callV (As := [.int p629572, .int p629569]) (gV_ok D I) (ct_7373_SpillForgeModel_value l hl0 D I γ el P629509 F629510 q629511 p629572 p629569 hT htq629511 bp629572 (by omega)) dr_cX17_step_215 ⟨wr_11_100, wr_1_14, wr_11_103, by decide, rfl, (Nat.le_of_ble_eq_true rfl), (Nat.le_of_ble_eq_true rfl)⟩ wr_11_102 wr_p_115 hm629514 he629515 rfl (show 0 + 0 ≤ 0 by first | omega | decide) (show 0 + 0 ≤ 0 by first | omega | decide) (Nat.le_of_ble_eq_true rfl) (fun r629582 w629583 dc629579 ds629580 hp629581 => ?_) (fun _ _ _ _ _ z => z.elim)
    obtain ⟨o629584, rfl, rfl, hdc, hds⟩ := hp629581
    have bo629584 := gB_any o629584
    change G _ _ _ _ _ _ _ (.int o629584 :: _) _ _ _
    refine G_widen (cs' := 0) (sl' := 0) (by omega) (by omega) ?_
    have hm629585 : (γ 9 20) ∈ P629509 := RS_m hT ht629549 (by decide)
    obtain ⟨f629587, he629586⟩ := show rk_22 I (F629510 (γ 9 20)) from RS_o hT ht629549
    refine Gp_iast 0 hm629585 he629586 dr_cX17_step_218 rfl (gB_in bp629568 (by decide) (by decide)) (fun F629588 e629589 n629590 => ?_)
    obtain ⟨f629591, hf629591⟩ : ∃ z, z = upd f629587 p629568.toNatClampNeg o629584 := ⟨_, rfl⟩
    rw [← hf629591] at e629589
    have he629592 : F629588 q629511 = .inr (22, [.ref (γ 9 0), .ref (γ 9 1), .ref (γ 9 2), .ref (γ 9 3), .ref (γ 9 4), .ref (γ 9 5), .ref (γ 9 6), .ref (γ 9 7), .ref (γ 9 8), .int p629518, .int p629519, .int p629520, .int p629521, .int p629522, .int p629523, .ref (γ 9 15), .ref (γ 9 16), .ref (γ 9 17), .ref (γ 9 18), .ref (γ 9 19), .ref (γ 9 20), .ref (γ 9 21), .ref (γ 9 22), .int p629524, .int p629525, .int p629526, .int p629527, .int p629528, .ref q629516, .ref (γ 9 29), .int p629529, .ref (γ 9 31), .int p629530, .int p629531, .int p629532, .ref q629517]) := (n629590 q629511 (rn_oa he629515 he629586)).trans he629515
    have he629593 : F629588 q629512 = .inr (20, [.int p629567, .int p629568, .int p629569, .int p629570, .int p629571, .int p629572, .int p629573]) := (n629590 q629512 (rn_oa he629566 he629586)).trans he629566
    have he629594 : F629588 (γ 9 20) = .inl (I .int, 2000, .inl f629591) := e629589
    have hs629595 : rStr γ [] F629510 F629588 := rStr_put (rStr_rf (γ := γ) (W := []) (F := F629510)) n629590 ht629549 (by decide)
    refine G_iconst (-1) dr_cX17_step_219 (by decide +kernel) ?_
    have hT629596 : RS D I P629509 F629588 γ el := RS_set hT n629590 ht629549 (by decide) ⟨f629591, he629594⟩
    have ac629597 : (fI (F629588 q629511) 26).toInt = p629527.toInt := by rw [he629592]; rfl
    have ac629598 : (fI (F629588 q629511) 9).toInt = p629518.toInt := by rw [he629592]; rfl
    have ac629599 : (fI (F629588 q629511) 10).toInt = p629519.toInt := by rw [he629592]; rfl
    have ac629600 : (fI (F629588 q629511) 32).toInt = p629530.toInt := by rw [he629592]; rfl
    exact G_iretA dr_cX17_step_220 rfl (Nat.le_of_ble_eq_true rfl) (Nat.le_of_ble_eq_true rfl) ⟨F629588, (-1), rfl, rfl, hT629596, hs629595, (Nat.le_of_ble_eq_true rfl), (Nat.le_of_ble_eq_true rfl), (gB_w (gBl (show Int32.toInt (-1) = (-1) by decide)) (by decide) (by decide)), (by have qa0 : Int32.toInt (-1) = (-1) := (by decide); omega), (by have qa0 : Int32.toInt (-1) = (-1) := (by decide); omega), (by have qa0 : Int32.toInt (-1) = (-1) := (by decide); omega), (by have qa0 : Int32.toInt (-1) = (-1) := (by decide); omega)⟩
  by_cases hs629601 : p629567 = 20
  · have ehs629601 : p629567.toInt = 20 := gj_eq hs629601 (show Int32.toInt 20 = 20 by decide)
    have bp629567' : gB p629567 20 20 := ⟨by omega, by omega⟩
    refine G_eqi (y := 20) hs629601 ?_
    refine G_lookup 56 dr_cX17_step_4 (by decide) (by first | rfl | decide) (by decide) ?_
    refine G_aload_n 0 dr_cX17_step_56 rfl ?_
    refine Gp_get 20 hm629514 he629515 dr_cX17_step_57 (gk_X17 D I) (Nat.le_of_ble_eq_true rfl) wr_7_94 rfl ?_
    refine G_aload_n 1 dr_cX17_step_60 rfl ?_
    refine Gp_get 1 hm629565 he629566 dr_cX17_step_61 (gk_X15 D I) (Nat.le_of_ble_eq_true rfl) wr_9_182 rfl ?_
    refine G_aload_n 0 dr_cX17_step_64 rfl ?_
    refine Gp_get 27 hm629514 he629515 dr_cX17_step_65 (gk_X17 D I) (Nat.le_of_ble_eq_true rfl) wr_7_101 rfl ?_
    have bp629528 : gB p629528 0 2048 := (hB629559.2.2.2.2.2.2.1)
    refine G_aload_n 0 dr_cX17_step_68 rfl ?_
    refine Gp_get 28 hm629514 he629515 dr_cX17_step_69 (gk_X17 D I) (Nat.le_of_ble_eq_true rfl) wr_7_102 rfl ?_
    have hm629602 : q629516 ∈ P629509 := RS_m hT ht629533 (by decide)
    obtain ⟨n629605, f629604, he629603, hn629605⟩ := show rk_26 I (F629510 q629516) from RS_o hT ht629533
    refine Gp_alen (Int32.ofNat n629605) 0 hm629602 he629603 dr_cX17_step_72 rfl rfl (G_nam fun z629606 hz629606 => ?_)
    have ez629606 : z629606.toInt = (n629605 : Nat) := gI_ofM hz629606 (by omega)
    have bz629606 : gB z629606 0 16777216 := ⟨by omega, by omega⟩
    refine G_icmp_ge 88 dr_cX17_step_73 (by decide +kernel) (fun hc629607 => ?_) (fun hc629607 => ?_)
    · have r629608 : z629606.toInt ≤ p629528.toInt := gC_le hc629607
      have bz629606' : gB z629606 0 2048 := ⟨by omega, by omega⟩
      refine G_iconst 0 dr_cX17_step_88 (by decide +kernel) ?_
      have hm629609 : (γ 9 20) ∈ P629509 := RS_m hT ht629549 (by decide)
      obtain ⟨f629611, he629610⟩ := show rk_22 I (F629510 (γ 9 20)) from RS_o hT ht629549
      refine Gp_iast 0 hm629609 he629610 dr_cX17_step_89 rfl (gB_in bp629568 (by decide) (by decide)) (fun F629612 e629613 n629614 => ?_)
      obtain ⟨f629615, hf629615⟩ : ∃ z, z = upd f629611 p629568.toNatClampNeg 0 := ⟨_, rfl⟩
      rw [← hf629615] at e629613
      have he629616 : F629612 q629511 = .inr (22, [.ref (γ 9 0), .ref (γ 9 1), .ref (γ 9 2), .ref (γ 9 3), .ref (γ 9 4), .ref (γ 9 5), .ref (γ 9 6), .ref (γ 9 7), .ref (γ 9 8), .int p629518, .int p629519, .int p629520, .int p629521, .int p629522, .int p629523, .ref (γ 9 15), .ref (γ 9 16), .ref (γ 9 17), .ref (γ 9 18), .ref (γ 9 19), .ref (γ 9 20), .ref (γ 9 21), .ref (γ 9 22), .int p629524, .int p629525, .int p629526, .int p629527, .int p629528, .ref q629516, .ref (γ 9 29), .int p629529, .ref (γ 9 31), .int p629530, .int p629531, .int p629532, .ref q629517]) := (n629614 q629511 (rn_oa he629515 he629610)).trans he629515
      have he629617 : F629612 q629512 = .inr (20, [.int p629567, .int p629568, .int p629569, .int p629570, .int p629571, .int p629572, .int p629573]) := (n629614 q629512 (rn_oa he629566 he629610)).trans he629566
      have he629618 : F629612 q629516 = .inl (I .int, n629605, .inl f629604) := (n629614 q629516 (rn_ty ht629533 ht629549 (by decide))).trans he629603
      have he629619 : F629612 (γ 9 20) = .inl (I .int, 2000, .inl f629615) := e629613
      have hs629620 : rStr γ [] F629510 F629612 := rStr_put (rStr_rf (γ := γ) (W := []) (F := F629510)) n629614 ht629549 (by decide)
      refine G_aload_n 0 dr_cX17_step_90 rfl ?_
      refine G_aload_n 0 dr_cX17_step_91 rfl ?_
      refine Gp_get 27 hm629514 he629616 dr_cX17_step_92 (gk_X17 D I) (Nat.le_of_ble_eq_true rfl) wr_7_101 rfl ?_
      refine G_iconst 1 dr_cX17_step_95 (by decide +kernel) ?_
      refine G_iadd dr_cX17_step_96 (G_nam fun z629621 hz629621 => ?_)
      have ez629621 : z629621.toInt = p629528.toInt + 1 := by rw [gI_add hz629621 bp629528 (gBl (show Int32.toInt 1 = 1 by decide)) (by decide) (by decide), show Int32.toInt 1 = 1 from by decide]
      have bz629621 : gB z629621 1 2049 := gB_add (gI_add hz629621 bp629528 (gBl (show Int32.toInt 1 = 1 by decide)) (by decide) (by decide)) bp629528 (gBl (show Int32.toInt 1 = 1 by decide)) (by decide) (by decide)
      refine G_aload_n 0 dr_cX17_step_97 rfl ?_
      refine Gp_get 28 hm629514 he629616 dr_cX17_step_98 (gk_X17 D I) (Nat.le_of_ble_eq_true rfl) wr_7_102 rfl ?_
      refine Gp_alen (Int32.ofNat n629605) 0 hm629602 he629618 dr_cX17_step_101 rfl rfl (G_nam fun z629622 hz629622 => ?_)
      have ez629622 : z629622.toInt = (n629605 : Nat) := gI_ofM hz629622 (by omega)
      have bz629622 : gB z629622 0 16777216 := ⟨by omega, by omega⟩
      refine G_mmin dr_cX17_step_102 wr_11_20 wr_3_227 wr_1_6 wr_3_228 (Nat.le_of_ble_eq_true rfl) (Nat.le_of_ble_eq_true rfl) (show 0 ≤ 0 by first | omega | decide) (show 0 ≤ 0 by first | omega | decide) (G_nam fun z629623 hz629623 => ?_)
      have ez629623 : z629621.toInt ≥ z629623.toInt ∧ z629622.toInt ≥ z629623.toInt ∧ (z629623.toInt = z629621.toInt ∨ z629623.toInt = z629622.toInt) := by have := gI_min hz629623; omega
      have bz629623 : gB z629623 0 2049 := ⟨by omega, by omega⟩
      have hT629624 : RS D I P629509 F629612 γ el := RS_set hT n629614 ht629549 (by decide) ⟨f629615, he629619⟩
      refine Gp_put 27 hm629514 he629616 dr_cX17_step_105 (gk_X17 D I) (Nat.le_of_ble_eq_true rfl) wr_7_101 rfl rfl rfl (Nat.le_of_ble_eq_true rfl) (fun F629625 e629626 n629627 => ?_)
      have he629628 : F629625 q629512 = .inr (20, [.int p629567, .int p629568, .int p629569, .int p629570, .int p629571, .int p629572, .int p629573]) := (n629627 q629512 (rn_oo he629617 he629616 (by decide))).trans he629617
      have he629629 : F629625 q629516 = .inl (I .int, n629605, .inl f629604) := (n629627 q629516 (rn_ao he629618 he629616)).trans he629618
      have he629630 : F629625 (γ 9 20) = .inl (I .int, 2000, .inl f629615) := (n629627 (γ 9 20) (rn_ao he629619 he629616)).trans he629619
      have he629631 : F629625 q629511 = .inr (22, [.ref (γ 9 0), .ref (γ 9 1), .ref (γ 9 2), .ref (γ 9 3), .ref (γ 9 4), .ref (γ 9 5), .ref (γ 9 6), .ref (γ 9 7), .ref (γ 9 8), .int p629518, .int p629519, .int p629520, .int p629521, .int p629522, .int p629523, .ref (γ 9 15), .ref (γ 9 16), .ref (γ 9 17), .ref (γ 9 18), .ref (γ 9 19), .ref (γ 9 20), .ref (γ 9 21), .ref (γ 9 22), .int p629524, .int p629525, .int p629526, .int p629527, .int z629623, .ref q629516, .ref (γ 9 29), .int p629529, .ref (γ 9 31), .int p629530, .int p629531, .int p629532, .ref q629517]) := e629626
      have hs629632 : rStr γ [] F629510 F629625 := rStr_put hs629620 n629627 htq629511 (by decide)
      refine G_iconst (-1) dr_cX17_step_108 (by decide +kernel) ?_
      have hT629633 : RS D I P629509 F629625 γ el := RS_set hT629624 n629627 htq629511 (by decide) ⟨q629516, q629517, p629518, p629519, p629520, p629521, p629522, p629523, p629524, p629525, p629526, p629527, z629623, p629529, p629530, p629531, p629532, he629631, ⟨bp629518, bp629519, (hB629559.2.2.1), (hB629559.2.2.2.1), (hB629559.2.2.2.2.1), bp629527, ⟨by omega, by omega⟩, bp629530, (hB629559.2.2.2.2.2.2.2.2)⟩, ht629533, ht629534, ht629535, ht629536, ht629537, ht629538, ht629539, ht629540, ht629541, ht629542, ht629543, ht629544, ht629545, ht629546, ht629547, ht629548, ht629549, ht629550, ht629551, ht629552, ht629553, ht629554, ht629555, ht629556, hB629560⟩
      have ac629634 : (fI (F629625 q629511) 26).toInt = p629527.toInt := by rw [he629631]; rfl
      have ac629635 : (fI (F629625 q629511) 9).toInt = p629518.toInt := by rw [he629631]; rfl
      have ac629636 : (fI (F629625 q629511) 10).toInt = p629519.toInt := by rw [he629631]; rfl
      have ac629637 : (fI (F629625 q629511) 32).toInt = p629530.toInt := by rw [he629631]; rfl
      exact G_iretA dr_cX17_step_109 rfl (Nat.le_of_ble_eq_true rfl) (Nat.le_of_ble_eq_true rfl) ⟨F629625, (-1), rfl, rfl, hT629633, hs629632, (Nat.le_of_ble_eq_true rfl), (Nat.le_of_ble_eq_true rfl), (gB_w (gBl (show Int32.toInt (-1) = (-1) by decide)) (by decide) (by decide)), (by have qa0 : Int32.toInt (-1) = (-1) := (by decide); omega), (by have qa0 : Int32.toInt (-1) = (-1) := (by decide); omega), (by have qa0 : Int32.toInt (-1) = (-1) := (by decide); omega), (by have qa0 : Int32.toInt (-1) = (-1) := (by decide); omega)⟩
    · have r629638 : p629528.toInt < z629606.toInt := gC_nle hc629607
      have bz629606' : gB z629606 1 16777216 := ⟨by omega, by omega⟩
      refine G_aload_n 0 dr_cX17_step_76 rfl ?_
      refine Gp_get 28 hm629514 he629515 dr_cX17_step_77 (gk_X17 D I) (Nat.le_of_ble_eq_true rfl) wr_7_102 rfl ?_
      refine G_aload_n 0 dr_cX17_step_80 rfl ?_
      refine Gp_get 27 hm629514 he629515 dr_cX17_step_81 (gk_X17 D I) (Nat.le_of_ble_eq_true rfl) wr_7_101 rfl ?_
      refine Gp_iald 0 hm629602 he629603 dr_cX17_step_84 rfl (gB_inr (by omega) (by omega)) (G_nam fun z629639 hz629639 => ?_)
      have bz629639 : gB z629639 (-2147483648) 2147483647 := gB_any z629639
      refine G_goto 89 dr_cX17_step_85 (by decide +kernel) ?_
      have hm629640 : (γ 9 20) ∈ P629509 := RS_m hT ht629549 (by decide)
      obtain ⟨f629642, he629641⟩ := show rk_22 I (F629510 (γ 9 20)) from RS_o hT ht629549
      refine Gp_iast 0 hm629640 he629641 dr_cX17_step_89 rfl (gB_in bp629568 (by decide) (by decide)) (fun F629643 e629644 n629645 => ?_)
      obtain ⟨f629646, hf629646⟩ : ∃ z, z = upd f629642 p629568.toNatClampNeg z629639 := ⟨_, rfl⟩
      rw [← hf629646] at e629644
      have he629647 : F629643 q629511 = .inr (22, [.ref (γ 9 0), .ref (γ 9 1), .ref (γ 9 2), .ref (γ 9 3), .ref (γ 9 4), .ref (γ 9 5), .ref (γ 9 6), .ref (γ 9 7), .ref (γ 9 8), .int p629518, .int p629519, .int p629520, .int p629521, .int p629522, .int p629523, .ref (γ 9 15), .ref (γ 9 16), .ref (γ 9 17), .ref (γ 9 18), .ref (γ 9 19), .ref (γ 9 20), .ref (γ 9 21), .ref (γ 9 22), .int p629524, .int p629525, .int p629526, .int p629527, .int p629528, .ref q629516, .ref (γ 9 29), .int p629529, .ref (γ 9 31), .int p629530, .int p629531, .int p629532, .ref q629517]) := (n629645 q629511 (rn_oa he629515 he629641)).trans he629515
      have he629648 : F629643 q629512 = .inr (20, [.int p629567, .int p629568, .int p629569, .int p629570, .int p629571, .int p629572, .int p629573]) := (n629645 q629512 (rn_oa he629566 he629641)).trans he629566
      have he629649 : F629643 q629516 = .inl (I .int, n629605, .inl f629604) := (n629645 q629516 (rn_ty ht629533 ht629549 (by decide))).trans he629603
      have he629650 : F629643 (γ 9 20) = .inl (I .int, 2000, .inl f629646) := e629644
      have hs629651 : rStr γ [] F629510 F629643 := rStr_put (rStr_rf (γ := γ) (W := []) (F := F629510)) n629645 ht629549 (by decide)
      refine G_aload_n 0 dr_cX17_step_90 rfl ?_
      refine G_aload_n 0 dr_cX17_step_91 rfl ?_
      refine Gp_get 27 hm629514 he629647 dr_cX17_step_92 (gk_X17 D I) (Nat.le_of_ble_eq_true rfl) wr_7_101 rfl ?_
      refine G_iconst 1 dr_cX17_step_95 (by decide +kernel) ?_
      refine G_iadd dr_cX17_step_96 (G_nam fun z629652 hz629652 => ?_)
      have ez629652 : z629652.toInt = p629528.toInt + 1 := by rw [gI_add hz629652 bp629528 (gBl (show Int32.toInt 1 = 1 by decide)) (by decide) (by decide), show Int32.toInt 1 = 1 from by decide]
      have bz629652 : gB z629652 1 2049 := gB_add (gI_add hz629652 bp629528 (gBl (show Int32.toInt 1 = 1 by decide)) (by decide) (by decide)) bp629528 (gBl (show Int32.toInt 1 = 1 by decide)) (by decide) (by decide)
      refine G_aload_n 0 dr_cX17_step_97 rfl ?_
      refine Gp_get 28 hm629514 he629647 dr_cX17_step_98 (gk_X17 D I) (Nat.le_of_ble_eq_true rfl) wr_7_102 rfl ?_
      refine Gp_alen (Int32.ofNat n629605) 0 hm629602 he629649 dr_cX17_step_101 rfl rfl (G_nam fun z629653 hz629653 => ?_)
      have ez629653 : z629653.toInt = (n629605 : Nat) := gI_ofM hz629653 (by omega)
      have bz629653 : gB z629653 0 16777216 := ⟨by omega, by omega⟩
      refine G_mmin dr_cX17_step_102 wr_11_20 wr_3_227 wr_1_6 wr_3_228 (Nat.le_of_ble_eq_true rfl) (Nat.le_of_ble_eq_true rfl) (show 0 ≤ 0 by first | omega | decide) (show 0 ≤ 0 by first | omega | decide) (G_nam fun z629654 hz629654 => ?_)
      have ez629654 : z629652.toInt ≥ z629654.toInt ∧ z629653.toInt ≥ z629654.toInt ∧ (z629654.toInt = z629652.toInt ∨ z629654.toInt = z629653.toInt) := by have := gI_min hz629654; omega
      have bz629654 : gB z629654 0 2049 := ⟨by omega, by omega⟩
      have hT629655 : RS D I P629509 F629643 γ el := RS_set hT n629645 ht629549 (by decide) ⟨f629646, he629650⟩
      refine Gp_put 27 hm629514 he629647 dr_cX17_step_105 (gk_X17 D I) (Nat.le_of_ble_eq_true rfl) wr_7_101 rfl rfl rfl (Nat.le_of_ble_eq_true rfl) (fun F629656 e629657 n629658 => ?_)
      have he629659 : F629656 q629512 = .inr (20, [.int p629567, .int p629568, .int p629569, .int p629570, .int p629571, .int p629572, .int p629573]) := (n629658 q629512 (rn_oo he629648 he629647 (by decide))).trans he629648
      have he629660 : F629656 q629516 = .inl (I .int, n629605, .inl f629604) := (n629658 q629516 (rn_ao he629649 he629647)).trans he629649
      have he629661 : F629656 (γ 9 20) = .inl (I .int, 2000, .inl f629646) := (n629658 (γ 9 20) (rn_ao he629650 he629647)).trans he629650
      have he629662 : F629656 q629511 = .inr (22, [.ref (γ 9 0), .ref (γ 9 1), .ref (γ 9 2), .ref (γ 9 3), .ref (γ 9 4), .ref (γ 9 5), .ref (γ 9 6), .ref (γ 9 7), .ref (γ 9 8), .int p629518, .int p629519, .int p629520, .int p629521, .int p629522, .int p629523, .ref (γ 9 15), .ref (γ 9 16), .ref (γ 9 17), .ref (γ 9 18), .ref (γ 9 19), .ref (γ 9 20), .ref (γ 9 21), .ref (γ 9 22), .int p629524, .int p629525, .int p629526, .int p629527, .int z629654, .ref q629516, .ref (γ 9 29), .int p629529, .ref (γ 9 31), .int p629530, .int p629531, .int p629532, .ref q629517]) := e629657
      have hs629663 : rStr γ [] F629510 F629656 := rStr_put hs629651 n629658 htq629511 (by decide)
      refine G_iconst (-1) dr_cX17_step_108 (by decide +kernel) ?_
      have hT629664 : RS D I P629509 F629656 γ el := RS_set hT629655 n629658 htq629511 (by decide) ⟨q629516, q629517, p629518, p629519, p629520, p629521, p629522, p629523, p629524, p629525, p629526, p629527, z629654, p629529, p629530, p629531, p629532, he629662, ⟨bp629518, bp629519, (hB629559.2.2.1), (hB629559.2.2.2.1), (hB629559.2.2.2.2.1), bp629527, ⟨by omega, by omega⟩, bp629530, (hB629559.2.2.2.2.2.2.2.2)⟩, ht629533, ht629534, ht629535, ht629536, ht629537, ht629538, ht629539, ht629540, ht629541, ht629542, ht629543, ht629544, ht629545, ht629546, ht629547, ht629548, ht629549, ht629550, ht629551, ht629552, ht629553, ht629554, ht629555, ht629556, hB629560⟩
      have ac629665 : (fI (F629656 q629511) 26).toInt = p629527.toInt := by rw [he629662]; rfl
      have ac629666 : (fI (F629656 q629511) 9).toInt = p629518.toInt := by rw [he629662]; rfl
      have ac629667 : (fI (F629656 q629511) 10).toInt = p629519.toInt := by rw [he629662]; rfl
      have ac629668 : (fI (F629656 q629511) 32).toInt = p629530.toInt := by rw [he629662]; rfl
      exact G_iretA dr_cX17_step_109 rfl (Nat.le_of_ble_eq_true rfl) (Nat.le_of_ble_eq_true rfl) ⟨F629656, (-1), rfl, rfl, hT629664, hs629663, (Nat.le_of_ble_eq_true rfl), (Nat.le_of_ble_eq_true rfl), (gB_w (gBl (show Int32.toInt (-1) = (-1) by decide)) (by decide) (by decide)), (by have qa0 : Int32.toInt (-1) = (-1) := (by decide); omega), (by have qa0 : Int32.toInt (-1) = (-1) := (by decide); omega), (by have qa0 : Int32.toInt (-1) = (-1) := (by decide); omega), (by have qa0 : Int32.toInt (-1) = (-1) := (by decide); omega)⟩
  by_cases hs629669 : p629567 = 21
  · have ehs629669 : p629567.toInt = 21 := gj_eq hs629669 (show Int32.toInt 21 = 21 by decide)
    have bp629567' : gB p629567 21 21 := ⟨by omega, by omega⟩
    refine G_eqi (y := 21) hs629669 ?_
    refine G_lookup 155 dr_cX17_step_4 (by decide) (by first | rfl | decide) (by decide) ?_
    refine G_aload_n 0 dr_cX17_step_155 rfl ?_
    refine Gp_get 20 hm629514 he629515 dr_cX17_step_156 (gk_X17 D I) (Nat.le_of_ble_eq_true rfl) wr_7_94 rfl ?_
    refine G_aload_n 1 dr_cX17_step_159 rfl ?_
    refine Gp_get 1 hm629565 he629566 dr_cX17_step_160 (gk_X15 D I) (Nat.le_of_ble_eq_true rfl) wr_9_182 rfl ?_
    refine G_aload_n 0 dr_cX17_step_163 rfl ?_
    refine Gp_get 21 hm629514 he629515 dr_cX17_step_164 (gk_X17 D I) (Nat.le_of_ble_eq_true rfl) wr_7_95 rfl ?_
    refine G_aload_n 1 dr_cX17_step_167 rfl ?_
    refine Gp_get 4 hm629565 he629566 dr_cX17_step_168 (gk_X15 D I) (Nat.le_of_ble_eq_true rfl) wr_9_193 rfl ?_
    have hm629670 : (γ 9 21) ∈ P629509 := RS_m hT ht629550 (by decide)
    obtain ⟨f629672, he629671⟩ := show rk_23 I (F629510 (γ 9 21)) from RS_o hT ht629550
    refine Gp_iald 0 hm629670 he629671 dr_cX17_step_171 rfl (gB_in bp629571 (by decide) (by decide)) (G_nam fun z629673 hz629673 => ?_)
    have bz629673 : gB z629673 (-2147483648) 2147483647 := gB_any z629673
    have hm629674 : (γ 9 20) ∈ P629509 := RS_m hT ht629549 (by decide)
    obtain ⟨f629676, he629675⟩ := show rk_22 I (F629510 (γ 9 20)) from RS_o hT ht629549
    refine Gp_iast 0 hm629674 he629675 dr_cX17_step_172 rfl (gB_in bp629568 (by decide) (by decide)) (fun F629677 e629678 n629679 => ?_)
    obtain ⟨f629680, hf629680⟩ : ∃ z, z = upd f629676 p629568.toNatClampNeg z629673 := ⟨_, rfl⟩
    rw [← hf629680] at e629678
    have he629681 : F629677 q629511 = .inr (22, [.ref (γ 9 0), .ref (γ 9 1), .ref (γ 9 2), .ref (γ 9 3), .ref (γ 9 4), .ref (γ 9 5), .ref (γ 9 6), .ref (γ 9 7), .ref (γ 9 8), .int p629518, .int p629519, .int p629520, .int p629521, .int p629522, .int p629523, .ref (γ 9 15), .ref (γ 9 16), .ref (γ 9 17), .ref (γ 9 18), .ref (γ 9 19), .ref (γ 9 20), .ref (γ 9 21), .ref (γ 9 22), .int p629524, .int p629525, .int p629526, .int p629527, .int p629528, .ref q629516, .ref (γ 9 29), .int p629529, .ref (γ 9 31), .int p629530, .int p629531, .int p629532, .ref q629517]) := (n629679 q629511 (rn_oa he629515 he629675)).trans he629515
    have he629682 : F629677 q629512 = .inr (20, [.int p629567, .int p629568, .int p629569, .int p629570, .int p629571, .int p629572, .int p629573]) := (n629679 q629512 (rn_oa he629566 he629675)).trans he629566
    have he629683 : F629677 (γ 9 21) = .inl (I .int, 2000, .inl f629672) := (n629679 (γ 9 21) (rn_ty ht629550 ht629549 (by decide))).trans he629671
    have he629684 : F629677 (γ 9 20) = .inl (I .int, 2000, .inl f629680) := e629678
    have hs629685 : rStr γ [] F629510 F629677 := rStr_put (rStr_rf (γ := γ) (W := []) (F := F629510)) n629679 ht629549 (by decide)
    refine G_iconst (-1) dr_cX17_step_173 (by decide +kernel) ?_
    have hT629686 : RS D I P629509 F629677 γ el := RS_set hT n629679 ht629549 (by decide) ⟨f629680, he629684⟩
    have ac629687 : (fI (F629677 q629511) 26).toInt = p629527.toInt := by rw [he629681]; rfl
    have ac629688 : (fI (F629677 q629511) 9).toInt = p629518.toInt := by rw [he629681]; rfl
    have ac629689 : (fI (F629677 q629511) 10).toInt = p629519.toInt := by rw [he629681]; rfl
    have ac629690 : (fI (F629677 q629511) 32).toInt = p629530.toInt := by rw [he629681]; rfl
    exact G_iretA dr_cX17_step_174 rfl (Nat.le_of_ble_eq_true rfl) (Nat.le_of_ble_eq_true rfl) ⟨F629677, (-1), rfl, rfl, hT629686, hs629685, (Nat.le_of_ble_eq_true rfl), (Nat.le_of_ble_eq_true rfl), (gB_w (gBl (show Int32.toInt (-1) = (-1) by decide)) (by decide) (by decide)), (by have qa0 : Int32.toInt (-1) = (-1) := (by decide); omega), (by have qa0 : Int32.toInt (-1) = (-1) := (by decide); omega), (by have qa0 : Int32.toInt (-1) = (-1) := (by decide); omega), (by have qa0 : Int32.toInt (-1) = (-1) := (by decide); omega)⟩
  by_cases hs629691 : p629567 = 22
  · have ehs629691 : p629567.toInt = 22 := gj_eq hs629691 (show Int32.toInt 22 = 22 by decide)
    have bp629567' : gB p629567 22 22 := ⟨by omega, by omega⟩
    refine G_eqi (y := 22) hs629691 ?_
    refine G_lookup 110 dr_cX17_step_4 (by decide) (by first | rfl | decide) (by decide) ?_
    refine G_aload_n 0 dr_cX17_step_110 rfl ?_
    refine Gp_get 25 hm629514 he629515 dr_cX17_step_111 (gk_X17 D I) (Nat.le_of_ble_eq_true rfl) wr_7_99 rfl ?_
    have bp629526 : gB p629526 0 512 := (hB629559.2.2.2.2.1)
    refine G_sipush 512 dr_cX17_step_114 (by decide +kernel) ?_
    refine G_icmp_ne 122 dr_cX17_step_117 (by decide +kernel) (fun hc629692 => ?_) (fun hc629692 => ?_)
    · have r629693 : p629526.toInt ≠ 512 := gj_neq hc629692 (show Int32.toInt 512 = 512 by decide)
      have bp629526' : gB p629526 0 511 := ⟨by omega, by omega⟩
      refine G_aload_n 0 dr_cX17_step_122 rfl ?_
      refine Gp_get 22 hm629514 he629515 dr_cX17_step_123 (gk_X17 D I) (Nat.le_of_ble_eq_true rfl) wr_7_96 rfl ?_
      refine G_aload_n 0 dr_cX17_step_126 rfl ?_
      refine Gp_get 25 hm629514 he629515 dr_cX17_step_127 (gk_X17 D I) (Nat.le_of_ble_eq_true rfl) wr_7_99 rfl ?_
      refine G_aload_n 0 dr_cX17_step_130 rfl ?_
      refine G_aload_n 1 dr_cX17_step_131 rfl ?_
      refine Gp_get 5 hm629565 he629566 dr_cX17_step_132 (gk_X15 D I) (Nat.le_of_ble_eq_true rfl) wr_9_197 rfl ?_
      refine G_aload_n 1 dr_cX17_step_135 rfl ?_
      refine Gp_get 2 hm629565 he629566 dr_cX17_step_136 (gk_X15 D I) (Nat.le_of_ble_eq_true rfl) wr_9_186 rfl ?_
      refine Gw_callV (As := [.int p629572, .int p629569]) (gV_ok D I) (ct_7373_SpillForgeModel_value l hl0 D I γ el P629509 F629510 q629511 p629572 p629569 hT htq629511 bp629572 (by omega)) dr_cX17_step_139 ⟨wr_11_100, wr_1_14, wr_11_103, by decide, rfl, (Nat.le_of_ble_eq_true rfl), (Nat.le_of_ble_eq_true rfl)⟩ wr_11_102 wr_p_115 hm629514 he629515 rfl (show 0 + 0 ≤ 0 by first | omega | decide) (show 0 + 0 ≤ 0 by first | omega | decide) (Nat.le_of_ble_eq_true rfl) (fun r629697 w629698 dc629694 ds629695 hp629696 => ?_) (fun _ _ _ _ _ z => z.elim)
      obtain ⟨o629699, rfl, rfl, hdc, hds⟩ := hp629696
      have bo629699 := gB_any o629699
      change G _ _ _ _ _ _ _ (.int o629699 :: _) _ _ _
      refine G_widen (cs' := 0) (sl' := 0) (by omega) (by omega) ?_
      have hm629700 : (γ 9 22) ∈ P629509 := RS_m hT ht629551 (by decide)
      obtain ⟨f629702, he629701⟩ := show rk_24 I (F629510 (γ 9 22)) from RS_o hT ht629551
      refine Gp_iast 0 hm629700 he629701 dr_cX17_step_142 rfl (gB_in bp629526' (by decide) (by decide)) (fun F629703 e629704 n629705 => ?_)
      obtain ⟨f629706, hf629706⟩ : ∃ z, z = upd f629702 p629526.toNatClampNeg o629699 := ⟨_, rfl⟩
      rw [← hf629706] at e629704
      have he629707 : F629703 q629511 = .inr (22, [.ref (γ 9 0), .ref (γ 9 1), .ref (γ 9 2), .ref (γ 9 3), .ref (γ 9 4), .ref (γ 9 5), .ref (γ 9 6), .ref (γ 9 7), .ref (γ 9 8), .int p629518, .int p629519, .int p629520, .int p629521, .int p629522, .int p629523, .ref (γ 9 15), .ref (γ 9 16), .ref (γ 9 17), .ref (γ 9 18), .ref (γ 9 19), .ref (γ 9 20), .ref (γ 9 21), .ref (γ 9 22), .int p629524, .int p629525, .int p629526, .int p629527, .int p629528, .ref q629516, .ref (γ 9 29), .int p629529, .ref (γ 9 31), .int p629530, .int p629531, .int p629532, .ref q629517]) := (n629705 q629511 (rn_oa he629515 he629701)).trans he629515
      have he629708 : F629703 q629512 = .inr (20, [.int p629567, .int p629568, .int p629569, .int p629570, .int p629571, .int p629572, .int p629573]) := (n629705 q629512 (rn_oa he629566 he629701)).trans he629566
      have he629709 : F629703 (γ 9 22) = .inl (I .int, 512, .inl f629706) := e629704
      have hs629710 : rStr γ [] F629510 F629703 := rStr_put (rStr_rf (γ := γ) (W := []) (F := F629510)) n629705 ht629551 (by decide)
      refine G_aload_n 0 dr_cX17_step_143 rfl ?_
      refine G_dup dr_cX17_step_144 rfl ?_
      refine Gp_get 25 hm629514 he629707 dr_cX17_step_145 (gk_X17 D I) (Nat.le_of_ble_eq_true rfl) wr_7_99 rfl ?_
      refine G_iconst 1 dr_cX17_step_148 (by decide +kernel) ?_
      refine G_iadd dr_cX17_step_149 (G_nam fun z629711 hz629711 => ?_)
      have ez629711 : z629711.toInt = p629526.toInt + 1 := by rw [gI_add hz629711 bp629526' (gBl (show Int32.toInt 1 = 1 by decide)) (by decide) (by decide), show Int32.toInt 1 = 1 from by decide]
      have bz629711 : gB z629711 1 512 := gB_add (gI_add hz629711 bp629526' (gBl (show Int32.toInt 1 = 1 by decide)) (by decide) (by decide)) bp629526' (gBl (show Int32.toInt 1 = 1 by decide)) (by decide) (by decide)
      have hT629712 : RS D I P629509 F629703 γ el := RS_set hT n629705 ht629551 (by decide) ⟨f629706, he629709⟩
      refine Gp_put 25 hm629514 he629707 dr_cX17_step_150 (gk_X17 D I) (Nat.le_of_ble_eq_true rfl) wr_7_99 rfl rfl rfl (Nat.le_of_ble_eq_true rfl) (fun F629713 e629714 n629715 => ?_)
      have he629716 : F629713 q629512 = .inr (20, [.int p629567, .int p629568, .int p629569, .int p629570, .int p629571, .int p629572, .int p629573]) := (n629715 q629512 (rn_oo he629708 he629707 (by decide))).trans he629708
      have he629717 : F629713 (γ 9 22) = .inl (I .int, 512, .inl f629706) := (n629715 (γ 9 22) (rn_ao he629709 he629707)).trans he629709
      have he629718 : F629713 q629511 = .inr (22, [.ref (γ 9 0), .ref (γ 9 1), .ref (γ 9 2), .ref (γ 9 3), .ref (γ 9 4), .ref (γ 9 5), .ref (γ 9 6), .ref (γ 9 7), .ref (γ 9 8), .int p629518, .int p629519, .int p629520, .int p629521, .int p629522, .int p629523, .ref (γ 9 15), .ref (γ 9 16), .ref (γ 9 17), .ref (γ 9 18), .ref (γ 9 19), .ref (γ 9 20), .ref (γ 9 21), .ref (γ 9 22), .int p629524, .int p629525, .int z629711, .int p629527, .int p629528, .ref q629516, .ref (γ 9 29), .int p629529, .ref (γ 9 31), .int p629530, .int p629531, .int p629532, .ref q629517]) := e629714
      have hs629719 : rStr γ [] F629510 F629713 := rStr_put hs629710 n629715 htq629511 (by decide)
      refine G_iconst (-1) dr_cX17_step_153 (by decide +kernel) ?_
      have hT629720 : RS D I P629509 F629713 γ el := RS_set hT629712 n629715 htq629511 (by decide) ⟨q629516, q629517, p629518, p629519, p629520, p629521, p629522, p629523, p629524, p629525, z629711, p629527, p629528, p629529, p629530, p629531, p629532, he629718, ⟨bp629518, bp629519, (hB629559.2.2.1), (hB629559.2.2.2.1), (gB_w bz629711 (by decide) (by decide)), bp629527, (hB629559.2.2.2.2.2.2.1), bp629530, (hB629559.2.2.2.2.2.2.2.2)⟩, ht629533, ht629534, ht629535, ht629536, ht629537, ht629538, ht629539, ht629540, ht629541, ht629542, ht629543, ht629544, ht629545, ht629546, ht629547, ht629548, ht629549, ht629550, ht629551, ht629552, ht629553, ht629554, ht629555, ht629556, hB629560⟩
      have ac629721 : (fI (F629713 q629511) 26).toInt = p629527.toInt := by rw [he629718]; rfl
      have ac629722 : (fI (F629713 q629511) 9).toInt = p629518.toInt := by rw [he629718]; rfl
      have ac629723 : (fI (F629713 q629511) 10).toInt = p629519.toInt := by rw [he629718]; rfl
      have ac629724 : (fI (F629713 q629511) 32).toInt = p629530.toInt := by rw [he629718]; rfl
      exact G_iretA dr_cX17_step_154 rfl (Nat.le_of_ble_eq_true rfl) (Nat.le_of_ble_eq_true rfl) ⟨F629713, (-1), rfl, rfl, hT629720, hs629719, (Nat.le_of_ble_eq_true rfl), (Nat.le_of_ble_eq_true rfl), (gB_w (gBl (show Int32.toInt (-1) = (-1) by decide)) (by decide) (by decide)), (by have qa0 : Int32.toInt (-1) = (-1) := (by decide); omega), (by have qa0 : Int32.toInt (-1) = (-1) := (by decide); omega), (by have qa0 : Int32.toInt (-1) = (-1) := (by decide); omega), (by have qa0 : Int32.toInt (-1) = (-1) := (by decide); omega)⟩
    · have r629725 : p629526.toInt = 512 := gj_eq hc629692 (show Int32.toInt 512 = 512 by decide)
      have bp629526' : gB p629526 512 512 := ⟨by omega, by omega⟩
      refine G_iconst 5 dr_cX17_step_120 (by decide +kernel) ?_
      have ac629726 : (fI (F629510 q629511) 26).toInt = p629527.toInt := by rw [he629515]; rfl
      have ac629727 : (fI (F629510 q629511) 9).toInt = p629518.toInt := by rw [he629515]; rfl
      have ac629728 : (fI (F629510 q629511) 10).toInt = p629519.toInt := by rw [he629515]; rfl
      have ac629729 : (fI (F629510 q629511) 32).toInt = p629530.toInt := by rw [he629515]; rfl
      exact G_iretA dr_cX17_step_121 rfl (Nat.le_of_ble_eq_true rfl) (Nat.le_of_ble_eq_true rfl) ⟨F629510, 5, rfl, rfl, hT, (rStr_rf (γ := γ) (W := []) (F := F629510)), (Nat.le_of_ble_eq_true rfl), (Nat.le_of_ble_eq_true rfl), (gB_w (gBl (show Int32.toInt 5 = 5 by decide)) (by decide) (by decide)), (by have qa0 : Int32.toInt 5 = 5 := (by decide); omega), (by have qa0 : Int32.toInt 5 = 5 := (by decide); omega), (by have qa0 : Int32.toInt 5 = 5 := (by decide); omega), (by have qa0 : Int32.toInt 5 = 5 := (by decide); omega)⟩
  by_cases hs629730 : p629567 = 23
  · have ehs629730 : p629567.toInt = 23 := gj_eq hs629730 (show Int32.toInt 23 = 23 by decide)
    have bp629567' : gB p629567 23 23 := ⟨by omega, by omega⟩
    refine G_eqi (y := 23) hs629730 ?_
    refine G_lookup 175 dr_cX17_step_4 (by decide) (by first | rfl | decide) (by decide) ?_
    refine G_aload_n 0 dr_cX17_step_175 rfl ?_
    refine Gp_get 21 hm629514 he629515 dr_cX17_step_176 (gk_X17 D I) (Nat.le_of_ble_eq_true rfl) wr_7_95 rfl ?_
    refine G_aload_n 1 dr_cX17_step_179 rfl ?_
    refine Gp_get 4 hm629565 he629566 dr_cX17_step_180 (gk_X15 D I) (Nat.le_of_ble_eq_true rfl) wr_9_193 rfl ?_
    refine G_aload_n 0 dr_cX17_step_183 rfl ?_
    refine G_aload_n 1 dr_cX17_step_184 rfl ?_
    refine Gp_get 5 hm629565 he629566 dr_cX17_step_185 (gk_X15 D I) (Nat.le_of_ble_eq_true rfl) wr_9_197 rfl ?_
    refine G_aload_n 1 dr_cX17_step_188 rfl ?_
    refine Gp_get 2 hm629565 he629566 dr_cX17_step_189 (gk_X15 D I) (Nat.le_of_ble_eq_true rfl) wr_9_186 rfl ?_
    refine Gw_callV (As := [.int p629572, .int p629569]) (gV_ok D I) (ct_7373_SpillForgeModel_value l hl0 D I γ el P629509 F629510 q629511 p629572 p629569 hT htq629511 bp629572 (by omega)) dr_cX17_step_192 ⟨wr_11_100, wr_1_14, wr_11_103, by decide, rfl, (Nat.le_of_ble_eq_true rfl), (Nat.le_of_ble_eq_true rfl)⟩ wr_11_102 wr_p_115 hm629514 he629515 rfl (show 0 + 0 ≤ 0 by first | omega | decide) (show 0 + 0 ≤ 0 by first | omega | decide) (Nat.le_of_ble_eq_true rfl) (fun r629734 w629735 dc629731 ds629732 hp629733 => ?_) (fun _ _ _ _ _ z => z.elim)
    obtain ⟨o629736, rfl, rfl, hdc, hds⟩ := hp629733
    have bo629736 := gB_any o629736
    change G _ _ _ _ _ _ _ (.int o629736 :: _) _ _ _
    refine G_widen (cs' := 0) (sl' := 0) (by omega) (by omega) ?_
    have hm629737 : (γ 9 21) ∈ P629509 := RS_m hT ht629550 (by decide)
    obtain ⟨f629739, he629738⟩ := show rk_23 I (F629510 (γ 9 21)) from RS_o hT ht629550
    refine Gp_iast 0 hm629737 he629738 dr_cX17_step_195 rfl (gB_in bp629571 (by decide) (by decide)) (fun F629740 e629741 n629742 => ?_)
    obtain ⟨f629743, hf629743⟩ : ∃ z, z = upd f629739 p629571.toNatClampNeg o629736 := ⟨_, rfl⟩
    rw [← hf629743] at e629741
    have he629744 : F629740 q629511 = .inr (22, [.ref (γ 9 0), .ref (γ 9 1), .ref (γ 9 2), .ref (γ 9 3), .ref (γ 9 4), .ref (γ 9 5), .ref (γ 9 6), .ref (γ 9 7), .ref (γ 9 8), .int p629518, .int p629519, .int p629520, .int p629521, .int p629522, .int p629523, .ref (γ 9 15), .ref (γ 9 16), .ref (γ 9 17), .ref (γ 9 18), .ref (γ 9 19), .ref (γ 9 20), .ref (γ 9 21), .ref (γ 9 22), .int p629524, .int p629525, .int p629526, .int p629527, .int p629528, .ref q629516, .ref (γ 9 29), .int p629529, .ref (γ 9 31), .int p629530, .int p629531, .int p629532, .ref q629517]) := (n629742 q629511 (rn_oa he629515 he629738)).trans he629515
    have he629745 : F629740 q629512 = .inr (20, [.int p629567, .int p629568, .int p629569, .int p629570, .int p629571, .int p629572, .int p629573]) := (n629742 q629512 (rn_oa he629566 he629738)).trans he629566
    have he629746 : F629740 (γ 9 21) = .inl (I .int, 2000, .inl f629743) := e629741
    have hs629747 : rStr γ [] F629510 F629740 := rStr_put (rStr_rf (γ := γ) (W := []) (F := F629510)) n629742 ht629550 (by decide)
    refine G_iconst (-1) dr_cX17_step_196 (by decide +kernel) ?_
    have hT629748 : RS D I P629509 F629740 γ el := RS_set hT n629742 ht629550 (by decide) ⟨f629743, he629746⟩
    have ac629749 : (fI (F629740 q629511) 26).toInt = p629527.toInt := by rw [he629744]; rfl
    have ac629750 : (fI (F629740 q629511) 9).toInt = p629518.toInt := by rw [he629744]; rfl
    have ac629751 : (fI (F629740 q629511) 10).toInt = p629519.toInt := by rw [he629744]; rfl
    have ac629752 : (fI (F629740 q629511) 32).toInt = p629530.toInt := by rw [he629744]; rfl
    exact G_iretA dr_cX17_step_197 rfl (Nat.le_of_ble_eq_true rfl) (Nat.le_of_ble_eq_true rfl) ⟨F629740, (-1), rfl, rfl, hT629748, hs629747, (Nat.le_of_ble_eq_true rfl), (Nat.le_of_ble_eq_true rfl), (gB_w (gBl (show Int32.toInt (-1) = (-1) by decide)) (by decide) (by decide)), (by have qa0 : Int32.toInt (-1) = (-1) := (by decide); omega), (by have qa0 : Int32.toInt (-1) = (-1) := (by decide); omega), (by have qa0 : Int32.toInt (-1) = (-1) := (by decide); omega), (by have qa0 : Int32.toInt (-1) = (-1) := (by decide); omega)⟩
  have ehs629578 := lv_neT hs629578 (show Int32.toInt 0 = 0 by decide)
  have ehs629601 := lv_neT hs629601 (show Int32.toInt 20 = 20 by decide)
  have ehs629669 := lv_neT hs629669 (show Int32.toInt 21 = 21 by decide)
  have ehs629691 := lv_neT hs629691 (show Int32.toInt 22 = 22 by decide)
  have ehs629730 := lv_neT hs629730 (show Int32.toInt 23 = 23 by decide)
  refine G_lookup 221 dr_cX17_step_4 (by decide) (by show Op.lookupswitch.offset [(0, 194), (20, 52), (21, 151), (22, 106), (23, 171)] _ _ = 217; rw [lv_osw hs629578 (show Int32.toInt 0 = 0 by decide), lv_osw hs629601 (show Int32.toInt 20 = 20 by decide), lv_osw hs629669 (show Int32.toInt 21 = 21 by decide), lv_osw hs629691 (show Int32.toInt 22 = 22 by decide), lv_osw hs629730 (show Int32.toInt 23 = 23 by decide)]; first | done | rfl) (by decide) ?_
  refine G_aload_n 1 dr_cX17_step_221 rfl ?_
  refine Gp_get 0 hm629565 he629566 dr_cX17_step_222 (gk_X15 D I) (Nat.le_of_ble_eq_true rfl) wr_9_177 rfl ?_
  refine G_aload_n 0 dr_cX17_step_225 rfl ?_
  refine G_aload_n 1 dr_cX17_step_226 rfl ?_
  refine Gp_get 5 hm629565 he629566 dr_cX17_step_227 (gk_X15 D I) (Nat.le_of_ble_eq_true rfl) wr_9_197 rfl ?_
  refine G_aload_n 1 dr_cX17_step_230 rfl ?_
  refine Gp_get 2 hm629565 he629566 dr_cX17_step_231 (gk_X15 D I) (Nat.le_of_ble_eq_true rfl) wr_9_186 rfl ?_
  refine Gw_callV (As := [.int p629572, .int p629569]) (gV_ok D I) (ct_7373_SpillForgeModel_value l hl0 D I γ el P629509 F629510 q629511 p629572 p629569 hT htq629511 bp629572 (by omega)) dr_cX17_step_234 ⟨wr_11_100, wr_1_14, wr_11_103, by decide, rfl, (Nat.le_of_ble_eq_true rfl), (Nat.le_of_ble_eq_true rfl)⟩ wr_11_102 wr_p_115 hm629514 he629515 rfl (show 0 + 0 ≤ 0 by first | omega | decide) (show 0 + 0 ≤ 0 by first | omega | decide) (Nat.le_of_ble_eq_true rfl) (fun r629756 w629757 dc629753 ds629754 hp629755 => ?_) (fun _ _ _ _ _ z => z.elim)
  obtain ⟨o629758, rfl, rfl, hdc, hds⟩ := hp629755
  have bo629758 := gB_any o629758
  change G _ _ _ _ _ _ _ (.int o629758 :: _) _ _ _
  refine G_widen (cs' := 0) (sl' := 0) (by omega) (by omega) ?_
  refine G_aload_n 0 dr_cX17_step_237 rfl ?_
  refine G_aload_n 1 dr_cX17_step_238 rfl ?_
  refine Gp_get 6 hm629565 he629566 dr_cX17_step_239 (gk_X15 D I) (Nat.le_of_ble_eq_true rfl) wr_9_202 rfl ?_
  refine G_aload_n 1 dr_cX17_step_242 rfl ?_
  refine Gp_get 3 hm629565 he629566 dr_cX17_step_243 (gk_X15 D I) (Nat.le_of_ble_eq_true rfl) wr_9_190 rfl ?_
  refine Gw_callV (As := [.int p629573, .int p629570]) (gV_ok D I) (ct_7373_SpillForgeModel_value l hl0 D I γ el P629509 F629510 q629511 p629573 p629570 hT htq629511 bp629573 (by omega)) dr_cX17_step_246 ⟨wr_11_100, wr_1_14, wr_11_103, by decide, rfl, (Nat.le_of_ble_eq_true rfl), (Nat.le_of_ble_eq_true rfl)⟩ wr_11_102 wr_p_115 hm629514 he629515 rfl (show 0 + 0 ≤ 0 by first | omega | decide) (show 0 + 0 ≤ 0 by first | omega | decide) (Nat.le_of_ble_eq_true rfl) (fun r629762 w629763 dc629759 ds629760 hp629761 => ?_) (fun _ _ _ _ _ z => z.elim)
  obtain ⟨o629764, rfl, rfl, hdc, hds⟩ := hp629761
  have bo629764 := gB_any o629764
  change G _ _ _ _ _ _ _ (.int o629764 :: _) _ _ _
  refine G_widen (cs' := 0) (sl' := 0) (by omega) (by omega) ?_
  refine Gw_callS (As := [.int p629567, .int o629758, .int o629764]) (gV_ok D I) (cp_2019_SpillForgeModel_result l hl0 D I P629509 F629510 p629567 o629758 o629764 ) dr_cX17_step_249 ⟨wr_11_104, wr_1_14, wr_11_106, by decide, rfl, (Nat.le_of_ble_eq_true rfl), (Nat.le_of_ble_eq_true rfl)⟩ wr_11_105 (show 0 + 0 ≤ 0 by first | omega | decide) (show 0 + 0 ≤ 0 by first | omega | decide) (Nat.le_of_ble_eq_true rfl) (fun r629768 w629769 dc629765 ds629766 hp629767 => ?_) (fun _ _ _ _ _ z => z.elim)
  obtain ⟨ol629770, rfl, rfl, hdc, hds⟩ := hp629767
  change G _ _ _ _ _ _ _ (.long ol629770 :: _) _ _ _
  refine G_widen (cs' := 0) (sl' := 0) (by omega) (by omega) ?_
  refine G_lstore_n (L' := [(2, .long ol629770), (0, .ref q629511), (1, .ref q629512)]) dr_cX17_step_252 (Nat.le_of_ble_eq_true rfl) rfl ?_
  refine G_lload_n 0 dr_cX17_step_253 rfl ?_
  refine G_ldc2 4294967296 dr_cX17_step_254 wr_11_107 ?_
  refine G_lcmp dr_cX17_step_257 (G_nam fun z629771 hz629771 => ?_)
  have bz629771 : gB z629771 (-1) 1 := gB_cmp hz629771
  refine G_if_ne 263 dr_cX17_step_258 (by decide +kernel) (fun hc629772 => ?_) (fun hc629772 => ?_)
  · have r629773 : z629771.toInt ≠ 0 := gj_neq hc629772 (show Int32.toInt 0 = 0 by decide)
    have lhc629772 := gC_cmpN hz629771 hc629772
    refine G_aload_n 1 dr_cX17_step_263 rfl ?_
    refine Gp_get 20 hm629514 he629515 dr_cX17_step_264 (gk_X17 D I) (Nat.le_of_ble_eq_true rfl) wr_7_94 rfl ?_
    refine G_aload_n 2 dr_cX17_step_267 rfl ?_
    refine Gp_get 1 hm629565 he629566 dr_cX17_step_268 (gk_X15 D I) (Nat.le_of_ble_eq_true rfl) wr_9_182 rfl ?_
    refine G_lload_n 0 dr_cX17_step_271 rfl ?_
    refine G_l2i dr_cX17_step_272 (G_nam fun z629774 hz629774 => ?_)
    have bz629774 : gB z629774 (-2147483648) 2147483647 := gB_any z629774
    have hm629775 : (γ 9 20) ∈ P629509 := RS_m hT ht629549 (by decide)
    obtain ⟨f629777, he629776⟩ := show rk_22 I (F629510 (γ 9 20)) from RS_o hT ht629549
    refine Gp_iast 0 hm629775 he629776 dr_cX17_step_273 rfl (gB_in bp629568 (by decide) (by decide)) (fun F629778 e629779 n629780 => ?_)
    obtain ⟨f629781, hf629781⟩ : ∃ z, z = upd f629777 p629568.toNatClampNeg z629774 := ⟨_, rfl⟩
    rw [← hf629781] at e629779
    have he629782 : F629778 q629511 = .inr (22, [.ref (γ 9 0), .ref (γ 9 1), .ref (γ 9 2), .ref (γ 9 3), .ref (γ 9 4), .ref (γ 9 5), .ref (γ 9 6), .ref (γ 9 7), .ref (γ 9 8), .int p629518, .int p629519, .int p629520, .int p629521, .int p629522, .int p629523, .ref (γ 9 15), .ref (γ 9 16), .ref (γ 9 17), .ref (γ 9 18), .ref (γ 9 19), .ref (γ 9 20), .ref (γ 9 21), .ref (γ 9 22), .int p629524, .int p629525, .int p629526, .int p629527, .int p629528, .ref q629516, .ref (γ 9 29), .int p629529, .ref (γ 9 31), .int p629530, .int p629531, .int p629532, .ref q629517]) := (n629780 q629511 (rn_oa he629515 he629776)).trans he629515
    have he629783 : F629778 q629512 = .inr (20, [.int p629567, .int p629568, .int p629569, .int p629570, .int p629571, .int p629572, .int p629573]) := (n629780 q629512 (rn_oa he629566 he629776)).trans he629566
    have he629784 : F629778 (γ 9 20) = .inl (I .int, 2000, .inl f629781) := e629779
    have hs629785 : rStr γ [] F629510 F629778 := rStr_put (rStr_rf (γ := γ) (W := []) (F := F629510)) n629780 ht629549 (by decide)
    refine G_iconst (-1) dr_cX17_step_274 (by decide +kernel) ?_
    have hT629786 : RS D I P629509 F629778 γ el := RS_set hT n629780 ht629549 (by decide) ⟨f629781, he629784⟩
    have ac629787 : (fI (F629778 q629511) 26).toInt = p629527.toInt := by rw [he629782]; rfl
    have ac629788 : (fI (F629778 q629511) 9).toInt = p629518.toInt := by rw [he629782]; rfl
    have ac629789 : (fI (F629778 q629511) 10).toInt = p629519.toInt := by rw [he629782]; rfl
    have ac629790 : (fI (F629778 q629511) 32).toInt = p629530.toInt := by rw [he629782]; rfl
    exact G_iretA dr_cX17_step_275 rfl (Nat.le_of_ble_eq_true rfl) (Nat.le_of_ble_eq_true rfl) ⟨F629778, (-1), rfl, rfl, hT629786, hs629785, (Nat.le_of_ble_eq_true rfl), (Nat.le_of_ble_eq_true rfl), (gB_w (gBl (show Int32.toInt (-1) = (-1) by decide)) (by decide) (by decide)), (by have qa0 : Int32.toInt (-1) = (-1) := (by decide); omega), (by have qa0 : Int32.toInt (-1) = (-1) := (by decide); omega), (by have qa0 : Int32.toInt (-1) = (-1) := (by decide); omega), (by have qa0 : Int32.toInt (-1) = (-1) := (by decide); omega)⟩
  · have r629791 : z629771.toInt = 0 := gj_eq hc629772 (show Int32.toInt 0 = 0 by decide)
    have bz629771' : gB z629771 0 0 := ⟨by omega, by omega⟩
    have lhc629772 := gC_cmpE hz629771 hc629772
    refine G_iconst 1 dr_cX17_step_261 (by decide +kernel) ?_
    have ac629792 : (fI (F629510 q629511) 26).toInt = p629527.toInt := by rw [he629515]; rfl
    have ac629793 : (fI (F629510 q629511) 9).toInt = p629518.toInt := by rw [he629515]; rfl
    have ac629794 : (fI (F629510 q629511) 10).toInt = p629519.toInt := by rw [he629515]; rfl
    have ac629795 : (fI (F629510 q629511) 32).toInt = p629530.toInt := by rw [he629515]; rfl
    exact G_iretA dr_cX17_step_262 rfl (Nat.le_of_ble_eq_true rfl) (Nat.le_of_ble_eq_true rfl) ⟨F629510, 1, rfl, rfl, hT, (rStr_rf (γ := γ) (W := []) (F := F629510)), (Nat.le_of_ble_eq_true rfl), (Nat.le_of_ble_eq_true rfl), (gB_w (gBl (show Int32.toInt 1 = 1 by decide)) (by decide) (by decide)), (by have qa0 : Int32.toInt 1 = 1 := (by decide); omega), (by have qa0 : Int32.toInt 1 = 1 := (by decide); omega), (by have qa0 : Int32.toInt 1 = 1 := (by decide); omega), (by have qa0 : Int32.toInt 1 = 1 := (by decide); omega)⟩
