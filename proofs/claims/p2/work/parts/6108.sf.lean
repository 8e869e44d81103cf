abbrev ky_12670_Live_isLiveBefore : gKey := (cX5_isLiveBefore, 3, yX5_isLiveBefore.cls, (some FieldType.boolean), [], yX5_isLiveBefore.name, fun _ _ => True)
abbrev po_12670_Live_isLiveBefore (I : FieldType → ClassId) (q12656 : Nat) (q12657 : Nat) (q12658 : Nat) (q12659 : Nat) (q12660 : Nat) (p12661 : Int32) (p12662 : Int32) (p12663 : Int32) (p12664 : Int32) (p12665 : Int32) (f12666 : Nat → Int64) (f12667 : Nat → Int64) (f12668 : Nat → Int64) (f12669 : Nat → Int64) : Option Value → va_W → Prop := fun r w => (r = some (.int 0) ∧ w = [(q12656, .inr (10, [.ref q12657, .ref q12658, .ref q12659, .ref q12660, .int p12663, .int p12664, .int p12665])), (q12657, .inl (I .long, 480, .inr (.inl f12666))), (q12658, .inl (I .long, 480, .inr (.inl f12667))), (q12659, .inl (I .long, 480, .inr (.inl f12668))), (q12660, .inl (I .long, 12, .inr (.inl f12669)))] ∧ p12662.toInt < 0) ∨ (r = some (.int 0) ∧ w = [(q12656, .inr (10, [.ref q12657, .ref q12658, .ref q12659, .ref q12660, .int p12663, .int p12664, .int p12665])), (q12657, .inl (I .long, 480, .inr (.inl f12666))), (q12658, .inl (I .long, 480, .inr (.inl f12667))), (q12659, .inl (I .long, 480, .inr (.inl f12668))), (q12660, .inl (I .long, 12, .inr (.inl f12669)))] ∧ 0 ≤ p12662.toInt ∧ p12663.toInt ≤ p12662.toInt) ∨ (r = some (.int 0) ∧ w = [(q12656, .inr (10, [.ref q12657, .ref q12658, .ref q12659, .ref q12660, .int p12663, .int p12664, .int p12665])), (q12657, .inl (I .long, 480, .inr (.inl f12666))), (q12658, .inl (I .long, 480, .inr (.inl f12667))), (q12659, .inl (I .long, 480, .inr (.inl f12668))), (q12660, .inl (I .long, 12, .inr (.inl f12669)))] ∧ 0 ≤ p12662.toInt ∧ p12662.toInt < p12663.toInt ∧ p12661.toInt < 0) ∨ (r = some (.int 0) ∧ w = [(q12656, .inr (10, [.ref q12657, .ref q12658, .ref q12659, .ref q12660, .int p12663, .int p12664, .int p12665])), (q12657, .inl (I .long, 480, .inr (.inl f12666))), (q12658, .inl (I .long, 480, .inr (.inl f12667))), (q12659, .inl (I .long, 480, .inr (.inl f12668))), (q12660, .inl (I .long, 12, .inr (.inl f12669)))] ∧ 0 ≤ p12662.toInt ∧ p12662.toInt < p12663.toInt ∧ 0 ≤ p12661.toInt ∧ 40 ≤ p12661.toInt) ∨ (∃ (z12682 : Int32) (z12683 : Int32) (z12684 : Int32) (z12688 : Int32), r = some (.int 0) ∧ w = [(q12656, .inr (10, [.ref q12657, .ref q12658, .ref q12659, .ref q12660, .int p12663, .int p12664, .int p12665])), (q12657, .inl (I .long, 480, .inr (.inl f12666))), (q12658, .inl (I .long, 480, .inr (.inl f12667))), (q12659, .inl (I .long, 480, .inr (.inl f12668))), (q12660, .inl (I .long, 12, .inr (.inl f12669)))] ∧ 0 ≤ p12662.toInt ∧ p12662.toInt < p12663.toInt ∧ 0 ≤ p12661.toInt ∧ p12661.toInt < 40 ∧ z12682.toInt = p12661.toInt * p12664.toInt ∧ z12683.toInt = p12662.toInt / 64 ∧ z12684.toInt = z12682.toInt + z12683.toInt ∧ z12688.toInt = 0 ∧ gB z12682 0 468 ∧ gB z12683 0 11 ∧ gB z12684 0 479 ∧ gB z12688 0 0) ∨ (∃ (z12682 : Int32) (z12683 : Int32) (z12684 : Int32) (z12688 : Int32), r = some (.int 1) ∧ w = [(q12656, .inr (10, [.ref q12657, .ref q12658, .ref q12659, .ref q12660, .int p12663, .int p12664, .int p12665])), (q12657, .inl (I .long, 480, .inr (.inl f12666))), (q12658, .inl (I .long, 480, .inr (.inl f12667))), (q12659, .inl (I .long, 480, .inr (.inl f12668))), (q12660, .inl (I .long, 12, .inr (.inl f12669)))] ∧ 0 ≤ p12662.toInt ∧ p12662.toInt < p12663.toInt ∧ 0 ≤ p12661.toInt ∧ p12661.toInt < 40 ∧ z12682.toInt = p12661.toInt * p12664.toInt ∧ z12683.toInt = p12662.toInt / 64 ∧ z12684.toInt = z12682.toInt + z12683.toInt ∧ z12688.toInt ≠ 0 ∧ gB z12682 0 468 ∧ gB z12683 0 11 ∧ gB z12684 0 479 ∧ gB z12688 (-1) 1)
set_option maxRecDepth 100000 in
set_option maxHeartbeats 4000000 in
theorem ct_12670_Live_isLiveBefore (l : Launch) (hl0 : l.stackTraces = false) (D : va_G) (I : FieldType → ClassId) (q12656 : Nat) (q12657 : Nat) (q12658 : Nat) (q12659 : Nat) (q12660 : Nat) (p12661 : Int32) (p12662 : Int32) (p12663 : Int32) (p12664 : Int32) (p12665 : Int32) (f12666 : Nat → Int64) (f12667 : Nat → Int64) (f12668 : Nat → Int64) (f12669 : Nat → Int64) (bp12663 : gB p12663 0 720) (bp12664 : gB p12664 0 12) (bp12665 : gB p12665 0 1) : Ct (gV D I) l yX5_isLiveBefore cX5_isLiveBefore 3 (some FieldType.boolean) 1 21 0 0 [.ref q12656, .int p12661, .int p12662] [(q12656, .inr (10, [.ref q12657, .ref q12658, .ref q12659, .ref q12660, .int p12663, .int p12664, .int p12665])), (q12657, .inl (I .long, 480, .inr (.inl f12666))), (q12658, .inl (I .long, 480, .inr (.inl f12667))), (q12659, .inl (I .long, 480, .inr (.inl f12668))), (q12660, .inl (I .long, 12, .inr (.inl f12669)))] (po_12670_Live_isLiveBefore I q12656 q12657 q12658 q12659 q12660 p12661 p12662 p12663 p12664 p12665 f12666 f12667 f12668 f12669) gN := by
  refine Ct_of hl0 (by decide) (Nat.le_of_ble_eq_true rfl) ?_
  have bp12661 := gB_any p12661
  have bp12662 := gB_any p12662
  refine G_aload_n 0 d_cX5_isLiveBefore_0 rfl ?_
  refine G_iload_n 2 d_cX5_isLiveBefore_1 rfl ?_
  refine G_callV (As := [.int p12662]) (wr := []) (gV_ok D I) (ct_6119_Live_isName l hl0 D I q12656 q12657 q12658 q12659 q12660 p12662 p12663 p12664 p12665 f12666 f12667 f12668 f12669 bp12663 bp12664 bp12665) d_cX5_isLiveBefore_2 ⟨w_4_56, w_1_10, w_4_59, by decide, rfl, (Nat.le_of_ble_eq_true rfl), (Nat.le_of_ble_eq_true rfl)⟩ w_4_57 w_4_58 0 rfl rfl [0, 1, 2, 3, 4] [] rfl rfl rfl rfl (by decide) (Nat.le_of_ble_eq_true rfl) (Nat.le_of_ble_eq_true rfl) (Nat.le_of_ble_eq_true rfl) (fun r w hp => ?_) (fun _ _ _ z => z.elim)
  rcases hp with ⟨rfl, rfl, r12671⟩ | ⟨rfl, rfl, r12672, r12673⟩ | ⟨rfl, rfl, r12674, r12675⟩
  · have bp12662' : gB p12662 (-2147483648) (-1) := ⟨by omega, by omega⟩
    change G _ _ _ _ _ _ _ (.int 0 :: _) _ _ _
    refine G_ws (ws' := [(q12656, .inr (10, [.ref q12657, .ref q12658, .ref q12659, .ref q12660, .int p12663, .int p12664, .int p12665])), (q12657, .inl (I .long, 480, .inr (.inl f12666))), (q12658, .inl (I .long, 480, .inr (.inl f12667))), (q12659, .inl (I .long, 480, .inr (.inl f12668))), (q12660, .inl (I .long, 12, .inr (.inl f12669)))]) (cs' := 0) (sl' := 0) rfl rfl rfl ?_
    refine G_if_eq 47 d_cX5_isLiveBefore_5 (by decide +kernel) (fun _ => ?_) (fun hc => absurd hc (by decide))
    refine G_iconst 0 d_cX5_isLiveBefore_47 (by decide +kernel) ?_
    exact G_zret FieldType.boolean d_cX5_isLiveBefore_48 rfl rfl (Nat.le_of_ble_eq_true rfl) (Nat.le_of_ble_eq_true rfl) (Or.inl ⟨rfl, rfl, r12671⟩)
  · have bp12662' : gB p12662 0 2147483647 := ⟨by omega, by omega⟩
    change G _ _ _ _ _ _ _ (.int 0 :: _) _ _ _
    refine G_ws (ws' := [(q12656, .inr (10, [.ref q12657, .ref q12658, .ref q12659, .ref q12660, .int p12663, .int p12664, .int p12665])), (q12657, .inl (I .long, 480, .inr (.inl f12666))), (q12658, .inl (I .long, 480, .inr (.inl f12667))), (q12659, .inl (I .long, 480, .inr (.inl f12668))), (q12660, .inl (I .long, 12, .inr (.inl f12669)))]) (cs' := 0) (sl' := 0) rfl rfl rfl ?_
    refine G_if_eq 47 d_cX5_isLiveBefore_5 (by decide +kernel) (fun _ => ?_) (fun hc => absurd hc (by decide))
    refine G_iconst 0 d_cX5_isLiveBefore_47 (by decide +kernel) ?_
    exact G_zret FieldType.boolean d_cX5_isLiveBefore_48 rfl rfl (Nat.le_of_ble_eq_true rfl) (Nat.le_of_ble_eq_true rfl) (Or.inr (Or.inl ⟨rfl, rfl, r12672, r12673⟩))
  · have bp12662' : gB p12662 0 2147483647 := ⟨by omega, by omega⟩
    have bp12662'' : gB p12662 0 719 := ⟨by omega, by omega⟩
    have bp12663' : gB p12663 1 720 := ⟨by omega, by omega⟩
    change G _ _ _ _ _ _ _ (.int 1 :: _) _ _ _
    refine G_ws (ws' := [(q12656, .inr (10, [.ref q12657, .ref q12658, .ref q12659, .ref q12660, .int p12663, .int p12664, .int p12665])), (q12657, .inl (I .long, 480, .inr (.inl f12666))), (q12658, .inl (I .long, 480, .inr (.inl f12667))), (q12659, .inl (I .long, 480, .inr (.inl f12668))), (q12660, .inl (I .long, 12, .inr (.inl f12669)))]) (cs' := 0) (sl' := 0) rfl rfl rfl ?_
    refine G_if_eq 47 d_cX5_isLiveBefore_5 (by decide +kernel) (fun hc => absurd hc (by decide)) (fun _ => ?_)
    refine G_iload_n 1 d_cX5_isLiveBefore_8 rfl ?_
    refine G_if_lt 47 d_cX5_isLiveBefore_9 (by decide +kernel) (fun hc12676 => ?_) (fun hc12676 => ?_)
    · have r12677 : p12661.toInt < 0 := gj_lt hc12676 (show Int32.toInt 0 = 0 by decide)
      have bp12661' : gB p12661 (-2147483648) (-1) := ⟨by omega, by omega⟩
      refine G_iconst 0 d_cX5_isLiveBefore_47 (by decide +kernel) ?_
      exact G_zret FieldType.boolean d_cX5_isLiveBefore_48 rfl rfl (Nat.le_of_ble_eq_true rfl) (Nat.le_of_ble_eq_true rfl) (Or.inr (Or.inr (Or.inl ⟨rfl, rfl, r12674, r12675, r12677⟩)))
    · have r12678 : 0 ≤ p12661.toInt := gj_nlt hc12676 (show Int32.toInt 0 = 0 by decide)
      have bp12661' : gB p12661 0 2147483647 := ⟨by omega, by omega⟩
      refine G_iload_n 1 d_cX5_isLiveBefore_12 rfl ?_
      refine G_bipush 40 d_cX5_isLiveBefore_13 (by decide +kernel) ?_
      refine G_icmp_ge 47 d_cX5_isLiveBefore_15 (by decide +kernel) (fun hc12679 => ?_) (fun hc12679 => ?_)
      · have r12680 : 40 ≤ p12661.toInt := gj_leL hc12679 (show Int32.toInt 40 = 40 by decide)
        have bp12661'' : gB p12661 40 2147483647 := ⟨by omega, by omega⟩
        refine G_iconst 0 d_cX5_isLiveBefore_47 (by decide +kernel) ?_
        exact G_zret FieldType.boolean d_cX5_isLiveBefore_48 rfl rfl (Nat.le_of_ble_eq_true rfl) (Nat.le_of_ble_eq_true rfl) (Or.inr (Or.inr (Or.inr (Or.inl ⟨rfl, rfl, r12674, r12675, r12678, r12680⟩))))
      · have r12681 : p12661.toInt < 40 := gj_nleL hc12679 (show Int32.toInt 40 = 40 by decide)
        have bp12661'' : gB p12661 0 39 := ⟨by omega, by omega⟩
        refine G_aload_n 0 d_cX5_isLiveBefore_18 rfl ?_
        refine G_getf 0 0 d_cX5_isLiveBefore_19 rfl (gk_X5 D I) (Nat.le_of_ble_eq_true rfl) w_2_22 rfl ?_
        refine G_iload_n 1 d_cX5_isLiveBefore_22 rfl ?_
        refine G_aload_n 0 d_cX5_isLiveBefore_23 rfl ?_
        refine G_getf 0 5 d_cX5_isLiveBefore_24 rfl (gk_X5 D I) (Nat.le_of_ble_eq_true rfl) w_2_29 rfl ?_
        refine G_imul d_cX5_isLiveBefore_27 (G_nam fun z12682 hz12682 => ?_)
        have ez12682 : z12682.toInt = p12661.toInt * p12664.toInt := by rw [gI_mul hz12682 bp12661'' bp12664 (by decide) (by decide) (by decide)]
        have bz12682 : gB z12682 0 468 := gB_mul hz12682 bp12661'' bp12664 (by decide) (by decide) (by decide) (by decide)
        refine G_iload_n 2 d_cX5_isLiveBefore_28 rfl ?_
        refine G_bipush 6 d_cX5_isLiveBefore_29 (by decide +kernel) ?_
        refine G_ishr d_cX5_isLiveBefore_31 (G_nam fun z12683 hz12683 => ?_)
        have ez12683 : z12683.toInt = p12662.toInt / 64 := gI_shr (k := 6) hz12683 (by decide)
        have bz12683 : gB z12683 0 11 := ⟨by omega, by omega⟩
        refine G_iadd d_cX5_isLiveBefore_32 (G_nam fun z12684 hz12684 => ?_)
        have ez12684 : z12684.toInt = z12682.toInt + z12683.toInt := by rw [gI_add hz12684 bz12682 bz12683 (by decide) (by decide)]
        have bz12684 : gB z12684 0 479 := gB_add (gI_add hz12684 bz12682 bz12683 (by decide) (by decide)) bz12682 bz12683 (by decide) (by decide)
        refine G_lald 1 2 d_cX5_isLiveBefore_33 rfl rfl (gB_in bz12684 (by decide) (by decide)) (G_namL fun u12685 hu12685 => ?_)
        refine G_iload_n 2 d_cX5_isLiveBefore_34 rfl ?_
        refine G_lshr d_cX5_isLiveBefore_35 (G_namL fun u12686 hu12686 => ?_)
        refine G_lconst 1 d_cX5_isLiveBefore_36 rfl ?_
        refine G_land d_cX5_isLiveBefore_37 (G_namL fun u12687 hu12687 => ?_)
        refine G_lconst 0 d_cX5_isLiveBefore_38 rfl ?_
        refine G_lcmp d_cX5_isLiveBefore_39 (G_nam fun z12688 hz12688 => ?_)
        have bz12688 : gB z12688 (-1) 1 := gB_cmp hz12688
        refine G_if_eq 47 d_cX5_isLiveBefore_40 (by decide +kernel) (fun hc12689 => ?_) (fun hc12689 => ?_)
        · have r12690 : z12688.toInt = 0 := gj_eq hc12689 (show Int32.toInt 0 = 0 by decide)
          have bz12688' : gB z12688 0 0 := ⟨by omega, by omega⟩
          have lhc12689 := gC_cmpE hz12688 hc12689
          refine G_iconst 0 d_cX5_isLiveBefore_47 (by decide +kernel) ?_
          exact G_zret FieldType.boolean d_cX5_isLiveBefore_48 rfl rfl (Nat.le_of_ble_eq_true rfl) (Nat.le_of_ble_eq_true rfl) (Or.inr (Or.inr (Or.inr (Or.inr (Or.inl ⟨z12682, z12683, z12684, z12688, rfl, rfl, r12674, r12675, r12678, r12681, ez12682, ez12683, ez12684, r12690, bz12682, bz12683, bz12684, bz12688'⟩)))))
        · have r12691 : z12688.toInt ≠ 0 := gj_neq hc12689 (show Int32.toInt 0 = 0 by decide)
          have lhc12689 := gC_cmpN hz12688 hc12689
          refine G_iconst 1 d_cX5_isLiveBefore_43 (by decide +kernel) ?_
          refine G_goto 48 d_cX5_isLiveBefore_44 (by decide +kernel) ?_
          exact G_zret FieldType.boolean d_cX5_isLiveBefore_48 rfl rfl (Nat.le_of_ble_eq_true rfl) (Nat.le_of_ble_eq_true rfl) (Or.inr (Or.inr (Or.inr (Or.inr (Or.inr (⟨z12682, z12683, z12684, z12688, rfl, rfl, r12674, r12675, r12678, r12681, ez12682, ez12683, ez12684, r12691, bz12682, bz12683, bz12684, bz12688⟩))))))
abbrev ky_12713_Long_bitCount : gKey := (cJ13_bitCount_95d88, 2, yJ13_bitCount_95d88.cls, (some FieldType.int), [], yJ13_bitCount_95d88.name, fun _ _ => True)
abbrev po_12713_Long_bitCount (I : FieldType → ClassId) (pl12712 : Int64) : Option Value → va_W → Prop := fun r w => ∃ (o12732 : Int32), r = some (.int o12732) ∧ w = [] ∧ gB o12732 0 127
set_option maxRecDepth 100000 in
set_option maxHeartbeats 4000000 in
theorem ct_12713_Long_bitCount (l : Launch) (hl0 : l.stackTraces = false) (D : va_G) (I : FieldType → ClassId) (pl12712 : Int64)  : Ct (gV D I) l yJ13_bitCount_95d88 cJ13_bitCount_95d88 2 (some FieldType.int) 0 0 0 0 [.long pl12712] [] (po_12713_Long_bitCount I pl12712) gN := by
  refine Ct_ofF hl0 (by decide +kernel) (Nat.le_of_ble_eq_true rfl) ?_
  refine G_lload_n 0 d_cJ13_bitCount_95d88_0 rfl ?_
  refine G_lload_n 0 d_cJ13_bitCount_95d88_1 rfl ?_
  refine G_iconst 1 d_cJ13_bitCount_95d88_2 (by decide +kernel) ?_
  refine G_lushr d_cJ13_bitCount_95d88_3 (G_namL fun u12714 hu12714 => ?_)
  refine G_ldc2 6148914691236517205 d_cJ13_bitCount_95d88_4 w_4_96 ?_
  refine G_land d_cJ13_bitCount_95d88_7 (G_namL fun u12715 hu12715 => ?_)
  refine G_lsub d_cJ13_bitCount_95d88_8 (G_namL fun u12716 hu12716 => ?_)
  refine G_lstore_n (L' := [(0, .long u12716)]) d_cJ13_bitCount_95d88_9 (Nat.le_of_ble_eq_true rfl) rfl ?_
  refine G_lload_n 0 d_cJ13_bitCount_95d88_10 rfl ?_
  refine G_ldc2 3689348814741910323 d_cJ13_bitCount_95d88_11 w_4_97 ?_
  refine G_land d_cJ13_bitCount_95d88_14 (G_namL fun u12717 hu12717 => ?_)
  refine G_lload_n 0 d_cJ13_bitCount_95d88_15 rfl ?_
  refine G_iconst 2 d_cJ13_bitCount_95d88_16 (by decide +kernel) ?_
  refine G_lushr d_cJ13_bitCount_95d88_17 (G_namL fun u12718 hu12718 => ?_)
  refine G_ldc2 3689348814741910323 d_cJ13_bitCount_95d88_18 w_4_97 ?_
  refine G_land d_cJ13_bitCount_95d88_21 (G_namL fun u12719 hu12719 => ?_)
  refine G_ladd d_cJ13_bitCount_95d88_22 (G_namL fun u12720 hu12720 => ?_)
  refine G_lstore_n (L' := [(0, .long u12720)]) d_cJ13_bitCount_95d88_23 (Nat.le_of_ble_eq_true rfl) rfl ?_
  refine G_lload_n 0 d_cJ13_bitCount_95d88_24 rfl ?_
  refine G_lload_n 0 d_cJ13_bitCount_95d88_25 rfl ?_
  refine G_iconst 4 d_cJ13_bitCount_95d88_26 (by decide +kernel) ?_
  refine G_lushr d_cJ13_bitCount_95d88_27 (G_namL fun u12721 hu12721 => ?_)
  refine G_ladd d_cJ13_bitCount_95d88_28 (G_namL fun u12722 hu12722 => ?_)
  refine G_ldc2 1085102592571150095 d_cJ13_bitCount_95d88_29 w_4_98 ?_
  refine G_land d_cJ13_bitCount_95d88_32 (G_namL fun u12723 hu12723 => ?_)
  refine G_lstore_n (L' := [(0, .long u12723)]) d_cJ13_bitCount_95d88_33 (Nat.le_of_ble_eq_true rfl) rfl ?_
  refine G_lload_n 0 d_cJ13_bitCount_95d88_34 rfl ?_
  refine G_lload_n 0 d_cJ13_bitCount_95d88_35 rfl ?_
  refine G_bipush 8 d_cJ13_bitCount_95d88_36 (by decide +kernel) ?_
  refine G_lushr d_cJ13_bitCount_95d88_38 (G_namL fun u12724 hu12724 => ?_)
  refine G_ladd d_cJ13_bitCount_95d88_39 (G_namL fun u12725 hu12725 => ?_)
  refine G_lstore_n (L' := [(0, .long u12725)]) d_cJ13_bitCount_95d88_40 (Nat.le_of_ble_eq_true rfl) rfl ?_
  refine G_lload_n 0 d_cJ13_bitCount_95d88_41 rfl ?_
  refine G_lload_n 0 d_cJ13_bitCount_95d88_42 rfl ?_
  refine G_bipush 16 d_cJ13_bitCount_95d88_43 (by decide +kernel) ?_
  refine G_lushr d_cJ13_bitCount_95d88_45 (G_namL fun u12726 hu12726 => ?_)
  refine G_ladd d_cJ13_bitCount_95d88_46 (G_namL fun u12727 hu12727 => ?_)
  refine G_lstore_n (L' := [(0, .long u12727)]) d_cJ13_bitCount_95d88_47 (Nat.le_of_ble_eq_true rfl) rfl ?_
  refine G_lload_n 0 d_cJ13_bitCount_95d88_48 rfl ?_
  refine G_lload_n 0 d_cJ13_bitCount_95d88_49 rfl ?_
  refine G_bipush 32 d_cJ13_bitCount_95d88_50 (by decide +kernel) ?_
  refine G_lushr d_cJ13_bitCount_95d88_52 (G_namL fun u12728 hu12728 => ?_)
  refine G_ladd d_cJ13_bitCount_95d88_53 (G_namL fun u12729 hu12729 => ?_)
  refine G_lstore_n (L' := [(0, .long u12729)]) d_cJ13_bitCount_95d88_54 (Nat.le_of_ble_eq_true rfl) rfl ?_
  refine G_lload_n 0 d_cJ13_bitCount_95d88_55 rfl ?_
  refine G_l2i d_cJ13_bitCount_95d88_56 (G_nam fun z12730 hz12730 => ?_)
  have bz12730 : gB z12730 (-2147483648) 2147483647 := gB_any z12730
  refine G_bipush 127 d_cJ13_bitCount_95d88_57 (by decide +kernel) ?_
  refine G_iand d_cJ13_bitCount_95d88_59 (G_nam fun z12731 hz12731 => ?_)
  have bz12731 : gB z12731 0 127 := gB_and hz12731 (gBl (show Int32.toInt 127 = 127 by decide)) (by decide)
  exact G_iret d_cJ13_bitCount_95d88_60 rfl (Nat.le_of_ble_eq_true rfl) (Nat.le_of_ble_eq_true rfl) ⟨z12731, rfl, rfl, bz12731⟩
abbrev ky_12705_Live_liveBefore : gKey := (cX5_liveBefore, 4, yX5_liveBefore.cls, (some FieldType.int), [], yX5_liveBefore.name, fun _ _ => True)
abbrev po_12705_Live_liveBefore (I : FieldType → ClassId) (q12692 : Nat) (q12693 : Nat) (q12694 : Nat) (q12695 : Nat) (q12696 : Nat) (p12697 : Int32) (p12698 : Int32) (p12699 : Int32) (p12700 : Int32) (f12701 : Nat → Int64) (f12702 : Nat → Int64) (f12703 : Nat → Int64) (f12704 : Nat → Int64) : Option Value → va_W → Prop := fun r w => ∃ (o12812 : Int32), r = some (.int o12812) ∧ w = [(q12692, .inr (10, [.ref q12693, .ref q12694, .ref q12695, .ref q12696, .int p12698, .int p12699, .int p12700])), (q12693, .inl (I .long, 480, .inr (.inl f12701))), (q12694, .inl (I .long, 480, .inr (.inl f12702))), (q12695, .inl (I .long, 480, .inr (.inl f12703))), (q12696, .inl (I .long, 12, .inr (.inl f12704)))] ∧ gB o12812 (-2147483648) 2147483647
set_option maxRecDepth 100000 in
set_option maxHeartbeats 4000000 in
theorem ct_12705_Live_liveBefore (l : Launch) (hl0 : l.stackTraces = false) (D : va_G) (I : FieldType → ClassId) (q12692 : Nat) (q12693 : Nat) (q12694 : Nat) (q12695 : Nat) (q12696 : Nat) (p12697 : Int32) (p12698 : Int32) (p12699 : Int32) (p12700 : Int32) (f12701 : Nat → Int64) (f12702 : Nat → Int64) (f12703 : Nat → Int64) (f12704 : Nat → Int64) (bp12697 : gB p12697 0 39) (bp12698 : gB p12698 0 720) (bp12699 : gB p12699 0 12) (bp12700 : gB p12700 0 1) : Ct (gV D I) l yX5_liveBefore cX5_liveBefore 4 (some FieldType.int) 1 21 0 0 [.ref q12692, .int p12697] [(q12692, .inr (10, [.ref q12693, .ref q12694, .ref q12695, .ref q12696, .int p12698, .int p12699, .int p12700])), (q12693, .inl (I .long, 480, .inr (.inl f12701))), (q12694, .inl (I .long, 480, .inr (.inl f12702))), (q12695, .inl (I .long, 480, .inr (.inl f12703))), (q12696, .inl (I .long, 12, .inr (.inl f12704)))] (po_12705_Live_liveBefore I q12692 q12693 q12694 q12695 q12696 p12697 p12698 p12699 p12700 f12701 f12702 f12703 f12704) gN := by
  refine Ct_of hl0 (by decide) (Nat.le_of_ble_eq_true rfl) ?_
  refine G_iconst 0 d_cX5_liveBefore_0 (by decide +kernel) ?_
  refine G_istore_n (L' := [(2, .int 0), (0, .ref q12692), (1, .int p12697)]) d_cX5_liveBefore_1 (Nat.le_of_ble_eq_true rfl) rfl ?_
  refine G_iconst 0 d_cX5_liveBefore_2 (by decide +kernel) ?_
  refine G_istore_n (L' := [(3, .int 0), (2, .int 0), (0, .ref q12692), (1, .int p12697)]) d_cX5_liveBefore_3 (Nat.le_of_ble_eq_true rfl) rfl ?_
  have hlp4_12802 : ∀ (n4_12802 : Nat) (g12801 : Int32) (g12802 : Int32), gB g12801 0 12 → gB g12802 (-2147483648) 2147483647 → ((13 : Int) - g12801.toInt).toNat < n4_12802 → G (gV D I) l (gRm 1 21 0 0) (gM (gV D I) (po_12705_Live_liveBefore I q12692 q12693 q12694 q12695 q12696 p12697 p12698 p12699 p12700 f12701 f12702 f12703 f12704) gN 0 0) ky_12705_Live_liveBefore 4 [(3, .int g12801), (2, .int g12802), (0, .ref q12692), (1, .int p12697)] [] [(q12692, .inr (10, [.ref q12693, .ref q12694, .ref q12695, .ref q12696, .int p12698, .int p12699, .int p12700])), (q12693, .inl (I .long, 480, .inr (.inl f12701))), (q12694, .inl (I .long, 480, .inr (.inl f12702))), (q12695, .inl (I .long, 480, .inr (.inl f12703))), (q12696, .inl (I .long, 12, .inr (.inl f12704)))] 0 0 := by
    intro n4_12802
    induction n4_12802 with
    | zero => intro g12801 g12802 bg12801 bg12802 hm4_12802; exact absurd hm4_12802 (Nat.not_lt_zero _)
    | succ n4_12802 ih4_12802 =>
      intro g12801 g12802 bg12801 bg12802 hm4_12802
      refine G_iload_n 0 d_cX5_liveBefore_4 rfl ?_
      refine G_aload_n 2 d_cX5_liveBefore_5 rfl ?_
      refine G_getf 0 5 d_cX5_liveBefore_6 rfl (gk_X5 D I) (Nat.le_of_ble_eq_true rfl) w_2_29 rfl ?_
      refine G_icmp_ge 37 d_cX5_liveBefore_9 (by decide +kernel) (fun hc12803 => ?_) (fun hc12803 => ?_)
      · have r12804 : p12699.toInt ≤ g12801.toInt := gC_le hc12803
        refine G_iload_n 1 d_cX5_liveBefore_37 rfl ?_
        exact G_iret d_cX5_liveBefore_38 rfl (Nat.le_of_ble_eq_true rfl) (Nat.le_of_ble_eq_true rfl) ⟨g12802, rfl, rfl, bg12802⟩
      · have r12805 : g12801.toInt < p12699.toInt := gC_nle hc12803
        have bg12801' : gB g12801 0 11 := ⟨by omega, by omega⟩
        have bp12699' : gB p12699 1 12 := ⟨by omega, by omega⟩
        refine G_iload_n 1 d_cX5_liveBefore_12 rfl ?_
        refine G_aload_n 2 d_cX5_liveBefore_13 rfl ?_
        refine G_getf 0 0 d_cX5_liveBefore_14 rfl (gk_X5 D I) (Nat.le_of_ble_eq_true rfl) w_2_22 rfl ?_
        refine G_iload_n 3 d_cX5_liveBefore_17 rfl ?_
        refine G_aload_n 2 d_cX5_liveBefore_18 rfl ?_
        refine G_getf 0 5 d_cX5_liveBefore_19 rfl (gk_X5 D I) (Nat.le_of_ble_eq_true rfl) w_2_29 rfl ?_
        refine G_imul d_cX5_liveBefore_22 (G_nam fun z12806 hz12806 => ?_)
        have ez12806 : z12806.toInt = p12697.toInt * p12699.toInt := by rw [gI_mul hz12806 bp12697 bp12699' (by decide) (by decide) (by decide)]
        have bz12806 : gB z12806 0 468 := gB_mul hz12806 bp12697 bp12699' (by decide) (by decide) (by decide) (by decide)
        refine G_iload_n 0 d_cX5_liveBefore_23 rfl ?_
        refine G_iadd d_cX5_liveBefore_24 (G_nam fun z12807 hz12807 => ?_)
        have ez12807 : z12807.toInt = z12806.toInt + g12801.toInt := by rw [gI_add hz12807 bz12806 bg12801' (by decide) (by decide)]
        have bz12807 : gB z12807 0 479 := gB_add (gI_add hz12807 bz12806 bg12801' (by decide) (by decide)) bz12806 bg12801' (by decide) (by decide)
        refine G_lald 1 2 d_cX5_liveBefore_25 rfl rfl (gB_in bz12807 (by decide) (by decide)) (G_namL fun u12808 hu12808 => ?_)
        refine G_callS (As := [.long u12808]) (wr := [(q12692, .inr (10, [.ref q12693, .ref q12694, .ref q12695, .ref q12696, .int p12698, .int p12699, .int p12700])), (q12693, .inl (I .long, 480, .inr (.inl f12701))), (q12694, .inl (I .long, 480, .inr (.inl f12702))), (q12695, .inl (I .long, 480, .inr (.inl f12703))), (q12696, .inl (I .long, 12, .inr (.inl f12704)))]) (gV_ok D I) (ct_12713_Long_bitCount l hl0 D I u12808 ) d_cX5_liveBefore_26 ⟨w_4_93, w_1_31, w_4_95, by decide, rfl, (Nat.le_of_ble_eq_true rfl), (Nat.le_of_ble_eq_true rfl)⟩ w_4_94 [] [0, 1, 2, 3, 4] rfl rfl rfl rfl (by decide) (Nat.le_of_ble_eq_true rfl) (Nat.le_of_ble_eq_true rfl) (Nat.le_of_ble_eq_true rfl) (fun r w hp => ?_) (fun _ _ _ z => z.elim)
        obtain ⟨o12809, rfl, rfl, bo12809⟩ := hp
        change G _ _ _ _ _ _ _ (.int o12809 :: _) _ _ _
        refine G_ws (ws' := [(q12692, .inr (10, [.ref q12693, .ref q12694, .ref q12695, .ref q12696, .int p12698, .int p12699, .int p12700])), (q12693, .inl (I .long, 480, .inr (.inl f12701))), (q12694, .inl (I .long, 480, .inr (.inl f12702))), (q12695, .inl (I .long, 480, .inr (.inl f12703))), (q12696, .inl (I .long, 12, .inr (.inl f12704)))]) (cs' := 0) (sl' := 0) rfl rfl rfl ?_
        refine G_iadd d_cX5_liveBefore_29 (G_nam fun z12810 hz12810 => ?_)
        have bz12810 : gB z12810 (-2147483648) 2147483647 := gB_any z12810
        refine G_istore_n (L' := [(2, .int z12810), (3, .int g12801), (0, .ref q12692), (1, .int p12697)]) d_cX5_liveBefore_30 (Nat.le_of_ble_eq_true rfl) rfl ?_
        obtain ⟨z12811, hz12811⟩ : ∃ z : Int32, z = g12801 + Int32.ofInt 1 := ⟨_, rfl⟩
        have ez12811 : z12811.toInt = g12801.toInt + 1 := gI_inc hz12811 (by decide) bg12801' (by decide) (by decide)
        have bz12811 : gB z12811 1 12 := ⟨by omega, by omega⟩
        refine G_iinc (L' := [(3, .int z12811), (2, .int z12810), (0, .ref q12692), (1, .int p12697)]) z12811 1 d_cX5_liveBefore_31 rfl hz12811.symm (Nat.le_of_ble_eq_true rfl) rfl ?_
        refine G_goto 4 d_cX5_liveBefore_34 (by decide +kernel) ?_
        exact ih4_12802 z12811 z12810 (gB_w bz12811 (by decide) (by decide)) bz12810 (by omega)
  exact hlp4_12802 (((13 : Int) - 0).toNat + 1) 0 0 (gB_w (gBl (show Int32.toInt 0 = 0 by decide)) (by decide) (by decide)) (gB_w (gBl (show Int32.toInt 0 = 0 by decide)) (by decide) (by decide)) (Nat.lt_succ_self _)
abbrev ky_12827_Live_standing : gKey := (cX5_standing, 6, yX5_standing.cls, (some FieldType.long), [], yX5_standing.name, fun _ _ => True)
abbrev po_12827_Live_standing (I : FieldType → ClassId) (q12813 : Nat) (q12814 : Nat) (q12815 : Nat) (q12816 : Nat) (q12817 : Nat) (p12818 : Int32) (p12819 : Int32) (p12820 : Int32) (p12821 : Int32) (p12822 : Int32) (f12823 : Nat → Int64) (f12824 : Nat → Int64) (f12825 : Nat → Int64) (f12826 : Nat → Int64) : Option Value → va_W → Prop := fun r w => ∃ (ol12923 : Int64), r = some (.long ol12923) ∧ w = [(q12813, .inr (10, [.ref q12814, .ref q12815, .ref q12816, .ref q12817, .int p12820, .int p12821, .int p12822])), (q12814, .inl (I .long, 480, .inr (.inl f12823))), (q12815, .inl (I .long, 480, .inr (.inl f12824))), (q12816, .inl (I .long, 480, .inr (.inl f12825))), (q12817, .inl (I .long, 12, .inr (.inl f12826)))]
set_option maxRecDepth 100000 in
set_option maxHeartbeats 4000000 in
theorem ct_12827_Live_standing (l : Launch) (hl0 : l.stackTraces = false) (D : va_G) (I : FieldType → ClassId) (q12813 : Nat) (q12814 : Nat) (q12815 : Nat) (q12816 : Nat) (q12817 : Nat) (p12818 : Int32) (p12819 : Int32) (p12820 : Int32) (p12821 : Int32) (p12822 : Int32) (f12823 : Nat → Int64) (f12824 : Nat → Int64) (f12825 : Nat → Int64) (f12826 : Nat → Int64) (bp12818 : gB p12818 0 11) (bp12819 : gB p12819 0 40) (bp12820 : gB p12820 0 720) (bp12821 : gB p12821 0 12) (bp12822 : gB p12822 0 1) : Ct (gV D I) l yX5_standing cX5_standing 6 (some FieldType.long) 0 0 0 0 [.ref q12813, .int p12818, .int p12819] [(q12813, .inr (10, [.ref q12814, .ref q12815, .ref q12816, .ref q12817, .int p12820, .int p12821, .int p12822])), (q12814, .inl (I .long, 480, .inr (.inl f12823))), (q12815, .inl (I .long, 480, .inr (.inl f12824))), (q12816, .inl (I .long, 480, .inr (.inl f12825))), (q12817, .inl (I .long, 12, .inr (.inl f12826)))] (po_12827_Live_standing I q12813 q12814 q12815 q12816 q12817 p12818 p12819 p12820 p12821 p12822 f12823 f12824 f12825 f12826) gN := by
  refine Ct_of hl0 (by decide) (Nat.le_of_ble_eq_true rfl) ?_
  refine G_lconst 0 d_cX5_standing_0 rfl ?_
  refine G_lstore_n (L' := [(3, .long 0), (0, .ref q12813), (1, .int p12818), (2, .int p12819)]) d_cX5_standing_1 (Nat.le_of_ble_eq_true rfl) rfl ?_
  refine G_iconst 0 d_cX5_standing_2 (by decide +kernel) ?_
  refine G_istore (L' := [(5, .int 0), (3, .long 0), (0, .ref q12813), (1, .int p12818), (2, .int p12819)]) d_cX5_standing_3 (Nat.le_of_ble_eq_true rfl) rfl ?_
  have hlp5_12910 : ∀ (n5_12910 : Nat) (g12909 : Int32) (gl12910 : Int64), gB g12909 0 40 → ((41 : Int) - g12909.toInt).toNat < n5_12910 → G (gV D I) l (gRm 0 0 0 0) (gM (gV D I) (po_12827_Live_standing I q12813 q12814 q12815 q12816 q12817 p12818 p12819 p12820 p12821 p12822 f12823 f12824 f12825 f12826) gN 0 0) ky_12827_Live_standing 5 [(5, .int g12909), (3, .long gl12910), (0, .ref q12813), (1, .int p12818), (2, .int p12819)] [] [(q12813, .inr (10, [.ref q12814, .ref q12815, .ref q12816, .ref q12817, .int p12820, .int p12821, .int p12822])), (q12814, .inl (I .long, 480, .inr (.inl f12823))), (q12815, .inl (I .long, 480, .inr (.inl f12824))), (q12816, .inl (I .long, 480, .inr (.inl f12825))), (q12817, .inl (I .long, 12, .inr (.inl f12826)))] 0 0 := by
    intro n5_12910
    induction n5_12910 with
    | zero => intro g12909 gl12910 bg12909 hm5_12910; exact absurd hm5_12910 (Nat.not_lt_zero _)
    | succ n5_12910 ih5_12910 =>
      intro g12909 gl12910 bg12909 hm5_12910
      refine G_iload 0 d_cX5_standing_5 rfl ?_
      refine G_iload_n 4 d_cX5_standing_7 rfl ?_
      refine G_icmp_ge 49 d_cX5_standing_8 (by decide +kernel) (fun hc12911 => ?_) (fun hc12911 => ?_)
      · have r12912 : p12819.toInt ≤ g12909.toInt := gC_le hc12911
        refine G_lload_n 1 d_cX5_standing_49 rfl ?_
        exact G_lret d_cX5_standing_50 rfl (Nat.le_of_ble_eq_true rfl) (Nat.le_of_ble_eq_true rfl) ⟨gl12910, rfl, rfl⟩
      · have r12913 : g12909.toInt < p12819.toInt := gC_nle hc12911
        have bg12909' : gB g12909 0 39 := ⟨by omega, by omega⟩
        have bp12819' : gB p12819 1 40 := ⟨by omega, by omega⟩
        refine G_lload_n 1 d_cX5_standing_11 rfl ?_
        refine G_aload_n 2 d_cX5_standing_12 rfl ?_
        refine G_getf 0 1 d_cX5_standing_13 rfl (gk_X5 D I) (Nat.le_of_ble_eq_true rfl) w_2_23 rfl ?_
        refine G_iload 0 d_cX5_standing_16 rfl ?_
        refine G_aload_n 2 d_cX5_standing_18 rfl ?_
        refine G_getf 0 5 d_cX5_standing_19 rfl (gk_X5 D I) (Nat.le_of_ble_eq_true rfl) w_2_29 rfl ?_
        refine G_imul d_cX5_standing_22 (G_nam fun z12914 hz12914 => ?_)
        have ez12914 : z12914.toInt = g12909.toInt * p12821.toInt := by rw [gI_mul hz12914 bg12909' bp12821 (by decide) (by decide) (by decide)]
        have bz12914 : gB z12914 0 468 := gB_mul hz12914 bg12909' bp12821 (by decide) (by decide) (by decide) (by decide)
        refine G_iload_n 3 d_cX5_standing_23 rfl ?_
        refine G_iadd d_cX5_standing_24 (G_nam fun z12915 hz12915 => ?_)
        have ez12915 : z12915.toInt = z12914.toInt + p12818.toInt := by rw [gI_add hz12915 bz12914 bp12818 (by decide) (by decide)]
        have bz12915 : gB z12915 0 479 := gB_add (gI_add hz12915 bz12914 bp12818 (by decide) (by decide)) bz12914 bp12818 (by decide) (by decide)
        refine G_lald 2 2 d_cX5_standing_25 rfl rfl (gB_in bz12915 (by decide) (by decide)) (G_namL fun u12916 hu12916 => ?_)
        refine G_aload_n 2 d_cX5_standing_26 rfl ?_
        refine G_getf 0 2 d_cX5_standing_27 rfl (gk_X5 D I) (Nat.le_of_ble_eq_true rfl) w_2_24 rfl ?_
        refine G_iload 0 d_cX5_standing_30 rfl ?_
        refine G_aload_n 2 d_cX5_standing_32 rfl ?_
        refine G_getf 0 5 d_cX5_standing_33 rfl (gk_X5 D I) (Nat.le_of_ble_eq_true rfl) w_2_29 rfl ?_
        refine G_imul d_cX5_standing_36 (G_nam fun z12917 hz12917 => ?_)
        have ez12917 : z12917.toInt = g12909.toInt * p12821.toInt := by rw [gI_mul hz12917 bg12909' bp12821 (by decide) (by decide) (by decide)]
        have bz12917 : gB z12917 0 468 := gB_mul hz12917 bg12909' bp12821 (by decide) (by decide) (by decide) (by decide)
        refine G_iload_n 3 d_cX5_standing_37 rfl ?_
        refine G_iadd d_cX5_standing_38 (G_nam fun z12918 hz12918 => ?_)
        have ez12918 : z12918.toInt = z12917.toInt + p12818.toInt := by rw [gI_add hz12918 bz12917 bp12818 (by decide) (by decide)]
        have bz12918 : gB z12918 0 479 := gB_add (gI_add hz12918 bz12917 bp12818 (by decide) (by decide)) bz12917 bp12818 (by decide) (by decide)
        refine G_lald 3 2 d_cX5_standing_39 rfl rfl (gB_in bz12918 (by decide) (by decide)) (G_namL fun u12919 hu12919 => ?_)
        refine G_lor d_cX5_standing_40 (G_namL fun u12920 hu12920 => ?_)
        refine G_lor d_cX5_standing_41 (G_namL fun u12921 hu12921 => ?_)
        refine G_lstore_n (L' := [(3, .long u12921), (5, .int g12909), (0, .ref q12813), (1, .int p12818), (2, .int p12819)]) d_cX5_standing_42 (Nat.le_of_ble_eq_true rfl) rfl ?_
        obtain ⟨z12922, hz12922⟩ : ∃ z : Int32, z = g12909 + Int32.ofInt 1 := ⟨_, rfl⟩
        have ez12922 : z12922.toInt = g12909.toInt + 1 := gI_inc hz12922 (by decide) bg12909' (by decide) (by decide)
        have bz12922 : gB z12922 1 40 := ⟨by omega, by omega⟩
        refine G_iinc (L' := [(5, .int z12922), (3, .long u12921), (0, .ref q12813), (1, .int p12818), (2, .int p12819)]) z12922 1 d_cX5_standing_43 rfl hz12922.symm (Nat.le_of_ble_eq_true rfl) rfl ?_
        refine G_goto 5 d_cX5_standing_46 (by decide +kernel) ?_
        exact ih5_12910 z12922 u12921 (gB_w bz12922 (by decide) (by decide)) (by omega)
  exact hlp5_12910 (((41 : Int) - 0).toNat + 1) 0 0 (gB_w (gBl (show Int32.toInt 0 = 0 by decide)) (by decide) (by decide)) (Nat.lt_succ_self _)
