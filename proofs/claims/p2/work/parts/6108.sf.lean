abbrev ky_12677_Live_isLiveBefore : gKey := (cX5_isLiveBefore, 3, yX5_isLiveBefore.cls, (some FieldType.boolean), [], yX5_isLiveBefore.name, fun _ _ => True)
abbrev po_12677_Live_isLiveBefore (I : FieldType → ClassId) (q12663 : Nat) (q12664 : Nat) (q12665 : Nat) (q12666 : Nat) (q12667 : Nat) (p12668 : Int32) (p12669 : Int32) (p12670 : Int32) (p12671 : Int32) (p12672 : Int32) (f12673 : Nat → Int64) (f12674 : Nat → Int64) (f12675 : Nat → Int64) (f12676 : Nat → Int64) : Option Value → va_W → Prop := fun r w => (r = some (.int 0) ∧ w = [(q12663, .inr (10, [.ref q12664, .ref q12665, .ref q12666, .ref q12667, .int p12670, .int p12671, .int p12672])), (q12664, .inl (I .long, 480, .inr (.inl f12673))), (q12665, .inl (I .long, 480, .inr (.inl f12674))), (q12666, .inl (I .long, 480, .inr (.inl f12675))), (q12667, .inl (I .long, 12, .inr (.inl f12676)))] ∧ p12669.toInt < 0) ∨ (r = some (.int 0) ∧ w = [(q12663, .inr (10, [.ref q12664, .ref q12665, .ref q12666, .ref q12667, .int p12670, .int p12671, .int p12672])), (q12664, .inl (I .long, 480, .inr (.inl f12673))), (q12665, .inl (I .long, 480, .inr (.inl f12674))), (q12666, .inl (I .long, 480, .inr (.inl f12675))), (q12667, .inl (I .long, 12, .inr (.inl f12676)))] ∧ 0 ≤ p12669.toInt ∧ p12670.toInt ≤ p12669.toInt) ∨ (r = some (.int 0) ∧ w = [(q12663, .inr (10, [.ref q12664, .ref q12665, .ref q12666, .ref q12667, .int p12670, .int p12671, .int p12672])), (q12664, .inl (I .long, 480, .inr (.inl f12673))), (q12665, .inl (I .long, 480, .inr (.inl f12674))), (q12666, .inl (I .long, 480, .inr (.inl f12675))), (q12667, .inl (I .long, 12, .inr (.inl f12676)))] ∧ 0 ≤ p12669.toInt ∧ p12669.toInt < p12670.toInt ∧ p12668.toInt < 0) ∨ (r = some (.int 0) ∧ w = [(q12663, .inr (10, [.ref q12664, .ref q12665, .ref q12666, .ref q12667, .int p12670, .int p12671, .int p12672])), (q12664, .inl (I .long, 480, .inr (.inl f12673))), (q12665, .inl (I .long, 480, .inr (.inl f12674))), (q12666, .inl (I .long, 480, .inr (.inl f12675))), (q12667, .inl (I .long, 12, .inr (.inl f12676)))] ∧ 0 ≤ p12669.toInt ∧ p12669.toInt < p12670.toInt ∧ 0 ≤ p12668.toInt ∧ 40 ≤ p12668.toInt) ∨ (∃ (z12689 : Int32) (z12690 : Int32) (z12691 : Int32) (z12695 : Int32), r = some (.int 0) ∧ w = [(q12663, .inr (10, [.ref q12664, .ref q12665, .ref q12666, .ref q12667, .int p12670, .int p12671, .int p12672])), (q12664, .inl (I .long, 480, .inr (.inl f12673))), (q12665, .inl (I .long, 480, .inr (.inl f12674))), (q12666, .inl (I .long, 480, .inr (.inl f12675))), (q12667, .inl (I .long, 12, .inr (.inl f12676)))] ∧ 0 ≤ p12669.toInt ∧ p12669.toInt < p12670.toInt ∧ 0 ≤ p12668.toInt ∧ p12668.toInt < 40 ∧ z12689.toInt = p12668.toInt * p12671.toInt ∧ z12690.toInt = p12669.toInt / 64 ∧ z12691.toInt = z12689.toInt + z12690.toInt ∧ z12695.toInt = 0 ∧ gB z12689 0 468 ∧ gB z12690 0 11 ∧ gB z12691 0 479 ∧ gB z12695 0 0) ∨ (∃ (z12689 : Int32) (z12690 : Int32) (z12691 : Int32) (z12695 : Int32), r = some (.int 1) ∧ w = [(q12663, .inr (10, [.ref q12664, .ref q12665, .ref q12666, .ref q12667, .int p12670, .int p12671, .int p12672])), (q12664, .inl (I .long, 480, .inr (.inl f12673))), (q12665, .inl (I .long, 480, .inr (.inl f12674))), (q12666, .inl (I .long, 480, .inr (.inl f12675))), (q12667, .inl (I .long, 12, .inr (.inl f12676)))] ∧ 0 ≤ p12669.toInt ∧ p12669.toInt < p12670.toInt ∧ 0 ≤ p12668.toInt ∧ p12668.toInt < 40 ∧ z12689.toInt = p12668.toInt * p12671.toInt ∧ z12690.toInt = p12669.toInt / 64 ∧ z12691.toInt = z12689.toInt + z12690.toInt ∧ z12695.toInt ≠ 0 ∧ gB z12689 0 468 ∧ gB z12690 0 11 ∧ gB z12691 0 479 ∧ gB z12695 (-1) 1)
set_option maxRecDepth 100000 in
set_option maxHeartbeats 4000000 in
theorem ct_12677_Live_isLiveBefore (l : Launch) (hl0 : l.stackTraces = false) (D : va_G) (I : FieldType → ClassId) (q12663 : Nat) (q12664 : Nat) (q12665 : Nat) (q12666 : Nat) (q12667 : Nat) (p12668 : Int32) (p12669 : Int32) (p12670 : Int32) (p12671 : Int32) (p12672 : Int32) (f12673 : Nat → Int64) (f12674 : Nat → Int64) (f12675 : Nat → Int64) (f12676 : Nat → Int64) (bp12670 : gB p12670 0 720) (bp12671 : gB p12671 0 12) (bp12672 : gB p12672 0 1) : Ct (gV D I) l yX5_isLiveBefore cX5_isLiveBefore 3 (some FieldType.boolean) 1 21 0 0 [.ref q12663, .int p12668, .int p12669] [(q12663, .inr (10, [.ref q12664, .ref q12665, .ref q12666, .ref q12667, .int p12670, .int p12671, .int p12672])), (q12664, .inl (I .long, 480, .inr (.inl f12673))), (q12665, .inl (I .long, 480, .inr (.inl f12674))), (q12666, .inl (I .long, 480, .inr (.inl f12675))), (q12667, .inl (I .long, 12, .inr (.inl f12676)))] (po_12677_Live_isLiveBefore I q12663 q12664 q12665 q12666 q12667 p12668 p12669 p12670 p12671 p12672 f12673 f12674 f12675 f12676) gN := by
  refine Ct_of hl0 (by decide) (Nat.le_of_ble_eq_true rfl) ?_
  have bp12668 := gB_any p12668
  have bp12669 := gB_any p12669
  refine G_aload_n 0 d_cX5_isLiveBefore_0 rfl ?_
  refine G_iload_n 2 d_cX5_isLiveBefore_1 rfl ?_
  refine G_callV (As := [.int p12669]) (wr := []) (gV_ok D I) (ct_6126_Live_isName l hl0 D I q12663 q12664 q12665 q12666 q12667 p12669 p12670 p12671 p12672 f12673 f12674 f12675 f12676 bp12670 bp12671 bp12672) d_cX5_isLiveBefore_2 ⟨w_4_56, w_1_10, w_4_59, by decide, rfl, (Nat.le_of_ble_eq_true rfl), (Nat.le_of_ble_eq_true rfl)⟩ w_4_57 w_4_58 0 rfl rfl [0, 1, 2, 3, 4] [] rfl rfl rfl rfl (by decide) (Nat.le_of_ble_eq_true rfl) (Nat.le_of_ble_eq_true rfl) (Nat.le_of_ble_eq_true rfl) (fun r w hp => ?_) (fun _ _ _ z => z.elim)
  rcases hp with ⟨rfl, rfl, r12678⟩ | ⟨rfl, rfl, r12679, r12680⟩ | ⟨rfl, rfl, r12681, r12682⟩
  · have bp12669' : gB p12669 (-2147483648) (-1) := ⟨by omega, by omega⟩
    change G _ _ _ _ _ _ _ (.int 0 :: _) _ _ _
    refine G_ws (ws' := [(q12663, .inr (10, [.ref q12664, .ref q12665, .ref q12666, .ref q12667, .int p12670, .int p12671, .int p12672])), (q12664, .inl (I .long, 480, .inr (.inl f12673))), (q12665, .inl (I .long, 480, .inr (.inl f12674))), (q12666, .inl (I .long, 480, .inr (.inl f12675))), (q12667, .inl (I .long, 12, .inr (.inl f12676)))]) (cs' := 0) (sl' := 0) rfl rfl rfl ?_
    refine G_if_eq 47 d_cX5_isLiveBefore_5 (by decide +kernel) (fun _ => ?_) (fun hc => absurd hc (by decide))
    refine G_iconst 0 d_cX5_isLiveBefore_47 (by decide +kernel) ?_
    exact G_zret FieldType.boolean d_cX5_isLiveBefore_48 rfl rfl (Nat.le_of_ble_eq_true rfl) (Nat.le_of_ble_eq_true rfl) (Or.inl ⟨rfl, rfl, r12678⟩)
  · have bp12669' : gB p12669 0 2147483647 := ⟨by omega, by omega⟩
    change G _ _ _ _ _ _ _ (.int 0 :: _) _ _ _
    refine G_ws (ws' := [(q12663, .inr (10, [.ref q12664, .ref q12665, .ref q12666, .ref q12667, .int p12670, .int p12671, .int p12672])), (q12664, .inl (I .long, 480, .inr (.inl f12673))), (q12665, .inl (I .long, 480, .inr (.inl f12674))), (q12666, .inl (I .long, 480, .inr (.inl f12675))), (q12667, .inl (I .long, 12, .inr (.inl f12676)))]) (cs' := 0) (sl' := 0) rfl rfl rfl ?_
    refine G_if_eq 47 d_cX5_isLiveBefore_5 (by decide +kernel) (fun _ => ?_) (fun hc => absurd hc (by decide))
    refine G_iconst 0 d_cX5_isLiveBefore_47 (by decide +kernel) ?_
    exact G_zret FieldType.boolean d_cX5_isLiveBefore_48 rfl rfl (Nat.le_of_ble_eq_true rfl) (Nat.le_of_ble_eq_true rfl) (Or.inr (Or.inl ⟨rfl, rfl, r12679, r12680⟩))
  · have bp12669' : gB p12669 0 2147483647 := ⟨by omega, by omega⟩
    have bp12669'' : gB p12669 0 719 := ⟨by omega, by omega⟩
    have bp12670' : gB p12670 1 720 := ⟨by omega, by omega⟩
    change G _ _ _ _ _ _ _ (.int 1 :: _) _ _ _
    refine G_ws (ws' := [(q12663, .inr (10, [.ref q12664, .ref q12665, .ref q12666, .ref q12667, .int p12670, .int p12671, .int p12672])), (q12664, .inl (I .long, 480, .inr (.inl f12673))), (q12665, .inl (I .long, 480, .inr (.inl f12674))), (q12666, .inl (I .long, 480, .inr (.inl f12675))), (q12667, .inl (I .long, 12, .inr (.inl f12676)))]) (cs' := 0) (sl' := 0) rfl rfl rfl ?_
    refine G_if_eq 47 d_cX5_isLiveBefore_5 (by decide +kernel) (fun hc => absurd hc (by decide)) (fun _ => ?_)
    refine G_iload_n 1 d_cX5_isLiveBefore_8 rfl ?_
    refine G_if_lt 47 d_cX5_isLiveBefore_9 (by decide +kernel) (fun hc12683 => ?_) (fun hc12683 => ?_)
    · have r12684 : p12668.toInt < 0 := gj_lt hc12683 (show Int32.toInt 0 = 0 by decide)
      have bp12668' : gB p12668 (-2147483648) (-1) := ⟨by omega, by omega⟩
      refine G_iconst 0 d_cX5_isLiveBefore_47 (by decide +kernel) ?_
      exact G_zret FieldType.boolean d_cX5_isLiveBefore_48 rfl rfl (Nat.le_of_ble_eq_true rfl) (Nat.le_of_ble_eq_true rfl) (Or.inr (Or.inr (Or.inl ⟨rfl, rfl, r12681, r12682, r12684⟩)))
    · have r12685 : 0 ≤ p12668.toInt := gj_nlt hc12683 (show Int32.toInt 0 = 0 by decide)
      have bp12668' : gB p12668 0 2147483647 := ⟨by omega, by omega⟩
      refine G_iload_n 1 d_cX5_isLiveBefore_12 rfl ?_
      refine G_bipush 40 d_cX5_isLiveBefore_13 (by decide +kernel) ?_
      refine G_icmp_ge 47 d_cX5_isLiveBefore_15 (by decide +kernel) (fun hc12686 => ?_) (fun hc12686 => ?_)
      · have r12687 : 40 ≤ p12668.toInt := gj_leL hc12686 (show Int32.toInt 40 = 40 by decide)
        have bp12668'' : gB p12668 40 2147483647 := ⟨by omega, by omega⟩
        refine G_iconst 0 d_cX5_isLiveBefore_47 (by decide +kernel) ?_
        exact G_zret FieldType.boolean d_cX5_isLiveBefore_48 rfl rfl (Nat.le_of_ble_eq_true rfl) (Nat.le_of_ble_eq_true rfl) (Or.inr (Or.inr (Or.inr (Or.inl ⟨rfl, rfl, r12681, r12682, r12685, r12687⟩))))
      · have r12688 : p12668.toInt < 40 := gj_nleL hc12686 (show Int32.toInt 40 = 40 by decide)
        have bp12668'' : gB p12668 0 39 := ⟨by omega, by omega⟩
        refine G_aload_n 0 d_cX5_isLiveBefore_18 rfl ?_
        refine G_getf 0 0 d_cX5_isLiveBefore_19 rfl (gk_X5 D I) (Nat.le_of_ble_eq_true rfl) w_2_22 rfl ?_
        refine G_iload_n 1 d_cX5_isLiveBefore_22 rfl ?_
        refine G_aload_n 0 d_cX5_isLiveBefore_23 rfl ?_
        refine G_getf 0 5 d_cX5_isLiveBefore_24 rfl (gk_X5 D I) (Nat.le_of_ble_eq_true rfl) w_2_29 rfl ?_
        refine G_imul d_cX5_isLiveBefore_27 (G_nam fun z12689 hz12689 => ?_)
        have ez12689 : z12689.toInt = p12668.toInt * p12671.toInt := by rw [gI_mul hz12689 bp12668'' bp12671 (by decide) (by decide) (by decide)]
        have bz12689 : gB z12689 0 468 := gB_mul hz12689 bp12668'' bp12671 (by decide) (by decide) (by decide) (by decide)
        refine G_iload_n 2 d_cX5_isLiveBefore_28 rfl ?_
        refine G_bipush 6 d_cX5_isLiveBefore_29 (by decide +kernel) ?_
        refine G_ishr d_cX5_isLiveBefore_31 (G_nam fun z12690 hz12690 => ?_)
        have ez12690 : z12690.toInt = p12669.toInt / 64 := gI_shr (k := 6) hz12690 (by decide)
        have bz12690 : gB z12690 0 11 := ⟨by omega, by omega⟩
        refine G_iadd d_cX5_isLiveBefore_32 (G_nam fun z12691 hz12691 => ?_)
        have ez12691 : z12691.toInt = z12689.toInt + z12690.toInt := by rw [gI_add hz12691 bz12689 bz12690 (by decide) (by decide)]
        have bz12691 : gB z12691 0 479 := gB_add (gI_add hz12691 bz12689 bz12690 (by decide) (by decide)) bz12689 bz12690 (by decide) (by decide)
        refine G_lald 1 2 d_cX5_isLiveBefore_33 rfl rfl (gB_in bz12691 (by decide) (by decide)) (G_namL fun u12692 hu12692 => ?_)
        refine G_iload_n 2 d_cX5_isLiveBefore_34 rfl ?_
        refine G_lshr d_cX5_isLiveBefore_35 (G_namL fun u12693 hu12693 => ?_)
        refine G_lconst 1 d_cX5_isLiveBefore_36 rfl ?_
        refine G_land d_cX5_isLiveBefore_37 (G_namL fun u12694 hu12694 => ?_)
        refine G_lconst 0 d_cX5_isLiveBefore_38 rfl ?_
        refine G_lcmp d_cX5_isLiveBefore_39 (G_nam fun z12695 hz12695 => ?_)
        have bz12695 : gB z12695 (-1) 1 := gB_cmp hz12695
        refine G_if_eq 47 d_cX5_isLiveBefore_40 (by decide +kernel) (fun hc12696 => ?_) (fun hc12696 => ?_)
        · have r12697 : z12695.toInt = 0 := gj_eq hc12696 (show Int32.toInt 0 = 0 by decide)
          have bz12695' : gB z12695 0 0 := ⟨by omega, by omega⟩
          have lhc12696 := gC_cmpE hz12695 hc12696
          refine G_iconst 0 d_cX5_isLiveBefore_47 (by decide +kernel) ?_
          exact G_zret FieldType.boolean d_cX5_isLiveBefore_48 rfl rfl (Nat.le_of_ble_eq_true rfl) (Nat.le_of_ble_eq_true rfl) (Or.inr (Or.inr (Or.inr (Or.inr (Or.inl ⟨z12689, z12690, z12691, z12695, rfl, rfl, r12681, r12682, r12685, r12688, ez12689, ez12690, ez12691, r12697, bz12689, bz12690, bz12691, bz12695'⟩)))))
        · have r12698 : z12695.toInt ≠ 0 := gj_neq hc12696 (show Int32.toInt 0 = 0 by decide)
          have lhc12696 := gC_cmpN hz12695 hc12696
          refine G_iconst 1 d_cX5_isLiveBefore_43 (by decide +kernel) ?_
          refine G_goto 48 d_cX5_isLiveBefore_44 (by decide +kernel) ?_
          exact G_zret FieldType.boolean d_cX5_isLiveBefore_48 rfl rfl (Nat.le_of_ble_eq_true rfl) (Nat.le_of_ble_eq_true rfl) (Or.inr (Or.inr (Or.inr (Or.inr (Or.inr (⟨z12689, z12690, z12691, z12695, rfl, rfl, r12681, r12682, r12685, r12688, ez12689, ez12690, ez12691, r12698, bz12689, bz12690, bz12691, bz12695⟩))))))
abbrev ky_12720_Long_bitCount : gKey := (cJ13_bitCount_95d88, 2, yJ13_bitCount_95d88.cls, (some FieldType.int), [], yJ13_bitCount_95d88.name, fun _ _ => True)
abbrev po_12720_Long_bitCount (I : FieldType → ClassId) (pl12719 : Int64) : Option Value → va_W → Prop := fun r w => ∃ (o12739 : Int32), r = some (.int o12739) ∧ w = [] ∧ gB o12739 0 127
set_option maxRecDepth 100000 in
set_option maxHeartbeats 4000000 in
theorem ct_12720_Long_bitCount (l : Launch) (hl0 : l.stackTraces = false) (D : va_G) (I : FieldType → ClassId) (pl12719 : Int64)  : Ct (gV D I) l yJ13_bitCount_95d88 cJ13_bitCount_95d88 2 (some FieldType.int) 0 0 0 0 [.long pl12719] [] (po_12720_Long_bitCount I pl12719) gN := by
  refine Ct_ofF hl0 (by decide +kernel) (Nat.le_of_ble_eq_true rfl) ?_
  refine G_lload_n 0 d_cJ13_bitCount_95d88_0 rfl ?_
  refine G_lload_n 0 d_cJ13_bitCount_95d88_1 rfl ?_
  refine G_iconst 1 d_cJ13_bitCount_95d88_2 (by decide +kernel) ?_
  refine G_lushr d_cJ13_bitCount_95d88_3 (G_namL fun u12721 hu12721 => ?_)
  refine G_ldc2 6148914691236517205 d_cJ13_bitCount_95d88_4 w_4_96 ?_
  refine G_land d_cJ13_bitCount_95d88_7 (G_namL fun u12722 hu12722 => ?_)
  refine G_lsub d_cJ13_bitCount_95d88_8 (G_namL fun u12723 hu12723 => ?_)
  refine G_lstore_n (L' := [(0, .long u12723)]) d_cJ13_bitCount_95d88_9 (Nat.le_of_ble_eq_true rfl) rfl ?_
  refine G_lload_n 0 d_cJ13_bitCount_95d88_10 rfl ?_
  refine G_ldc2 3689348814741910323 d_cJ13_bitCount_95d88_11 w_4_97 ?_
  refine G_land d_cJ13_bitCount_95d88_14 (G_namL fun u12724 hu12724 => ?_)
  refine G_lload_n 0 d_cJ13_bitCount_95d88_15 rfl ?_
  refine G_iconst 2 d_cJ13_bitCount_95d88_16 (by decide +kernel) ?_
  refine G_lushr d_cJ13_bitCount_95d88_17 (G_namL fun u12725 hu12725 => ?_)
  refine G_ldc2 3689348814741910323 d_cJ13_bitCount_95d88_18 w_4_97 ?_
  refine G_land d_cJ13_bitCount_95d88_21 (G_namL fun u12726 hu12726 => ?_)
  refine G_ladd d_cJ13_bitCount_95d88_22 (G_namL fun u12727 hu12727 => ?_)
  refine G_lstore_n (L' := [(0, .long u12727)]) d_cJ13_bitCount_95d88_23 (Nat.le_of_ble_eq_true rfl) rfl ?_
  refine G_lload_n 0 d_cJ13_bitCount_95d88_24 rfl ?_
  refine G_lload_n 0 d_cJ13_bitCount_95d88_25 rfl ?_
  refine G_iconst 4 d_cJ13_bitCount_95d88_26 (by decide +kernel) ?_
  refine G_lushr d_cJ13_bitCount_95d88_27 (G_namL fun u12728 hu12728 => ?_)
  refine G_ladd d_cJ13_bitCount_95d88_28 (G_namL fun u12729 hu12729 => ?_)
  refine G_ldc2 1085102592571150095 d_cJ13_bitCount_95d88_29 w_4_98 ?_
  refine G_land d_cJ13_bitCount_95d88_32 (G_namL fun u12730 hu12730 => ?_)
  refine G_lstore_n (L' := [(0, .long u12730)]) d_cJ13_bitCount_95d88_33 (Nat.le_of_ble_eq_true rfl) rfl ?_
  refine G_lload_n 0 d_cJ13_bitCount_95d88_34 rfl ?_
  refine G_lload_n 0 d_cJ13_bitCount_95d88_35 rfl ?_
  refine G_bipush 8 d_cJ13_bitCount_95d88_36 (by decide +kernel) ?_
  refine G_lushr d_cJ13_bitCount_95d88_38 (G_namL fun u12731 hu12731 => ?_)
  refine G_ladd d_cJ13_bitCount_95d88_39 (G_namL fun u12732 hu12732 => ?_)
  refine G_lstore_n (L' := [(0, .long u12732)]) d_cJ13_bitCount_95d88_40 (Nat.le_of_ble_eq_true rfl) rfl ?_
  refine G_lload_n 0 d_cJ13_bitCount_95d88_41 rfl ?_
  refine G_lload_n 0 d_cJ13_bitCount_95d88_42 rfl ?_
  refine G_bipush 16 d_cJ13_bitCount_95d88_43 (by decide +kernel) ?_
  refine G_lushr d_cJ13_bitCount_95d88_45 (G_namL fun u12733 hu12733 => ?_)
  refine G_ladd d_cJ13_bitCount_95d88_46 (G_namL fun u12734 hu12734 => ?_)
  refine G_lstore_n (L' := [(0, .long u12734)]) d_cJ13_bitCount_95d88_47 (Nat.le_of_ble_eq_true rfl) rfl ?_
  refine G_lload_n 0 d_cJ13_bitCount_95d88_48 rfl ?_
  refine G_lload_n 0 d_cJ13_bitCount_95d88_49 rfl ?_
  refine G_bipush 32 d_cJ13_bitCount_95d88_50 (by decide +kernel) ?_
  refine G_lushr d_cJ13_bitCount_95d88_52 (G_namL fun u12735 hu12735 => ?_)
  refine G_ladd d_cJ13_bitCount_95d88_53 (G_namL fun u12736 hu12736 => ?_)
  refine G_lstore_n (L' := [(0, .long u12736)]) d_cJ13_bitCount_95d88_54 (Nat.le_of_ble_eq_true rfl) rfl ?_
  refine G_lload_n 0 d_cJ13_bitCount_95d88_55 rfl ?_
  refine G_l2i d_cJ13_bitCount_95d88_56 (G_nam fun z12737 hz12737 => ?_)
  have bz12737 : gB z12737 (-2147483648) 2147483647 := gB_any z12737
  refine G_bipush 127 d_cJ13_bitCount_95d88_57 (by decide +kernel) ?_
  refine G_iand d_cJ13_bitCount_95d88_59 (G_nam fun z12738 hz12738 => ?_)
  have bz12738 : gB z12738 0 127 := gB_and hz12738 (gBl (show Int32.toInt 127 = 127 by decide)) (by decide)
  exact G_iret d_cJ13_bitCount_95d88_60 rfl (Nat.le_of_ble_eq_true rfl) (Nat.le_of_ble_eq_true rfl) ⟨z12738, rfl, rfl, bz12738⟩
abbrev ky_12712_Live_liveBefore : gKey := (cX5_liveBefore, 4, yX5_liveBefore.cls, (some FieldType.int), [], yX5_liveBefore.name, fun _ _ => True)
abbrev po_12712_Live_liveBefore (I : FieldType → ClassId) (q12699 : Nat) (q12700 : Nat) (q12701 : Nat) (q12702 : Nat) (q12703 : Nat) (p12704 : Int32) (p12705 : Int32) (p12706 : Int32) (p12707 : Int32) (f12708 : Nat → Int64) (f12709 : Nat → Int64) (f12710 : Nat → Int64) (f12711 : Nat → Int64) : Option Value → va_W → Prop := fun r w => ∃ (o12819 : Int32), r = some (.int o12819) ∧ w = [(q12699, .inr (10, [.ref q12700, .ref q12701, .ref q12702, .ref q12703, .int p12705, .int p12706, .int p12707])), (q12700, .inl (I .long, 480, .inr (.inl f12708))), (q12701, .inl (I .long, 480, .inr (.inl f12709))), (q12702, .inl (I .long, 480, .inr (.inl f12710))), (q12703, .inl (I .long, 12, .inr (.inl f12711)))] ∧ gB o12819 (-2147483648) 2147483647
set_option maxRecDepth 100000 in
set_option maxHeartbeats 4000000 in
theorem ct_12712_Live_liveBefore (l : Launch) (hl0 : l.stackTraces = false) (D : va_G) (I : FieldType → ClassId) (q12699 : Nat) (q12700 : Nat) (q12701 : Nat) (q12702 : Nat) (q12703 : Nat) (p12704 : Int32) (p12705 : Int32) (p12706 : Int32) (p12707 : Int32) (f12708 : Nat → Int64) (f12709 : Nat → Int64) (f12710 : Nat → Int64) (f12711 : Nat → Int64) (bp12704 : gB p12704 0 39) (bp12705 : gB p12705 0 720) (bp12706 : gB p12706 0 12) (bp12707 : gB p12707 0 1) : Ct (gV D I) l yX5_liveBefore cX5_liveBefore 4 (some FieldType.int) 1 21 0 0 [.ref q12699, .int p12704] [(q12699, .inr (10, [.ref q12700, .ref q12701, .ref q12702, .ref q12703, .int p12705, .int p12706, .int p12707])), (q12700, .inl (I .long, 480, .inr (.inl f12708))), (q12701, .inl (I .long, 480, .inr (.inl f12709))), (q12702, .inl (I .long, 480, .inr (.inl f12710))), (q12703, .inl (I .long, 12, .inr (.inl f12711)))] (po_12712_Live_liveBefore I q12699 q12700 q12701 q12702 q12703 p12704 p12705 p12706 p12707 f12708 f12709 f12710 f12711) gN := by
  refine Ct_of hl0 (by decide) (Nat.le_of_ble_eq_true rfl) ?_
  refine G_iconst 0 d_cX5_liveBefore_0 (by decide +kernel) ?_
  refine G_istore_n (L' := [(2, .int 0), (0, .ref q12699), (1, .int p12704)]) d_cX5_liveBefore_1 (Nat.le_of_ble_eq_true rfl) rfl ?_
  refine G_iconst 0 d_cX5_liveBefore_2 (by decide +kernel) ?_
  refine G_istore_n (L' := [(3, .int 0), (2, .int 0), (0, .ref q12699), (1, .int p12704)]) d_cX5_liveBefore_3 (Nat.le_of_ble_eq_true rfl) rfl ?_
  have hlp4_12809 : ∀ (n4_12809 : Nat) (g12808 : Int32) (g12809 : Int32), gB g12808 0 12 → gB g12809 (-2147483648) 2147483647 → ((13 : Int) - g12808.toInt).toNat < n4_12809 → G (gV D I) l (gRm 1 21 0 0) (gM (gV D I) (po_12712_Live_liveBefore I q12699 q12700 q12701 q12702 q12703 p12704 p12705 p12706 p12707 f12708 f12709 f12710 f12711) gN 0 0) ky_12712_Live_liveBefore 4 [(3, .int g12808), (2, .int g12809), (0, .ref q12699), (1, .int p12704)] [] [(q12699, .inr (10, [.ref q12700, .ref q12701, .ref q12702, .ref q12703, .int p12705, .int p12706, .int p12707])), (q12700, .inl (I .long, 480, .inr (.inl f12708))), (q12701, .inl (I .long, 480, .inr (.inl f12709))), (q12702, .inl (I .long, 480, .inr (.inl f12710))), (q12703, .inl (I .long, 12, .inr (.inl f12711)))] 0 0 := by
    intro n4_12809
    induction n4_12809 with
    | zero => intro g12808 g12809 bg12808 bg12809 hm4_12809; exact absurd hm4_12809 (Nat.not_lt_zero _)
    | succ n4_12809 ih4_12809 =>
      intro g12808 g12809 bg12808 bg12809 hm4_12809
      refine G_iload_n 0 d_cX5_liveBefore_4 rfl ?_
      refine G_aload_n 2 d_cX5_liveBefore_5 rfl ?_
      refine G_getf 0 5 d_cX5_liveBefore_6 rfl (gk_X5 D I) (Nat.le_of_ble_eq_true rfl) w_2_29 rfl ?_
      refine G_icmp_ge 37 d_cX5_liveBefore_9 (by decide +kernel) (fun hc12810 => ?_) (fun hc12810 => ?_)
      · have r12811 : p12706.toInt ≤ g12808.toInt := gC_le hc12810
        refine G_iload_n 1 d_cX5_liveBefore_37 rfl ?_
        exact G_iret d_cX5_liveBefore_38 rfl (Nat.le_of_ble_eq_true rfl) (Nat.le_of_ble_eq_true rfl) ⟨g12809, rfl, rfl, bg12809⟩
      · have r12812 : g12808.toInt < p12706.toInt := gC_nle hc12810
        have bg12808' : gB g12808 0 11 := ⟨by omega, by omega⟩
        have bp12706' : gB p12706 1 12 := ⟨by omega, by omega⟩
        refine G_iload_n 1 d_cX5_liveBefore_12 rfl ?_
        refine G_aload_n 2 d_cX5_liveBefore_13 rfl ?_
        refine G_getf 0 0 d_cX5_liveBefore_14 rfl (gk_X5 D I) (Nat.le_of_ble_eq_true rfl) w_2_22 rfl ?_
        refine G_iload_n 3 d_cX5_liveBefore_17 rfl ?_
        refine G_aload_n 2 d_cX5_liveBefore_18 rfl ?_
        refine G_getf 0 5 d_cX5_liveBefore_19 rfl (gk_X5 D I) (Nat.le_of_ble_eq_true rfl) w_2_29 rfl ?_
        refine G_imul d_cX5_liveBefore_22 (G_nam fun z12813 hz12813 => ?_)
        have ez12813 : z12813.toInt = p12704.toInt * p12706.toInt := by rw [gI_mul hz12813 bp12704 bp12706' (by decide) (by decide) (by decide)]
        have bz12813 : gB z12813 0 468 := gB_mul hz12813 bp12704 bp12706' (by decide) (by decide) (by decide) (by decide)
        refine G_iload_n 0 d_cX5_liveBefore_23 rfl ?_
        refine G_iadd d_cX5_liveBefore_24 (G_nam fun z12814 hz12814 => ?_)
        have ez12814 : z12814.toInt = z12813.toInt + g12808.toInt := by rw [gI_add hz12814 bz12813 bg12808' (by decide) (by decide)]
        have bz12814 : gB z12814 0 479 := gB_add (gI_add hz12814 bz12813 bg12808' (by decide) (by decide)) bz12813 bg12808' (by decide) (by decide)
        refine G_lald 1 2 d_cX5_liveBefore_25 rfl rfl (gB_in bz12814 (by decide) (by decide)) (G_namL fun u12815 hu12815 => ?_)
        refine G_callS (As := [.long u12815]) (wr := [(q12699, .inr (10, [.ref q12700, .ref q12701, .ref q12702, .ref q12703, .int p12705, .int p12706, .int p12707])), (q12700, .inl (I .long, 480, .inr (.inl f12708))), (q12701, .inl (I .long, 480, .inr (.inl f12709))), (q12702, .inl (I .long, 480, .inr (.inl f12710))), (q12703, .inl (I .long, 12, .inr (.inl f12711)))]) (gV_ok D I) (ct_12720_Long_bitCount l hl0 D I u12815 ) d_cX5_liveBefore_26 ⟨w_4_93, w_1_31, w_4_95, by decide, rfl, (Nat.le_of_ble_eq_true rfl), (Nat.le_of_ble_eq_true rfl)⟩ w_4_94 [] [0, 1, 2, 3, 4] rfl rfl rfl rfl (by decide) (Nat.le_of_ble_eq_true rfl) (Nat.le_of_ble_eq_true rfl) (Nat.le_of_ble_eq_true rfl) (fun r w hp => ?_) (fun _ _ _ z => z.elim)
        obtain ⟨o12816, rfl, rfl, bo12816⟩ := hp
        change G _ _ _ _ _ _ _ (.int o12816 :: _) _ _ _
        refine G_ws (ws' := [(q12699, .inr (10, [.ref q12700, .ref q12701, .ref q12702, .ref q12703, .int p12705, .int p12706, .int p12707])), (q12700, .inl (I .long, 480, .inr (.inl f12708))), (q12701, .inl (I .long, 480, .inr (.inl f12709))), (q12702, .inl (I .long, 480, .inr (.inl f12710))), (q12703, .inl (I .long, 12, .inr (.inl f12711)))]) (cs' := 0) (sl' := 0) rfl rfl rfl ?_
        refine G_iadd d_cX5_liveBefore_29 (G_nam fun z12817 hz12817 => ?_)
        have bz12817 : gB z12817 (-2147483648) 2147483647 := gB_any z12817
        refine G_istore_n (L' := [(2, .int z12817), (3, .int g12808), (0, .ref q12699), (1, .int p12704)]) d_cX5_liveBefore_30 (Nat.le_of_ble_eq_true rfl) rfl ?_
        obtain ⟨z12818, hz12818⟩ : ∃ z : Int32, z = g12808 + Int32.ofInt 1 := ⟨_, rfl⟩
        have ez12818 : z12818.toInt = g12808.toInt + 1 := gI_inc hz12818 (by decide) bg12808' (by decide) (by decide)
        have bz12818 : gB z12818 1 12 := ⟨by omega, by omega⟩
        refine G_iinc (L' := [(3, .int z12818), (2, .int z12817), (0, .ref q12699), (1, .int p12704)]) z12818 1 d_cX5_liveBefore_31 rfl hz12818.symm (Nat.le_of_ble_eq_true rfl) rfl ?_
        refine G_goto 4 d_cX5_liveBefore_34 (by decide +kernel) ?_
        exact ih4_12809 z12818 z12817 (gB_w bz12818 (by decide) (by decide)) bz12817 (by omega)
  exact hlp4_12809 (((13 : Int) - 0).toNat + 1) 0 0 (gB_w (gBl (show Int32.toInt 0 = 0 by decide)) (by decide) (by decide)) (gB_w (gBl (show Int32.toInt 0 = 0 by decide)) (by decide) (by decide)) (Nat.lt_succ_self _)
abbrev ky_12834_Live_standing : gKey := (cX5_standing, 6, yX5_standing.cls, (some FieldType.long), [], yX5_standing.name, fun _ _ => True)
abbrev po_12834_Live_standing (I : FieldType → ClassId) (q12820 : Nat) (q12821 : Nat) (q12822 : Nat) (q12823 : Nat) (q12824 : Nat) (p12825 : Int32) (p12826 : Int32) (p12827 : Int32) (p12828 : Int32) (p12829 : Int32) (f12830 : Nat → Int64) (f12831 : Nat → Int64) (f12832 : Nat → Int64) (f12833 : Nat → Int64) : Option Value → va_W → Prop := fun r w => ∃ (ol12930 : Int64), r = some (.long ol12930) ∧ w = [(q12820, .inr (10, [.ref q12821, .ref q12822, .ref q12823, .ref q12824, .int p12827, .int p12828, .int p12829])), (q12821, .inl (I .long, 480, .inr (.inl f12830))), (q12822, .inl (I .long, 480, .inr (.inl f12831))), (q12823, .inl (I .long, 480, .inr (.inl f12832))), (q12824, .inl (I .long, 12, .inr (.inl f12833)))]
set_option maxRecDepth 100000 in
set_option maxHeartbeats 4000000 in
theorem ct_12834_Live_standing (l : Launch) (hl0 : l.stackTraces = false) (D : va_G) (I : FieldType → ClassId) (q12820 : Nat) (q12821 : Nat) (q12822 : Nat) (q12823 : Nat) (q12824 : Nat) (p12825 : Int32) (p12826 : Int32) (p12827 : Int32) (p12828 : Int32) (p12829 : Int32) (f12830 : Nat → Int64) (f12831 : Nat → Int64) (f12832 : Nat → Int64) (f12833 : Nat → Int64) (bp12825 : gB p12825 0 11) (bp12826 : gB p12826 0 40) (bp12827 : gB p12827 0 720) (bp12828 : gB p12828 0 12) (bp12829 : gB p12829 0 1) : Ct (gV D I) l yX5_standing cX5_standing 6 (some FieldType.long) 0 0 0 0 [.ref q12820, .int p12825, .int p12826] [(q12820, .inr (10, [.ref q12821, .ref q12822, .ref q12823, .ref q12824, .int p12827, .int p12828, .int p12829])), (q12821, .inl (I .long, 480, .inr (.inl f12830))), (q12822, .inl (I .long, 480, .inr (.inl f12831))), (q12823, .inl (I .long, 480, .inr (.inl f12832))), (q12824, .inl (I .long, 12, .inr (.inl f12833)))] (po_12834_Live_standing I q12820 q12821 q12822 q12823 q12824 p12825 p12826 p12827 p12828 p12829 f12830 f12831 f12832 f12833) gN := by
  refine Ct_of hl0 (by decide) (Nat.le_of_ble_eq_true rfl) ?_
  refine G_lconst 0 d_cX5_standing_0 rfl ?_
  refine G_lstore_n (L' := [(3, .long 0), (0, .ref q12820), (1, .int p12825), (2, .int p12826)]) d_cX5_standing_1 (Nat.le_of_ble_eq_true rfl) rfl ?_
  refine G_iconst 0 d_cX5_standing_2 (by decide +kernel) ?_
  refine G_istore (L' := [(5, .int 0), (3, .long 0), (0, .ref q12820), (1, .int p12825), (2, .int p12826)]) d_cX5_standing_3 (Nat.le_of_ble_eq_true rfl) rfl ?_
  have hlp5_12917 : ∀ (n5_12917 : Nat) (g12916 : Int32) (gl12917 : Int64), gB g12916 0 40 → ((41 : Int) - g12916.toInt).toNat < n5_12917 → G (gV D I) l (gRm 0 0 0 0) (gM (gV D I) (po_12834_Live_standing I q12820 q12821 q12822 q12823 q12824 p12825 p12826 p12827 p12828 p12829 f12830 f12831 f12832 f12833) gN 0 0) ky_12834_Live_standing 5 [(5, .int g12916), (3, .long gl12917), (0, .ref q12820), (1, .int p12825), (2, .int p12826)] [] [(q12820, .inr (10, [.ref q12821, .ref q12822, .ref q12823, .ref q12824, .int p12827, .int p12828, .int p12829])), (q12821, .inl (I .long, 480, .inr (.inl f12830))), (q12822, .inl (I .long, 480, .inr (.inl f12831))), (q12823, .inl (I .long, 480, .inr (.inl f12832))), (q12824, .inl (I .long, 12, .inr (.inl f12833)))] 0 0 := by
    intro n5_12917
    induction n5_12917 with
    | zero => intro g12916 gl12917 bg12916 hm5_12917; exact absurd hm5_12917 (Nat.not_lt_zero _)
    | succ n5_12917 ih5_12917 =>
      intro g12916 gl12917 bg12916 hm5_12917
      refine G_iload 0 d_cX5_standing_5 rfl ?_
      refine G_iload_n 4 d_cX5_standing_7 rfl ?_
      refine G_icmp_ge 49 d_cX5_standing_8 (by decide +kernel) (fun hc12918 => ?_) (fun hc12918 => ?_)
      · have r12919 : p12826.toInt ≤ g12916.toInt := gC_le hc12918
        refine G_lload_n 1 d_cX5_standing_49 rfl ?_
        exact G_lret d_cX5_standing_50 rfl (Nat.le_of_ble_eq_true rfl) (Nat.le_of_ble_eq_true rfl) ⟨gl12917, rfl, rfl⟩
      · have r12920 : g12916.toInt < p12826.toInt := gC_nle hc12918
        have bg12916' : gB g12916 0 39 := ⟨by omega, by omega⟩
        have bp12826' : gB p12826 1 40 := ⟨by omega, by omega⟩
        refine G_lload_n 1 d_cX5_standing_11 rfl ?_
        refine G_aload_n 2 d_cX5_standing_12 rfl ?_
        refine G_getf 0 1 d_cX5_standing_13 rfl (gk_X5 D I) (Nat.le_of_ble_eq_true rfl) w_2_23 rfl ?_
        refine G_iload 0 d_cX5_standing_16 rfl ?_
        refine G_aload_n 2 d_cX5_standing_18 rfl ?_
        refine G_getf 0 5 d_cX5_standing_19 rfl (gk_X5 D I) (Nat.le_of_ble_eq_true rfl) w_2_29 rfl ?_
        refine G_imul d_cX5_standing_22 (G_nam fun z12921 hz12921 => ?_)
        have ez12921 : z12921.toInt = g12916.toInt * p12828.toInt := by rw [gI_mul hz12921 bg12916' bp12828 (by decide) (by decide) (by decide)]
        have bz12921 : gB z12921 0 468 := gB_mul hz12921 bg12916' bp12828 (by decide) (by decide) (by decide) (by decide)
        refine G_iload_n 3 d_cX5_standing_23 rfl ?_
        refine G_iadd d_cX5_standing_24 (G_nam fun z12922 hz12922 => ?_)
        have ez12922 : z12922.toInt = z12921.toInt + p12825.toInt := by rw [gI_add hz12922 bz12921 bp12825 (by decide) (by decide)]
        have bz12922 : gB z12922 0 479 := gB_add (gI_add hz12922 bz12921 bp12825 (by decide) (by decide)) bz12921 bp12825 (by decide) (by decide)
        refine G_lald 2 2 d_cX5_standing_25 rfl rfl (gB_in bz12922 (by decide) (by decide)) (G_namL fun u12923 hu12923 => ?_)
        refine G_aload_n 2 d_cX5_standing_26 rfl ?_
        refine G_getf 0 2 d_cX5_standing_27 rfl (gk_X5 D I) (Nat.le_of_ble_eq_true rfl) w_2_24 rfl ?_
        refine G_iload 0 d_cX5_standing_30 rfl ?_
        refine G_aload_n 2 d_cX5_standing_32 rfl ?_
        refine G_getf 0 5 d_cX5_standing_33 rfl (gk_X5 D I) (Nat.le_of_ble_eq_true rfl) w_2_29 rfl ?_
        refine G_imul d_cX5_standing_36 (G_nam fun z12924 hz12924 => ?_)
        have ez12924 : z12924.toInt = g12916.toInt * p12828.toInt := by rw [gI_mul hz12924 bg12916' bp12828 (by decide) (by decide) (by decide)]
        have bz12924 : gB z12924 0 468 := gB_mul hz12924 bg12916' bp12828 (by decide) (by decide) (by decide) (by decide)
        refine G_iload_n 3 d_cX5_standing_37 rfl ?_
        refine G_iadd d_cX5_standing_38 (G_nam fun z12925 hz12925 => ?_)
        have ez12925 : z12925.toInt = z12924.toInt + p12825.toInt := by rw [gI_add hz12925 bz12924 bp12825 (by decide) (by decide)]
        have bz12925 : gB z12925 0 479 := gB_add (gI_add hz12925 bz12924 bp12825 (by decide) (by decide)) bz12924 bp12825 (by decide) (by decide)
        refine G_lald 3 2 d_cX5_standing_39 rfl rfl (gB_in bz12925 (by decide) (by decide)) (G_namL fun u12926 hu12926 => ?_)
        refine G_lor d_cX5_standing_40 (G_namL fun u12927 hu12927 => ?_)
        refine G_lor d_cX5_standing_41 (G_namL fun u12928 hu12928 => ?_)
        refine G_lstore_n (L' := [(3, .long u12928), (5, .int g12916), (0, .ref q12820), (1, .int p12825), (2, .int p12826)]) d_cX5_standing_42 (Nat.le_of_ble_eq_true rfl) rfl ?_
        obtain ⟨z12929, hz12929⟩ : ∃ z : Int32, z = g12916 + Int32.ofInt 1 := ⟨_, rfl⟩
        have ez12929 : z12929.toInt = g12916.toInt + 1 := gI_inc hz12929 (by decide) bg12916' (by decide) (by decide)
        have bz12929 : gB z12929 1 40 := ⟨by omega, by omega⟩
        refine G_iinc (L' := [(5, .int z12929), (3, .long u12928), (0, .ref q12820), (1, .int p12825), (2, .int p12826)]) z12929 1 d_cX5_standing_43 rfl hz12929.symm (Nat.le_of_ble_eq_true rfl) rfl ?_
        refine G_goto 5 d_cX5_standing_46 (by decide +kernel) ?_
        exact ih5_12917 z12929 u12928 (gB_w bz12929 (by decide) (by decide)) (by omega)
  exact hlp5_12917 (((41 : Int) - 0).toNat + 1) 0 0 (gB_w (gBl (show Int32.toInt 0 = 0 by decide)) (by decide) (by decide)) (Nat.lt_succ_self _)
abbrev ky_12968_String_coder : gKey := (cJ0_coder_7d493, 1, yJ0_coder_7d493.cls, (some FieldType.byte), [], yJ0_coder_7d493.name, fun _ _ => True)
abbrev po_12968_String_coder (I : FieldType → ClassId) (qs12965 : Nat) (qb12966 : Nat) (bs12967 : List Int32) : Option Value → va_W → Prop := fun r w => r = some (.int 0) ∧ w = []
set_option maxRecDepth 100000 in
set_option maxHeartbeats 4000000 in
theorem ct_12968_String_coder (l : Launch) (hl0 : l.stackTraces = false) (D : va_G) (I : FieldType → ClassId) (qs12965 : Nat) (qb12966 : Nat) (bs12967 : List Int32) (hbs12967 : ∀ A s H, (gV D I).2.2.2.1 A s H → gSC qs12965 qb12966 bs12967 A s H) (nbs12967 : (bs12967.length : Int) ≤ 65535) : Ct (gV D I) l yJ0_coder_7d493 cJ0_coder_7d493 1 (some FieldType.byte) 0 0 0 0 [.ref qs12965] [] (po_12968_String_coder I qs12965 qb12966 bs12967) gN := by
  refine Ct_ofF hl0 (by decide +kernel) (Nat.le_of_ble_eq_true rfl) ?_
  refine G_gets d_cJ0_coder_7d493_0 w_3_65 gz_cs (fun x hx => ?_)
  subst hx
  refine G_if_eq 13 d_cJ0_coder_7d493_3 (by decide +kernel) (fun hc => absurd hc (by decide)) (fun _ => ?_)
  refine G_aload_n 0 d_cJ0_coder_7d493_6 rfl ?_
  refine G_kget d_cJ0_coder_7d493_7 w_8_183 (fun _ _ _ h => (hbs12967 _ _ _ h).2.1) ?_
  refine G_goto 14 d_cJ0_coder_7d493_10 (by decide +kernel) ?_
  exact G_zret FieldType.byte d_cJ0_coder_7d493_14 rfl rfl (Nat.le_of_ble_eq_true rfl) (Nat.le_of_ble_eq_true rfl) ⟨rfl, rfl⟩
abbrev ky_12963_String_length : gKey := (cJ0_length_8abf5, 1, yJ0_length_8abf5.cls, (some FieldType.int), [], yJ0_length_8abf5.name, fun _ _ => True)
abbrev po_12963_String_length (I : FieldType → ClassId) (qs12960 : Nat) (qb12961 : Nat) (bs12962 : List Int32) : Option Value → va_W → Prop := fun r w => ∃ (o12970 : Int32), r = some (.int o12970) ∧ w = [] ∧ gB o12970 0 65535 ∧ o12970.toInt = (bs12962.length : Int)
set_option maxRecDepth 100000 in
set_option maxHeartbeats 4000000 in
theorem ct_12963_String_length (l : Launch) (hl0 : l.stackTraces = false) (D : va_G) (I : FieldType → ClassId) (qs12960 : Nat) (qb12961 : Nat) (bs12962 : List Int32) (hbs12962 : ∀ A s H, (gV D I).2.2.2.1 A s H → gSC qs12960 qb12961 bs12962 A s H) (nbs12962 : (bs12962.length : Int) ≤ 65535) : Ct (gV D I) l yJ0_length_8abf5 cJ0_length_8abf5 1 (some FieldType.int) 1 20 0 0 [.ref qs12960] [] (po_12963_String_length I qs12960 qb12961 bs12962) gN := by
  refine Ct_ofF hl0 (by decide +kernel) (Nat.le_of_ble_eq_true rfl) ?_
  refine G_aload_n 0 d_cJ0_length_8abf5_0 rfl ?_
  refine G_kget d_cJ0_length_8abf5_1 w_8_182 (fun _ _ _ h => (hbs12962 _ _ _ h).2.2.1) ?_
  refine G_klen d_cJ0_length_8abf5_4 (fun _ _ _ h => (hbs12962 _ _ _ h).2.2.2) (G_nam fun z12964 hz12964 => ?_)
  have ez12964 : z12964.toInt = (bs12962.length : Int) := gI_ofN hz12964 (by omega)
  have bz12964 : gB z12964 0 65535 := ⟨by omega, by omega⟩
  refine G_aload_n 0 d_cJ0_length_8abf5_5 rfl ?_
  refine G_callVk (As := []) (wr := []) (gV_ok D I) (ct_12968_String_coder l hl0 D I qs12960 qb12961 bs12962 hbs12962 nbs12962) d_cJ0_length_8abf5_6 ⟨w_3_61, w_1_21, w_3_64, by decide, rfl, (Nat.le_of_ble_eq_true rfl), (Nat.le_of_ble_eq_true rfl)⟩ w_3_62 w_3_63 (fun _ _ _ h => (hbs12962 _ _ _ h).1) [] [] rfl rfl rfl rfl (by decide) (Nat.le_of_ble_eq_true rfl) (Nat.le_of_ble_eq_true rfl) (Nat.le_of_ble_eq_true rfl) (fun r w hp => ?_) (fun _ _ _ z => z.elim)
  obtain ⟨rfl, rfl⟩ := hp
  change G _ _ _ _ _ _ _ (.int 0 :: _) _ _ _
  refine G_ws (ws' := []) (cs' := 0) (sl' := 0) rfl rfl rfl ?_
  refine G_ishr d_cJ0_length_8abf5_9 (G_nam fun z12969 hz12969 => ?_)
  have ez12969 : z12969.toInt = z12964.toInt / 1 := gI_shr (k := 0) hz12969 (by decide)
  have bz12969 : gB z12969 0 65535 := ⟨by omega, by omega⟩
  exact G_iret d_cJ0_length_8abf5_10 rfl (Nat.le_of_ble_eq_true rfl) (Nat.le_of_ble_eq_true rfl) ⟨z12969, rfl, rfl, bz12969, (by omega)⟩
abbrev ky_12998_String_isLatin1 : gKey := (cJ0_isLatin1_aae02, 1, yJ0_isLatin1_aae02.cls, (some FieldType.boolean), [], yJ0_isLatin1_aae02.name, fun _ _ => True)
abbrev po_12998_String_isLatin1 (I : FieldType → ClassId) (qs12995 : Nat) (qb12996 : Nat) (bs12997 : List Int32) : Option Value → va_W → Prop := fun r w => r = some (.int 1) ∧ w = []
set_option maxRecDepth 100000 in
set_option maxHeartbeats 4000000 in
theorem ct_12998_String_isLatin1 (l : Launch) (hl0 : l.stackTraces = false) (D : va_G) (I : FieldType → ClassId) (qs12995 : Nat) (qb12996 : Nat) (bs12997 : List Int32) (hbs12997 : ∀ A s H, (gV D I).2.2.2.1 A s H → gSC qs12995 qb12996 bs12997 A s H) (nbs12997 : (bs12997.length : Int) ≤ 65535) : Ct (gV D I) l yJ0_isLatin1_aae02 cJ0_isLatin1_aae02 1 (some FieldType.boolean) 0 0 0 0 [.ref qs12995] [] (po_12998_String_isLatin1 I qs12995 qb12996 bs12997) gN := by
  refine Ct_ofF hl0 (by decide +kernel) (Nat.le_of_ble_eq_true rfl) ?_
  refine G_gets d_cJ0_isLatin1_aae02_0 w_3_65 gz_cs (fun x hx => ?_)
  subst hx
  refine G_if_eq 17 d_cJ0_isLatin1_aae02_3 (by decide +kernel) (fun hc => absurd hc (by decide)) (fun _ => ?_)
  refine G_aload_n 0 d_cJ0_isLatin1_aae02_6 rfl ?_
  refine G_kget d_cJ0_isLatin1_aae02_7 w_8_183 (fun _ _ _ h => (hbs12997 _ _ _ h).2.1) ?_
  refine G_if_ne 17 d_cJ0_isLatin1_aae02_10 (by decide +kernel) (fun hc => absurd hc (by decide)) (fun _ => ?_)
  refine G_iconst 1 d_cJ0_isLatin1_aae02_13 (by decide +kernel) ?_
  refine G_goto 18 d_cJ0_isLatin1_aae02_14 (by decide +kernel) ?_
  exact G_zret FieldType.boolean d_cJ0_isLatin1_aae02_18 rfl rfl (Nat.le_of_ble_eq_true rfl) (Nat.le_of_ble_eq_true rfl) ⟨rfl, rfl⟩
abbrev ky_13016_Preconditions_checkIndex : gKey := (cJ3_checkIndex_8e157, 3, yJ3_checkIndex_8e157.cls, (some FieldType.int), [], yJ3_checkIndex_8e157.name, fun _ _ => True)
abbrev po_13016_Preconditions_checkIndex (I : FieldType → ClassId) (p13012 : Int32) (p13013 : Int32) : Option Value → va_W → Prop := fun r w => r = some (.int p13012) ∧ w = []
set_option maxRecDepth 100000 in
set_option maxHeartbeats 4000000 in
theorem ct_13016_Preconditions_checkIndex (l : Launch) (hl0 : l.stackTraces = false) (D : va_G) (I : FieldType → ClassId) (p13012 : Int32) (p13013 : Int32) (x13014 : 0 ≤ p13012.toInt) (x13015 : p13012.toInt < p13013.toInt) : Ct (gV D I) l yJ3_checkIndex_8e157 cJ3_checkIndex_8e157 3 (some FieldType.int) 0 0 0 0 [.int p13012, .int p13013, .null] [] (po_13016_Preconditions_checkIndex I p13012 p13013) gN := by
  refine Ct_of hl0 (by decide) (Nat.le_of_ble_eq_true rfl) ?_
  have bp13012 := gB_any p13012
  have bp13013 := gB_any p13013
  refine G_iload_n 0 d_cJ3_checkIndex_8e157_0 rfl ?_
  refine G_if_lt 9 d_cJ3_checkIndex_8e157_1 (by decide +kernel) (fun hc13017 => ?_) (fun hc13017 => ?_)
  · have r13018 : p13012.toInt < 0 := gj_lt hc13017 (show Int32.toInt 0 = 0 by decide)
    have bp13012' : gB p13012 (-2147483648) (-1) := ⟨by omega, by omega⟩
    exact absurd (show False by omega) not_false
  · have r13019 : 0 ≤ p13012.toInt := gj_nlt hc13017 (show Int32.toInt 0 = 0 by decide)
    have bp13012' : gB p13012 0 2147483647 := ⟨by omega, by omega⟩
    refine G_iload_n 0 d_cJ3_checkIndex_8e157_4 rfl ?_
    refine G_iload_n 1 d_cJ3_checkIndex_8e157_5 rfl ?_
    refine G_icmp_lt 16 d_cJ3_checkIndex_8e157_6 (by decide +kernel) (fun hc13020 => ?_) (fun hc13020 => ?_)
    · have r13021 : p13012.toInt < p13013.toInt := gC_lt hc13020
      have bp13012'' : gB p13012 0 2147483646 := ⟨by omega, by omega⟩
      have bp13013' : gB p13013 1 2147483647 := ⟨by omega, by omega⟩
      refine G_iload_n 0 d_cJ3_checkIndex_8e157_16 rfl ?_
      exact G_iret d_cJ3_checkIndex_8e157_17 rfl (Nat.le_of_ble_eq_true rfl) (Nat.le_of_ble_eq_true rfl) ⟨rfl, rfl⟩
    · have r13022 : p13013.toInt ≤ p13012.toInt := gC_nlt hc13020
      exact absurd (show False by omega) not_false
abbrev ky_13028_Preconditions_checkIndex : gKey := (cJ3_checkIndex_8e157, 3, yJ3_checkIndex_8e157.cls, (some FieldType.int), [], yJ3_checkIndex_8e157.name, fun _ _ => True)
abbrev po_13028_Preconditions_checkIndex (I : FieldType → ClassId) (p13023 : Int32) (p13024 : Int32) (qo13025 : Nat) : Option Value → va_W → Prop := fun r w => r = some (.int p13023) ∧ w = []
set_option maxRecDepth 100000 in
set_option maxHeartbeats 4000000 in
theorem ct_13028_Preconditions_checkIndex (l : Launch) (hl0 : l.stackTraces = false) (D : va_G) (I : FieldType → ClassId) (p13023 : Int32) (p13024 : Int32) (qo13025 : Nat) (x13026 : 0 ≤ p13023.toInt) (x13027 : p13023.toInt < p13024.toInt) : Ct (gV D I) l yJ3_checkIndex_8e157 cJ3_checkIndex_8e157 3 (some FieldType.int) 0 0 0 0 [.int p13023, .int p13024, .ref qo13025] [] (po_13028_Preconditions_checkIndex I p13023 p13024 qo13025) gN := by
  refine Ct_of hl0 (by decide) (Nat.le_of_ble_eq_true rfl) ?_
  have bp13023 := gB_any p13023
  have bp13024 := gB_any p13024
  refine G_iload_n 0 d_cJ3_checkIndex_8e157_0 rfl ?_
  refine G_if_lt 9 d_cJ3_checkIndex_8e157_1 (by decide +kernel) (fun hc13029 => ?_) (fun hc13029 => ?_)
  · have r13030 : p13023.toInt < 0 := gj_lt hc13029 (show Int32.toInt 0 = 0 by decide)
    have bp13023' : gB p13023 (-2147483648) (-1) := ⟨by omega, by omega⟩
    exact absurd (show False by omega) not_false
  · have r13031 : 0 ≤ p13023.toInt := gj_nlt hc13029 (show Int32.toInt 0 = 0 by decide)
    have bp13023' : gB p13023 0 2147483647 := ⟨by omega, by omega⟩
    refine G_iload_n 0 d_cJ3_checkIndex_8e157_4 rfl ?_
    refine G_iload_n 1 d_cJ3_checkIndex_8e157_5 rfl ?_
    refine G_icmp_lt 16 d_cJ3_checkIndex_8e157_6 (by decide +kernel) (fun hc13032 => ?_) (fun hc13032 => ?_)
    · have r13033 : p13023.toInt < p13024.toInt := gC_lt hc13032
      have bp13023'' : gB p13023 0 2147483646 := ⟨by omega, by omega⟩
      have bp13024' : gB p13024 1 2147483647 := ⟨by omega, by omega⟩
      refine G_iload_n 0 d_cJ3_checkIndex_8e157_16 rfl ?_
      exact G_iret d_cJ3_checkIndex_8e157_17 rfl (Nat.le_of_ble_eq_true rfl) (Nat.le_of_ble_eq_true rfl) ⟨rfl, rfl⟩
    · have r13034 : p13024.toInt ≤ p13023.toInt := gC_nlt hc13032
      exact absurd (show False by omega) not_false
abbrev ky_13010_String_checkIndex : gKey := (cJ0_checkIndex_df160, 2, yJ0_checkIndex_df160.cls, none, [], yJ0_checkIndex_df160.name, fun _ _ => True)
abbrev po_13010_String_checkIndex (I : FieldType → ClassId) (p13006 : Int32) (p13007 : Int32) : Option Value → va_W → Prop := fun r w => r = none ∧ w = []
set_option maxRecDepth 100000 in
set_option maxHeartbeats 4000000 in
theorem ct_13010_String_checkIndex (l : Launch) (hl0 : l.stackTraces = false) (D : va_G) (I : FieldType → ClassId) (p13006 : Int32) (p13007 : Int32) (x13008 : 0 ≤ p13006.toInt) (x13009 : p13006.toInt < p13007.toInt) : Ct (gV D I) l yJ0_checkIndex_df160 cJ0_checkIndex_df160 2 none 1 22 0 0 [.int p13006, .int p13007] [] (po_13010_String_checkIndex I p13006 p13007) gN := by
  refine Ct_ofF hl0 (by decide +kernel) (Nat.le_of_ble_eq_true rfl) ?_
  have bp13006 := gB_any p13006
  have bp13007 := gB_any p13007
  refine G_iload_n 0 d_cJ0_checkIndex_df160_0 rfl ?_
  refine G_iload_n 1 d_cJ0_checkIndex_df160_1 rfl ?_
  refine G_gets d_cJ0_checkIndex_df160_2 w_3_81 gz_pf (fun x hx => ?_)
  rcases hx with rfl | ⟨t13011, rfl⟩
  · refine G_callS (As := [.int p13006, .int p13007, .null]) (wr := []) (gV_ok D I) (ct_13016_Preconditions_checkIndex l hl0 D I p13006 p13007 (by omega) (by omega)) d_cJ0_checkIndex_df160_5 ⟨w_3_83, w_1_29, w_3_85, by decide, rfl, (Nat.le_of_ble_eq_true rfl), (Nat.le_of_ble_eq_true rfl)⟩ w_3_84 [] [] rfl rfl rfl rfl (by decide) (Nat.le_of_ble_eq_true rfl) (Nat.le_of_ble_eq_true rfl) (Nat.le_of_ble_eq_true rfl) (fun r w hp => ?_) (fun _ _ _ z => z.elim)
    obtain ⟨rfl, rfl⟩ := hp
    change G _ _ _ _ _ _ _ (.int p13006 :: _) _ _ _
    refine G_ws (ws' := []) (cs' := 0) (sl' := 0) rfl rfl rfl ?_
    refine G_pop d_cJ0_checkIndex_df160_8 rfl ?_
    exact G_vret d_cJ0_checkIndex_df160_9 rfl (Nat.le_of_ble_eq_true rfl) (Nat.le_of_ble_eq_true rfl) ⟨rfl, rfl⟩
  · refine G_callS (As := [.int p13006, .int p13007, .ref t13011]) (wr := []) (gV_ok D I) (ct_13028_Preconditions_checkIndex l hl0 D I p13006 p13007 t13011 (by omega) (by omega)) d_cJ0_checkIndex_df160_5 ⟨w_3_83, w_1_29, w_3_85, by decide, rfl, (Nat.le_of_ble_eq_true rfl), (Nat.le_of_ble_eq_true rfl)⟩ w_3_84 [] [] rfl rfl rfl rfl (by decide) (Nat.le_of_ble_eq_true rfl) (Nat.le_of_ble_eq_true rfl) (Nat.le_of_ble_eq_true rfl) (fun r w hp => ?_) (fun _ _ _ z => z.elim)
    obtain ⟨rfl, rfl⟩ := hp
    change G _ _ _ _ _ _ _ (.int p13006 :: _) _ _ _
    refine G_ws (ws' := []) (cs' := 0) (sl' := 0) rfl rfl rfl ?_
    refine G_pop d_cJ0_checkIndex_df160_8 rfl ?_
    exact G_vret d_cJ0_checkIndex_df160_9 rfl (Nat.le_of_ble_eq_true rfl) (Nat.le_of_ble_eq_true rfl) ⟨rfl, rfl⟩
abbrev ky_13004_StringLatin1_charAt : gKey := (cJ1_charAt_3b067, 2, yJ1_charAt_3b067.cls, (some FieldType.char), [], yJ1_charAt_3b067.name, fun _ _ => True)
abbrev po_13004_StringLatin1_charAt (I : FieldType → ClassId) (qs12999 : Nat) (bs13000 : List Int32) (p13001 : Int32) : Option Value → va_W → Prop := fun r w => ∃ (o13038 : Int32), r = some (.int o13038) ∧ w = [] ∧ gB o13038 0 65535
set_option maxRecDepth 100000 in
set_option maxHeartbeats 4000000 in
theorem ct_13004_StringLatin1_charAt (l : Launch) (hl0 : l.stackTraces = false) (D : va_G) (I : FieldType → ClassId) (qs12999 : Nat) (bs13000 : List Int32) (p13001 : Int32) (hbs13000 : ∀ A s H, (gV D I).2.2.2.1 A s H → va_T .byte qs12999 bs13000.length (fun j => .int (bs13000.getD j 0)) A s H) (nbs13000 : (bs13000.length : Int) ≤ 65535) (x13002 : 0 ≤ p13001.toInt) (x13003 : p13001.toInt < (bs13000.length : Int)) : Ct (gV D I) l yJ1_charAt_3b067 cJ1_charAt_3b067 2 (some FieldType.char) 2 43 0 0 [.ref qs12999, .int p13001] [] (po_13004_StringLatin1_charAt I qs12999 bs13000 p13001) gN := by
  refine Ct_ofF hl0 (by decide +kernel) (Nat.le_of_ble_eq_true rfl) ?_
  have bp13001 := gB_any p13001
  refine G_iload_n 1 d_cJ1_charAt_3b067_0 rfl ?_
  refine G_aload_n 0 d_cJ1_charAt_3b067_1 rfl ?_
  refine G_klen d_cJ1_charAt_3b067_2 hbs13000 (G_nam fun z13005 hz13005 => ?_)
  have ez13005 : z13005.toInt = (bs13000.length : Int) := gI_ofN hz13005 nbs13000
  have bz13005 : gB z13005 0 65535 := ⟨by omega, by omega⟩
  refine G_callS (As := [.int p13001, .int z13005]) (wr := []) (gV_ok D I) (ct_13010_String_checkIndex l hl0 D I p13001 z13005 (by omega) (by omega)) d_cJ1_charAt_3b067_3 ⟨w_3_78, w_1_21, w_3_80, by decide, rfl, (Nat.le_of_ble_eq_true rfl), (Nat.le_of_ble_eq_true rfl)⟩ w_3_79 [] [] rfl rfl rfl rfl (by decide) (Nat.le_of_ble_eq_true rfl) (Nat.le_of_ble_eq_true rfl) (Nat.le_of_ble_eq_true rfl) (fun r w hp => ?_) (fun _ _ _ z => z.elim)
  obtain ⟨rfl, rfl⟩ := hp
  change G _ _ _ _ _ _ _ _ _ _ _
  refine G_ws (ws' := []) (cs' := 0) (sl' := 0) rfl rfl rfl ?_
  refine G_aload_n 0 d_cJ1_charAt_3b067_6 rfl ?_
  refine G_iload_n 1 d_cJ1_charAt_3b067_7 rfl ?_
  refine G_kbald (f := fun j => bs13000.getD j 0) d_cJ1_charAt_3b067_8 hbs13000 (gB_inr (by omega) (by omega)) (G_nam fun z13035 hz13035 => ?_)
  have bz13035 : gB z13035 (-2147483648) 2147483647 := gB_any z13035
  refine G_sipush 255 d_cJ1_charAt_3b067_9 (by decide +kernel) ?_
  refine G_iand d_cJ1_charAt_3b067_12 (G_nam fun z13036 hz13036 => ?_)
  have bz13036 : gB z13036 0 255 := gB_and hz13036 (gBl (show Int32.toInt 255 = 255 by decide)) (by decide)
  refine G_i2c d_cJ1_charAt_3b067_13 (G_nam fun z13037 hz13037 => ?_)
  have bz13037 : gB z13037 0 65535 := gB_i2c hz13037
  exact G_zret FieldType.char d_cJ1_charAt_3b067_14 rfl (gN_char bz13037) (Nat.le_of_ble_eq_true rfl) (Nat.le_of_ble_eq_true rfl) ⟨z13037, rfl, rfl, bz13037⟩
abbrev ky_12994_String_charAt : gKey := (cJ0_charAt_5068e, 2, yJ0_charAt_5068e.cls, (some FieldType.char), [], yJ0_charAt_5068e.name, fun _ _ => True)
abbrev po_12994_String_charAt (I : FieldType → ClassId) (qs12988 : Nat) (qb12989 : Nat) (bs12990 : List Int32) (p12991 : Int32) : Option Value → va_W → Prop := fun r w => ∃ (o13040 : Int32), r = some (.int o13040) ∧ w = [] ∧ gB o13040 0 65535
set_option maxRecDepth 100000 in
set_option maxHeartbeats 4000000 in
theorem ct_12994_String_charAt (l : Launch) (hl0 : l.stackTraces = false) (D : va_G) (I : FieldType → ClassId) (qs12988 : Nat) (qb12989 : Nat) (bs12990 : List Int32) (p12991 : Int32) (hbs12990 : ∀ A s H, (gV D I).2.2.2.1 A s H → gSC qs12988 qb12989 bs12990 A s H) (nbs12990 : (bs12990.length : Int) ≤ 65535) (x12992 : 0 ≤ p12991.toInt) (x12993 : p12991.toInt < (bs12990.length : Int)) : Ct (gV D I) l yJ0_charAt_5068e cJ0_charAt_5068e 2 (some FieldType.char) 3 64 0 0 [.ref qs12988, .int p12991] [] (po_12994_String_charAt I qs12988 qb12989 bs12990 p12991) gN := by
  refine Ct_ofF hl0 (by decide +kernel) (Nat.le_of_ble_eq_true rfl) ?_
  have bp12991 := gB_any p12991
  refine G_aload_n 0 d_cJ0_charAt_5068e_0 rfl ?_
  refine G_callVk (As := []) (wr := []) (gV_ok D I) (ct_12998_String_isLatin1 l hl0 D I qs12988 qb12989 bs12990 hbs12990 nbs12990) d_cJ0_charAt_5068e_1 ⟨w_3_71, w_1_21, w_3_74, by decide, rfl, (Nat.le_of_ble_eq_true rfl), (Nat.le_of_ble_eq_true rfl)⟩ w_3_72 w_3_73 (fun _ _ _ h => (hbs12990 _ _ _ h).1) [] [] rfl rfl rfl rfl (by decide) (Nat.le_of_ble_eq_true rfl) (Nat.le_of_ble_eq_true rfl) (Nat.le_of_ble_eq_true rfl) (fun r w hp => ?_) (fun _ _ _ z => z.elim)
  obtain ⟨rfl, rfl⟩ := hp
  change G _ _ _ _ _ _ _ (.int 1 :: _) _ _ _
  refine G_ws (ws' := []) (cs' := 0) (sl' := 0) rfl rfl rfl ?_
  refine G_if_eq 16 d_cJ0_charAt_5068e_4 (by decide +kernel) (fun hc => absurd hc (by decide)) (fun _ => ?_)
  refine G_aload_n 0 d_cJ0_charAt_5068e_7 rfl ?_
  refine G_kget d_cJ0_charAt_5068e_8 w_8_182 (fun _ _ _ h => (hbs12990 _ _ _ h).2.2.1) ?_
  refine G_iload_n 1 d_cJ0_charAt_5068e_11 rfl ?_
  refine G_callS (As := [.ref qb12989, .int p12991]) (wr := []) (gV_ok D I) (ct_13004_StringLatin1_charAt l hl0 D I qb12989 bs12990 p12991 (fun _ _ _ h => (hbs12990 _ _ _ h).2.2.2) (by omega) (by omega) (by omega)) d_cJ0_charAt_5068e_12 ⟨w_3_75, w_1_28, w_3_77, by decide, rfl, (Nat.le_of_ble_eq_true rfl), (Nat.le_of_ble_eq_true rfl)⟩ w_3_76 [] [] rfl rfl rfl rfl (by decide) (Nat.le_of_ble_eq_true rfl) (Nat.le_of_ble_eq_true rfl) (Nat.le_of_ble_eq_true rfl) (fun r w hp => ?_) (fun _ _ _ z => z.elim)
  obtain ⟨o13039, rfl, rfl, bo13039⟩ := hp
  change G _ _ _ _ _ _ _ (.int o13039 :: _) _ _ _
  refine G_ws (ws' := []) (cs' := 0) (sl' := 0) rfl rfl rfl ?_
  exact G_zret FieldType.char d_cJ0_charAt_5068e_15 rfl (gN_char bo13039) (Nat.le_of_ble_eq_true rfl) (Nat.le_of_ble_eq_true rfl) ⟨o13039, rfl, rfl, bo13039⟩
abbrev ky_12958_Signs_isWord : gKey := (cX9_isWord, 3, yX9_isWord.cls, (some FieldType.boolean), [], yX9_isWord.name, fun _ _ => True)
abbrev po_12958_Signs_isWord (I : FieldType → ClassId) (q12945 : Nat) (q12946 : Nat) (q12947 : Nat) (qs12948 : Nat) (qb12949 : Nat) (bs12950 : List Int32) (p12951 : Int32) (p12952 : Int32) (p12953 : Int32) (p12954 : Int32) (p12955 : Int32) (f12956 : Nat → Int32) : Option Value → va_W → Prop := fun r w => ∃ (o13174 : Int32), r = some (.int o13174) ∧ w = [(q12945, .inr (14, [.ref q12946, .int p12951, .int p12952, .int p12953, .int p12954])), (q12946, .inr (15, [.ref q12947, .int p12955])), (q12947, .inl (I .byte, 8192, .inl f12956))] ∧ gB o13174 0 1
set_option maxRecDepth 100000 in
set_option maxHeartbeats 4000000 in
theorem ct_12958_Signs_isWord (l : Launch) (hl0 : l.stackTraces = false) (D : va_G) (I : FieldType → ClassId) (q12945 : Nat) (q12946 : Nat) (q12947 : Nat) (qs12948 : Nat) (qb12949 : Nat) (bs12950 : List Int32) (p12951 : Int32) (p12952 : Int32) (p12953 : Int32) (p12954 : Int32) (p12955 : Int32) (f12956 : Nat → Int32) (hbs12950 : ∀ A s H, (gV D I).2.2.2.1 A s H → gSC qs12948 qb12949 bs12950 A s H) (nbs12950 : (bs12950.length : Int) ≤ 65535) (bp12955 : gB p12955 0 8192) (bf12956 : gF f12956 (-128) 127) (x12957 : (p12951.toInt ≠ 5 ∨ (0 ≤ p12952.toInt ∧ p12952.toInt ≤ 13))) : Ct (gV D I) l yX9_isWord cX9_isWord 3 (some FieldType.boolean) 4 85 0 0 [.ref q12945, .ref qs12948] [(q12945, .inr (14, [.ref q12946, .int p12951, .int p12952, .int p12953, .int p12954])), (q12946, .inr (15, [.ref q12947, .int p12955])), (q12947, .inl (I .byte, 8192, .inl f12956))] (po_12958_Signs_isWord I q12945 q12946 q12947 qs12948 qb12949 bs12950 p12951 p12952 p12953 p12954 p12955 f12956) gN := by
  refine Ct_of hl0 (by decide) (Nat.le_of_ble_eq_true rfl) ?_
  have bp12951 := gB_any p12951
  have bp12952 := gB_any p12952
  have bp12953 := gB_any p12953
  have bp12954 := gB_any p12954
  refine G_aload_n 0 d_cX9_isWord_0 rfl ?_
  refine G_getf 0 4 d_cX9_isWord_1 rfl (gk_X9 D I) (Nat.le_of_ble_eq_true rfl) w_1_83 rfl ?_
  refine G_aload_n 0 d_cX9_isWord_4 rfl ?_
  refine G_getf 0 3 d_cX9_isWord_5 rfl (gk_X9 D I) (Nat.le_of_ble_eq_true rfl) w_1_82 rfl ?_
  refine G_isub d_cX9_isWord_8 (G_nam fun z12959 hz12959 => ?_)
  have bz12959 : gB z12959 (-2147483648) 2147483647 := gB_any z12959
  refine G_aload_n 1 d_cX9_isWord_9 rfl ?_
  refine G_callVk (As := []) (wr := [(q12945, .inr (14, [.ref q12946, .int p12951, .int p12952, .int p12953, .int p12954])), (q12946, .inr (15, [.ref q12947, .int p12955])), (q12947, .inl (I .byte, 8192, .inl f12956))]) (gV_ok D I) (ct_12963_String_length l hl0 D I qs12948 qb12949 bs12950 hbs12950 nbs12950) d_cX9_isWord_10 ⟨w_3_57, w_1_21, w_3_60, by decide, rfl, (Nat.le_of_ble_eq_true rfl), (Nat.le_of_ble_eq_true rfl)⟩ w_3_58 w_3_59 (fun _ _ _ h => (hbs12950 _ _ _ h).1) [] [0, 1, 2] rfl rfl rfl rfl (by decide) (Nat.le_of_ble_eq_true rfl) (Nat.le_of_ble_eq_true rfl) (Nat.le_of_ble_eq_true rfl) (fun r w hp => ?_) (fun _ _ _ z => z.elim)
  obtain ⟨o12971, rfl, rfl, bo12971, x12972⟩ := hp
  change G _ _ _ _ _ _ _ (.int o12971 :: _) _ _ _
  refine G_ws (ws' := [(q12945, .inr (14, [.ref q12946, .int p12951, .int p12952, .int p12953, .int p12954])), (q12946, .inr (15, [.ref q12947, .int p12955])), (q12947, .inl (I .byte, 8192, .inl f12956))]) (cs' := 0) (sl' := 0) rfl rfl rfl ?_
  refine G_icmp_eq 18 d_cX9_isWord_13 (by decide +kernel) (fun hc12973 => ?_) (fun hc12973 => ?_)
  · have r12974 : z12959.toInt = o12971.toInt := gC_eq hc12973
    have bz12959' : gB z12959 0 65535 := ⟨by omega, by omega⟩
    refine G_iconst 0 d_cX9_isWord_18 (by decide +kernel) ?_
    refine G_istore_n (L' := [(2, .int 0), (0, .ref q12945), (1, .ref qs12948)]) d_cX9_isWord_19 (Nat.le_of_ble_eq_true rfl) rfl ?_
    have hlp20_13152 : ∀ (n20_13152 : Nat) (g13152 : Int32), gB g13152 0 65535 → ((65536 : Int) - g13152.toInt).toNat < n20_13152 → G (gV D I) l (gRm 4 85 0 0) (gM (gV D I) (po_12958_Signs_isWord I q12945 q12946 q12947 qs12948 qb12949 bs12950 p12951 p12952 p12953 p12954 p12955 f12956) gN 0 0) ky_12958_Signs_isWord 20 [(2, .int g13152), (0, .ref q12945), (1, .ref qs12948)] [] [(q12945, .inr (14, [.ref q12946, .int p12951, .int p12952, .int p12953, .int p12954])), (q12946, .inr (15, [.ref q12947, .int p12955])), (q12947, .inl (I .byte, 8192, .inl f12956))] 0 0 := by
      intro n20_13152
      induction n20_13152 with
      | zero => intro g13152 bg13152 hm20_13152; exact absurd hm20_13152 (Nat.not_lt_zero _)
      | succ n20_13152 ih20_13152 =>
        intro g13152 bg13152 hm20_13152
        refine G_iload_n 0 d_cX9_isWord_20 rfl ?_
        refine G_aload_n 2 d_cX9_isWord_21 rfl ?_
        refine G_callVk (As := []) (wr := [(q12945, .inr (14, [.ref q12946, .int p12951, .int p12952, .int p12953, .int p12954])), (q12946, .inr (15, [.ref q12947, .int p12955])), (q12947, .inl (I .byte, 8192, .inl f12956))]) (gV_ok D I) (ct_12963_String_length l hl0 D I qs12948 qb12949 bs12950 hbs12950 nbs12950) d_cX9_isWord_22 ⟨w_3_57, w_1_21, w_3_60, by decide, rfl, (Nat.le_of_ble_eq_true rfl), (Nat.le_of_ble_eq_true rfl)⟩ w_3_58 w_3_59 (fun _ _ _ h => (hbs12950 _ _ _ h).1) [] [0, 1, 2] rfl rfl rfl rfl (by decide) (Nat.le_of_ble_eq_true rfl) (Nat.le_of_ble_eq_true rfl) (Nat.le_of_ble_eq_true rfl) (fun r w hp => ?_) (fun _ _ _ z => z.elim)
        obtain ⟨o13153, rfl, rfl, bo13153, x13154⟩ := hp
        change G _ _ _ _ _ _ _ (.int o13153 :: _) _ _ _
        refine G_ws (ws' := [(q12945, .inr (14, [.ref q12946, .int p12951, .int p12952, .int p12953, .int p12954])), (q12946, .inr (15, [.ref q12947, .int p12955])), (q12947, .inl (I .byte, 8192, .inl f12956))]) (cs' := 0) (sl' := 0) rfl rfl rfl ?_
        refine G_icmp_ge 57 d_cX9_isWord_25 (by decide +kernel) (fun hc13155 => ?_) (fun hc13155 => ?_)
        · have r13156 : o13153.toInt ≤ g13152.toInt := gC_le hc13155
          refine G_iconst 1 d_cX9_isWord_57 (by decide +kernel) ?_
          exact G_zret FieldType.boolean d_cX9_isWord_58 rfl rfl (Nat.le_of_ble_eq_true rfl) (Nat.le_of_ble_eq_true rfl) ⟨1, rfl, rfl, (gB_w (gBl (show Int32.toInt 1 = 1 by decide)) (by decide) (by decide))⟩
        · have r13157 : g13152.toInt < o13153.toInt := gC_nle hc13155
          have bg13152' : gB g13152 0 65534 := ⟨by omega, by omega⟩
          have bo13153' : gB o13153 1 65535 := ⟨by omega, by omega⟩
          refine G_aload_n 1 d_cX9_isWord_28 rfl ?_
          refine G_getf 0 0 d_cX9_isWord_29 rfl (gk_X9 D I) (Nat.le_of_ble_eq_true rfl) w_1_79 rfl ?_
          refine G_aload_n 1 d_cX9_isWord_32 rfl ?_
          refine G_getf 0 3 d_cX9_isWord_33 rfl (gk_X9 D I) (Nat.le_of_ble_eq_true rfl) w_1_82 rfl ?_
          refine G_iload_n 0 d_cX9_isWord_36 rfl ?_
          refine G_iadd d_cX9_isWord_37 (G_nam fun z13158 hz13158 => ?_)
          have bz13158 : gB z13158 (-2147483648) 2147483647 := gB_any z13158
          refine G_callV (As := [.int z13158]) (wr := [(q12945, .inr (14, [.ref q12946, .int p12951, .int p12952, .int p12953, .int p12954]))]) (gV_ok D I) (ct_30_Tape_byteAt l hl0 D I q12946 q12947 z13158 p12955 f12956 bp12955 bf12956) d_cX9_isWord_38 ⟨w_3_20, w_1_2, w_3_23, by decide, rfl, (Nat.le_of_ble_eq_true rfl), (Nat.le_of_ble_eq_true rfl)⟩ w_3_21 w_3_22 1 rfl rfl [1, 2] [0] rfl rfl rfl rfl (by decide) (Nat.le_of_ble_eq_true rfl) (Nat.le_of_ble_eq_true rfl) (Nat.le_of_ble_eq_true rfl) (fun r w hp => ?_) (fun _ _ _ z => z.elim)
          rcases hp with ⟨rfl, rfl, r13159⟩ | ⟨rfl, rfl, r13160, r13161⟩ | ⟨z13162, rfl, rfl, r13163, r13164, r13165⟩
          · have bz13158' : gB z13158 (-2147483648) (-1) := ⟨by omega, by omega⟩
            change G _ _ _ _ _ _ _ (.int (-1) :: _) _ _ _
            refine G_ws (ws' := [(q12945, .inr (14, [.ref q12946, .int p12951, .int p12952, .int p12953, .int p12954])), (q12946, .inr (15, [.ref q12947, .int p12955])), (q12947, .inl (I .byte, 8192, .inl f12956))]) (cs' := 0) (sl' := 0) rfl rfl rfl ?_
            refine G_aload_n 2 d_cX9_isWord_41 rfl ?_
            refine G_iload_n 0 d_cX9_isWord_42 rfl ?_
            refine G_callVk (As := [.int g13152]) (wr := [(q12945, .inr (14, [.ref q12946, .int p12951, .int p12952, .int p12953, .int p12954])), (q12946, .inr (15, [.ref q12947, .int p12955])), (q12947, .inl (I .byte, 8192, .inl f12956))]) (gV_ok D I) (ct_12994_String_charAt l hl0 D I qs12948 qb12949 bs12950 g13152 hbs12950 nbs12950 (by omega) (by omega)) d_cX9_isWord_43 ⟨w_3_67, w_1_21, w_3_70, by decide, rfl, (Nat.le_of_ble_eq_true rfl), (Nat.le_of_ble_eq_true rfl)⟩ w_3_68 w_3_69 (fun _ _ _ h => (hbs12950 _ _ _ h).1) [] [0, 1, 2] rfl rfl rfl rfl (by decide) (Nat.le_of_ble_eq_true rfl) (Nat.le_of_ble_eq_true rfl) (Nat.le_of_ble_eq_true rfl) (fun r w hp => ?_) (fun _ _ _ z => z.elim)
            obtain ⟨o13166, rfl, rfl, bo13166⟩ := hp
            change G _ _ _ _ _ _ _ (.int o13166 :: _) _ _ _
            refine G_ws (ws' := [(q12945, .inr (14, [.ref q12946, .int p12951, .int p12952, .int p12953, .int p12954])), (q12946, .inr (15, [.ref q12947, .int p12955])), (q12947, .inl (I .byte, 8192, .inl f12956))]) (cs' := 0) (sl' := 0) rfl rfl rfl ?_
            refine G_icmp_eq 51 d_cX9_isWord_46 (by decide +kernel) (fun hc => absurd (show False by have := gj_eqL hc (show Int32.toInt (-1) = (-1) by decide); omega) not_false) (fun _ => ?_)
            refine G_iconst 0 d_cX9_isWord_49 (by decide +kernel) ?_
            exact G_zret FieldType.boolean d_cX9_isWord_50 rfl rfl (Nat.le_of_ble_eq_true rfl) (Nat.le_of_ble_eq_true rfl) ⟨0, rfl, rfl, (gB_w (gBl (show Int32.toInt 0 = 0 by decide)) (by decide) (by decide))⟩
          · have bz13158' : gB z13158 0 2147483647 := ⟨by omega, by omega⟩
            change G _ _ _ _ _ _ _ (.int (-1) :: _) _ _ _
            refine G_ws (ws' := [(q12945, .inr (14, [.ref q12946, .int p12951, .int p12952, .int p12953, .int p12954])), (q12946, .inr (15, [.ref q12947, .int p12955])), (q12947, .inl (I .byte, 8192, .inl f12956))]) (cs' := 0) (sl' := 0) rfl rfl rfl ?_
            refine G_aload_n 2 d_cX9_isWord_41 rfl ?_
            refine G_iload_n 0 d_cX9_isWord_42 rfl ?_
            refine G_callVk (As := [.int g13152]) (wr := [(q12945, .inr (14, [.ref q12946, .int p12951, .int p12952, .int p12953, .int p12954])), (q12946, .inr (15, [.ref q12947, .int p12955])), (q12947, .inl (I .byte, 8192, .inl f12956))]) (gV_ok D I) (ct_12994_String_charAt l hl0 D I qs12948 qb12949 bs12950 g13152 hbs12950 nbs12950 (by omega) (by omega)) d_cX9_isWord_43 ⟨w_3_67, w_1_21, w_3_70, by decide, rfl, (Nat.le_of_ble_eq_true rfl), (Nat.le_of_ble_eq_true rfl)⟩ w_3_68 w_3_69 (fun _ _ _ h => (hbs12950 _ _ _ h).1) [] [0, 1, 2] rfl rfl rfl rfl (by decide) (Nat.le_of_ble_eq_true rfl) (Nat.le_of_ble_eq_true rfl) (Nat.le_of_ble_eq_true rfl) (fun r w hp => ?_) (fun _ _ _ z => z.elim)
            obtain ⟨o13167, rfl, rfl, bo13167⟩ := hp
            change G _ _ _ _ _ _ _ (.int o13167 :: _) _ _ _
            refine G_ws (ws' := [(q12945, .inr (14, [.ref q12946, .int p12951, .int p12952, .int p12953, .int p12954])), (q12946, .inr (15, [.ref q12947, .int p12955])), (q12947, .inl (I .byte, 8192, .inl f12956))]) (cs' := 0) (sl' := 0) rfl rfl rfl ?_
            refine G_icmp_eq 51 d_cX9_isWord_46 (by decide +kernel) (fun hc => absurd (show False by have := gj_eqL hc (show Int32.toInt (-1) = (-1) by decide); omega) not_false) (fun _ => ?_)
            refine G_iconst 0 d_cX9_isWord_49 (by decide +kernel) ?_
            exact G_zret FieldType.boolean d_cX9_isWord_50 rfl rfl (Nat.le_of_ble_eq_true rfl) (Nat.le_of_ble_eq_true rfl) ⟨0, rfl, rfl, (gB_w (gBl (show Int32.toInt 0 = 0 by decide)) (by decide) (by decide))⟩
          · have bz13158' : gB z13158 0 2147483647 := ⟨by omega, by omega⟩
            have bz13158'' : gB z13158 0 8191 := ⟨by omega, by omega⟩
            have bp12955' : gB p12955 1 8192 := ⟨by omega, by omega⟩
            change G _ _ _ _ _ _ _ (.int z13162 :: _) _ _ _
            refine G_ws (ws' := [(q12945, .inr (14, [.ref q12946, .int p12951, .int p12952, .int p12953, .int p12954])), (q12946, .inr (15, [.ref q12947, .int p12955])), (q12947, .inl (I .byte, 8192, .inl f12956))]) (cs' := 0) (sl' := 0) rfl rfl rfl ?_
            refine G_aload_n 2 d_cX9_isWord_41 rfl ?_
            refine G_iload_n 0 d_cX9_isWord_42 rfl ?_
            refine G_callVk (As := [.int g13152]) (wr := [(q12945, .inr (14, [.ref q12946, .int p12951, .int p12952, .int p12953, .int p12954])), (q12946, .inr (15, [.ref q12947, .int p12955])), (q12947, .inl (I .byte, 8192, .inl f12956))]) (gV_ok D I) (ct_12994_String_charAt l hl0 D I qs12948 qb12949 bs12950 g13152 hbs12950 nbs12950 (by omega) (by omega)) d_cX9_isWord_43 ⟨w_3_67, w_1_21, w_3_70, by decide, rfl, (Nat.le_of_ble_eq_true rfl), (Nat.le_of_ble_eq_true rfl)⟩ w_3_68 w_3_69 (fun _ _ _ h => (hbs12950 _ _ _ h).1) [] [0, 1, 2] rfl rfl rfl rfl (by decide) (Nat.le_of_ble_eq_true rfl) (Nat.le_of_ble_eq_true rfl) (Nat.le_of_ble_eq_true rfl) (fun r w hp => ?_) (fun _ _ _ z => z.elim)
            obtain ⟨o13168, rfl, rfl, bo13168⟩ := hp
            change G _ _ _ _ _ _ _ (.int o13168 :: _) _ _ _
            refine G_ws (ws' := [(q12945, .inr (14, [.ref q12946, .int p12951, .int p12952, .int p12953, .int p12954])), (q12946, .inr (15, [.ref q12947, .int p12955])), (q12947, .inl (I .byte, 8192, .inl f12956))]) (cs' := 0) (sl' := 0) rfl rfl rfl ?_
            refine G_icmp_eq 51 d_cX9_isWord_46 (by decide +kernel) (fun hc13169 => ?_) (fun hc13169 => ?_)
            · have r13170 : z13162.toInt = o13168.toInt := gC_eq hc13169
              have bo13168' : gB o13168 0 255 := ⟨by omega, by omega⟩
              obtain ⟨z13171, hz13171⟩ : ∃ z : Int32, z = g13152 + Int32.ofInt 1 := ⟨_, rfl⟩
              have ez13171 : z13171.toInt = g13152.toInt + 1 := gI_inc hz13171 (by decide) bg13152' (by decide) (by decide)
              have bz13171 : gB z13171 1 65535 := ⟨by omega, by omega⟩
              refine G_iinc (L' := [(2, .int z13171), (0, .ref q12945), (1, .ref qs12948)]) z13171 0 d_cX9_isWord_51 rfl hz13171.symm (Nat.le_of_ble_eq_true rfl) rfl ?_
              refine G_goto 20 d_cX9_isWord_54 (by decide +kernel) ?_
              exact ih20_13152 z13171 (gB_w bz13171 (by decide) (by decide)) (by omega)
            · have r13172 : z13162.toInt ≠ o13168.toInt := gC_ne hc13169
              refine G_iconst 0 d_cX9_isWord_49 (by decide +kernel) ?_
              exact G_zret FieldType.boolean d_cX9_isWord_50 rfl rfl (Nat.le_of_ble_eq_true rfl) (Nat.le_of_ble_eq_true rfl) ⟨0, rfl, rfl, (gB_w (gBl (show Int32.toInt 0 = 0 by decide)) (by decide) (by decide))⟩
    exact hlp20_13152 (((65536 : Int) - 0).toNat + 1) 0 (gB_w (gBl (show Int32.toInt 0 = 0 by decide)) (by decide) (by decide)) (Nat.lt_succ_self _)
  · have r13173 : z12959.toInt ≠ o12971.toInt := gC_ne hc12973
    refine G_iconst 0 d_cX9_isWord_16 (by decide +kernel) ?_
    exact G_zret FieldType.boolean d_cX9_isWord_17 rfl rfl (Nat.le_of_ble_eq_true rfl) (Nat.le_of_ble_eq_true rfl) ⟨0, rfl, rfl, (gB_w (gBl (show Int32.toInt 0 = 0 by decide)) (by decide) (by decide))⟩
abbrev ky_12941_Signs_takeWord : gKey := (cX9_takeWord, 2, yX9_takeWord.cls, none, [], yX9_takeWord.name, fun _ _ => True)
abbrev po_12941_Signs_takeWord (I : FieldType → ClassId) (q12931 : Nat) (q12932 : Nat) (q12933 : Nat) (p12934 : Int32) (p12935 : Int32) (p12936 : Int32) (p12937 : Int32) (p12938 : Int32) (f12939 : Nat → Int32) : Option Value → va_W → Prop := fun r w => ∃ (o13627 : Int32) (o13628 : Int32), r = none ∧ w = [(q12931, .inr (14, [.ref q12932, .int o13627, .int p12935, .int p12936, .int o13628])), (q12932, .inr (15, [.ref q12933, .int p12938])), (q12933, .inl (I .byte, 8192, .inl f12939))] ∧ gB o13627 0 12 ∧ gB o13628 (-2147483648) 2147483647 ∧ (o13627.toInt ≠ 5 ∨ (0 ≤ p12935.toInt ∧ p12935.toInt ≤ 13))
set_option maxRecDepth 100000 in
set_option maxHeartbeats 4000000 in
theorem ct_12941_Signs_takeWord (l : Launch) (hl0 : l.stackTraces = false) (D : va_G) (I : FieldType → ClassId) (q12931 : Nat) (q12932 : Nat) (q12933 : Nat) (p12934 : Int32) (p12935 : Int32) (p12936 : Int32) (p12937 : Int32) (p12938 : Int32) (f12939 : Nat → Int32) (bp12938 : gB p12938 0 8192) (bf12939 : gF f12939 (-128) 127) (x12940 : (p12934.toInt ≠ 5 ∨ (0 ≤ p12935.toInt ∧ p12935.toInt ≤ 13))) : Ct (gV D I) l yX9_takeWord cX9_takeWord 2 none 5 107 0 0 [.ref q12931] [(q12931, .inr (14, [.ref q12932, .int p12934, .int p12935, .int p12936, .int p12937])), (q12932, .inr (15, [.ref q12933, .int p12938])), (q12933, .inl (I .byte, 8192, .inl f12939))] (po_12941_Signs_takeWord I q12931 q12932 q12933 p12934 p12935 p12936 p12937 p12938 f12939) gN := by
  refine Ct_of hl0 (by decide) (Nat.le_of_ble_eq_true rfl) ?_
  have bp12934 := gB_any p12934
  have bp12935 := gB_any p12935
  have bp12936 := gB_any p12936
  have bp12937 := gB_any p12937
  refine G_aload_n 0 d_cX9_takeWord_0 rfl ?_
  refine G_getf 0 3 d_cX9_takeWord_1 rfl (gk_X9 D I) (Nat.le_of_ble_eq_true rfl) w_1_82 rfl ?_
  refine G_istore_n (L' := [(1, .int p12936), (0, .ref q12931)]) d_cX9_takeWord_4 (Nat.le_of_ble_eq_true rfl) rfl ?_
  have hlp5_13475 : ∀ (n5_13475 : Nat) (g13475 : Int32), gB g13475 (-2147483648) 2147483647 → ((2147483648 : Int) - g13475.toInt).toNat < n5_13475 → G (gV D I) l (gRm 5 107 0 0) (gM (gV D I) (po_12941_Signs_takeWord I q12931 q12932 q12933 p12934 p12935 p12936 p12937 p12938 f12939) gN 0 0) ky_12941_Signs_takeWord 5 [(1, .int g13475), (0, .ref q12931)] [] [(q12931, .inr (14, [.ref q12932, .int p12934, .int p12935, .int p12936, .int p12937])), (q12932, .inr (15, [.ref q12933, .int p12938])), (q12933, .inl (I .byte, 8192, .inl f12939))] 0 0 := by
    intro n5_13475
    induction n5_13475 with
    | zero => intro g13475 bg13475 hm5_13475; exact absurd hm5_13475 (Nat.not_lt_zero _)
    | succ n5_13475 ih5_13475 =>
      intro g13475 bg13475 hm5_13475
      refine G_iload_n 0 d_cX9_takeWord_5 rfl ?_
      refine G_aload_n 1 d_cX9_takeWord_6 rfl ?_
      refine G_getf 0 0 d_cX9_takeWord_7 rfl (gk_X9 D I) (Nat.le_of_ble_eq_true rfl) w_1_79 rfl ?_
      refine G_callV (As := []) (wr := [(q12931, .inr (14, [.ref q12932, .int p12934, .int p12935, .int p12936, .int p12937]))]) (gV_ok D I) (ct_5_Tape_size l hl0 D I q12932 q12933 p12938 f12939 bp12938 bf12939) d_cX9_takeWord_10 ⟨w_3_16, w_1_2, w_3_19, by decide, rfl, (Nat.le_of_ble_eq_true rfl), (Nat.le_of_ble_eq_true rfl)⟩ w_3_17 w_3_18 1 rfl rfl [1, 2] [0] rfl rfl rfl rfl (by decide) (Nat.le_of_ble_eq_true rfl) (Nat.le_of_ble_eq_true rfl) (Nat.le_of_ble_eq_true rfl) (fun r w hp => ?_) (fun _ _ _ z => z.elim)
      obtain ⟨rfl, rfl⟩ := hp
      change G _ _ _ _ _ _ _ (.int p12938 :: _) _ _ _
      refine G_ws (ws' := [(q12931, .inr (14, [.ref q12932, .int p12934, .int p12935, .int p12936, .int p12937])), (q12932, .inr (15, [.ref q12933, .int p12938])), (q12933, .inl (I .byte, 8192, .inl f12939))]) (cs' := 0) (sl' := 0) rfl rfl rfl ?_
      refine G_icmp_ge 36 d_cX9_takeWord_13 (by decide +kernel) (fun hc13476 => ?_) (fun hc13476 => ?_)
      · have r13477 : p12938.toInt ≤ g13475.toInt := gC_le hc13476
        have bg13475' : gB g13475 0 2147483647 := ⟨by omega, by omega⟩
        refine G_aload_n 1 d_cX9_takeWord_36 rfl ?_
        refine G_iload_n 0 d_cX9_takeWord_37 rfl ?_
        refine G_putf (ws' := [(q12931, .inr (14, [.ref q12932, .int p12934, .int p12935, .int p12936, .int g13475])), (q12932, .inr (15, [.ref q12933, .int p12938])), (q12933, .inl (I .byte, 8192, .inl f12939))]) 0 4 d_cX9_takeWord_38 rfl (gk_X9 D I) (Nat.le_of_ble_eq_true rfl) w_1_83 rfl rfl rfl (Nat.le_of_ble_eq_true rfl) rfl ?_
        refine G_aload_n 1 d_cX9_takeWord_41 rfl ?_
        refine G_aload_n 1 d_cX9_takeWord_42 rfl ?_
        refine G_ldcK (a := D.2 1000 0) d_cX9_takeWord_43 (fun _ _ _ h => gx_vk 0 rfl rfl h) ?_
        have hl0_13477 : (sb_0.length : Int) = 2 := rfl
        refine G_callV (As := [.ref (D.2 1000 0)]) (wr := []) (gV_ok D I) (ct_12958_Signs_isWord l hl0 D I q12931 q12932 q12933 (D.2 1000 0) (D.2 1001 0) sb_0 p12934 p12935 p12936 g13475 p12938 f12939 (gx_sc 0 rfl rfl) (by omega) bp12938 bf12939 (by omega)) d_cX9_takeWord_45 ⟨w_3_53, w_1_4, w_3_56, by decide, rfl, (Nat.le_of_ble_eq_true rfl), (Nat.le_of_ble_eq_true rfl)⟩ w_3_55 w_p_5 0 rfl rfl [0, 1, 2] [] rfl rfl rfl rfl (by decide) (Nat.le_of_ble_eq_true rfl) (Nat.le_of_ble_eq_true rfl) (Nat.le_of_ble_eq_true rfl) (fun r w hp => ?_) (fun _ _ _ z => z.elim)
        obtain ⟨o13479, rfl, rfl, bo13479⟩ := hp
        change G _ _ _ _ _ _ _ (.int o13479 :: _) _ _ _
        refine G_ws (ws' := [(q12931, .inr (14, [.ref q12932, .int p12934, .int p12935, .int p12936, .int g13475])), (q12932, .inr (15, [.ref q12933, .int p12938])), (q12933, .inl (I .byte, 8192, .inl f12939))]) (cs' := 0) (sl' := 0) rfl rfl rfl ?_
        refine G_if_eq 56 d_cX9_takeWord_48 (by decide +kernel) (fun hc13480 => ?_) (fun hc13480 => ?_)
        · have r13481 : o13479.toInt = 0 := gj_eq hc13480 (show Int32.toInt 0 = 0 by decide)
          have bo13479' : gB o13479 0 0 := ⟨by omega, by omega⟩
          refine G_aload_n 1 d_cX9_takeWord_56 rfl ?_
          refine G_ldcK (a := D.2 1000 1) d_cX9_takeWord_57 (fun _ _ _ h => gx_vk 1 rfl rfl h) ?_
          have hl1_13481 : (sb_1.length : Int) = 4 := rfl
          refine G_callV (As := [.ref (D.2 1000 1)]) (wr := []) (gV_ok D I) (ct_12958_Signs_isWord l hl0 D I q12931 q12932 q12933 (D.2 1000 1) (D.2 1001 1) sb_1 p12934 p12935 p12936 g13475 p12938 f12939 (gx_sc 1 rfl rfl) (by omega) bp12938 bf12939 (by omega)) d_cX9_takeWord_59 ⟨w_3_53, w_1_4, w_3_56, by decide, rfl, (Nat.le_of_ble_eq_true rfl), (Nat.le_of_ble_eq_true rfl)⟩ w_3_55 w_p_5 0 rfl rfl [0, 1, 2] [] rfl rfl rfl rfl (by decide) (Nat.le_of_ble_eq_true rfl) (Nat.le_of_ble_eq_true rfl) (Nat.le_of_ble_eq_true rfl) (fun r w hp => ?_) (fun _ _ _ z => z.elim)
          obtain ⟨o13483, rfl, rfl, bo13483⟩ := hp
          change G _ _ _ _ _ _ _ (.int o13483 :: _) _ _ _
          refine G_ws (ws' := [(q12931, .inr (14, [.ref q12932, .int p12934, .int p12935, .int p12936, .int g13475])), (q12932, .inr (15, [.ref q12933, .int p12938])), (q12933, .inl (I .byte, 8192, .inl f12939))]) (cs' := 0) (sl' := 0) rfl rfl rfl ?_
          refine G_if_eq 70 d_cX9_takeWord_62 (by decide +kernel) (fun hc13484 => ?_) (fun hc13484 => ?_)
          · have r13485 : o13483.toInt = 0 := gj_eq hc13484 (show Int32.toInt 0 = 0 by decide)
            have bo13483' : gB o13483 0 0 := ⟨by omega, by omega⟩
            refine G_aload_n 1 d_cX9_takeWord_70 rfl ?_
            refine G_ldcK (a := D.2 1000 2) d_cX9_takeWord_71 (fun _ _ _ h => gx_vk 2 rfl rfl h) ?_
            have hl2_13485 : (sb_2.length : Int) = 2 := rfl
            refine G_callV (As := [.ref (D.2 1000 2)]) (wr := []) (gV_ok D I) (ct_12958_Signs_isWord l hl0 D I q12931 q12932 q12933 (D.2 1000 2) (D.2 1001 2) sb_2 p12934 p12935 p12936 g13475 p12938 f12939 (gx_sc 2 rfl rfl) (by omega) bp12938 bf12939 (by omega)) d_cX9_takeWord_73 ⟨w_3_53, w_1_4, w_3_56, by decide, rfl, (Nat.le_of_ble_eq_true rfl), (Nat.le_of_ble_eq_true rfl)⟩ w_3_55 w_p_5 0 rfl rfl [0, 1, 2] [] rfl rfl rfl rfl (by decide) (Nat.le_of_ble_eq_true rfl) (Nat.le_of_ble_eq_true rfl) (Nat.le_of_ble_eq_true rfl) (fun r w hp => ?_) (fun _ _ _ z => z.elim)
            obtain ⟨o13487, rfl, rfl, bo13487⟩ := hp
            change G _ _ _ _ _ _ _ (.int o13487 :: _) _ _ _
            refine G_ws (ws' := [(q12931, .inr (14, [.ref q12932, .int p12934, .int p12935, .int p12936, .int g13475])), (q12932, .inr (15, [.ref q12933, .int p12938])), (q12933, .inl (I .byte, 8192, .inl f12939))]) (cs' := 0) (sl' := 0) rfl rfl rfl ?_
            refine G_if_eq 84 d_cX9_takeWord_76 (by decide +kernel) (fun hc13488 => ?_) (fun hc13488 => ?_)
            · have r13489 : o13487.toInt = 0 := gj_eq hc13488 (show Int32.toInt 0 = 0 by decide)
              have bo13487' : gB o13487 0 0 := ⟨by omega, by omega⟩
              refine G_aload_n 1 d_cX9_takeWord_84 rfl ?_
              refine G_ldcK (a := D.2 1000 3) d_cX9_takeWord_85 (fun _ _ _ h => gx_vk 3 rfl rfl h) ?_
              have hl3_13489 : (sb_3.length : Int) = 4 := rfl
              refine G_callV (As := [.ref (D.2 1000 3)]) (wr := []) (gV_ok D I) (ct_12958_Signs_isWord l hl0 D I q12931 q12932 q12933 (D.2 1000 3) (D.2 1001 3) sb_3 p12934 p12935 p12936 g13475 p12938 f12939 (gx_sc 3 rfl rfl) (by omega) bp12938 bf12939 (by omega)) d_cX9_takeWord_87 ⟨w_3_53, w_1_4, w_3_56, by decide, rfl, (Nat.le_of_ble_eq_true rfl), (Nat.le_of_ble_eq_true rfl)⟩ w_3_55 w_p_5 0 rfl rfl [0, 1, 2] [] rfl rfl rfl rfl (by decide) (Nat.le_of_ble_eq_true rfl) (Nat.le_of_ble_eq_true rfl) (Nat.le_of_ble_eq_true rfl) (fun r w hp => ?_) (fun _ _ _ z => z.elim)
              obtain ⟨o13491, rfl, rfl, bo13491⟩ := hp
              change G _ _ _ _ _ _ _ (.int o13491 :: _) _ _ _
              refine G_ws (ws' := [(q12931, .inr (14, [.ref q12932, .int p12934, .int p12935, .int p12936, .int g13475])), (q12932, .inr (15, [.ref q12933, .int p12938])), (q12933, .inl (I .byte, 8192, .inl f12939))]) (cs' := 0) (sl' := 0) rfl rfl rfl ?_
              refine G_if_eq 98 d_cX9_takeWord_90 (by decide +kernel) (fun hc13492 => ?_) (fun hc13492 => ?_)
              · have r13493 : o13491.toInt = 0 := gj_eq hc13492 (show Int32.toInt 0 = 0 by decide)
                have bo13491' : gB o13491 0 0 := ⟨by omega, by omega⟩
                refine G_aload_n 1 d_cX9_takeWord_98 rfl ?_
                refine G_ldcK (a := D.2 1000 4) d_cX9_takeWord_99 (fun _ _ _ h => gx_vk 4 rfl rfl h) ?_
                have hl4_13493 : (sb_4.length : Int) = 3 := rfl
                refine G_callV (As := [.ref (D.2 1000 4)]) (wr := []) (gV_ok D I) (ct_12958_Signs_isWord l hl0 D I q12931 q12932 q12933 (D.2 1000 4) (D.2 1001 4) sb_4 p12934 p12935 p12936 g13475 p12938 f12939 (gx_sc 4 rfl rfl) (by omega) bp12938 bf12939 (by omega)) d_cX9_takeWord_101 ⟨w_3_53, w_1_4, w_3_56, by decide, rfl, (Nat.le_of_ble_eq_true rfl), (Nat.le_of_ble_eq_true rfl)⟩ w_3_55 w_p_5 0 rfl rfl [0, 1, 2] [] rfl rfl rfl rfl (by decide) (Nat.le_of_ble_eq_true rfl) (Nat.le_of_ble_eq_true rfl) (Nat.le_of_ble_eq_true rfl) (fun r w hp => ?_) (fun _ _ _ z => z.elim)
                obtain ⟨o13495, rfl, rfl, bo13495⟩ := hp
                change G _ _ _ _ _ _ _ (.int o13495 :: _) _ _ _
                refine G_ws (ws' := [(q12931, .inr (14, [.ref q12932, .int p12934, .int p12935, .int p12936, .int g13475])), (q12932, .inr (15, [.ref q12933, .int p12938])), (q12933, .inl (I .byte, 8192, .inl f12939))]) (cs' := 0) (sl' := 0) rfl rfl rfl ?_
                refine G_if_eq 112 d_cX9_takeWord_104 (by decide +kernel) (fun hc13496 => ?_) (fun hc13496 => ?_)
                · have r13497 : o13495.toInt = 0 := gj_eq hc13496 (show Int32.toInt 0 = 0 by decide)
                  have bo13495' : gB o13495 0 0 := ⟨by omega, by omega⟩
                  refine G_iconst 0 d_cX9_takeWord_112 (by decide +kernel) ?_
                  refine G_putf (ws' := [(q12931, .inr (14, [.ref q12932, .int 0, .int p12935, .int p12936, .int g13475])), (q12932, .inr (15, [.ref q12933, .int p12938])), (q12933, .inl (I .byte, 8192, .inl f12939))]) 0 1 d_cX9_takeWord_113 rfl (gk_X9 D I) (Nat.le_of_ble_eq_true rfl) w_1_80 rfl rfl rfl (Nat.le_of_ble_eq_true rfl) rfl ?_
                  exact G_vret d_cX9_takeWord_116 rfl (Nat.le_of_ble_eq_true rfl) (Nat.le_of_ble_eq_true rfl) ⟨0, g13475, rfl, rfl, (gB_w (gBl (show Int32.toInt 0 = 0 by decide)) (by decide) (by decide)), (gB_w bg13475' (by decide) (by decide)), (by have qa0 : Int32.toInt 0 = 0 := (by decide); omega)⟩
                · have r13498 : o13495.toInt ≠ 0 := gj_neq hc13496 (show Int32.toInt 0 = 0 by decide)
                  have bo13495' : gB o13495 1 1 := ⟨by omega, by omega⟩
                  refine G_bipush 12 d_cX9_takeWord_107 (by decide +kernel) ?_
                  refine G_goto 113 d_cX9_takeWord_109 (by decide +kernel) ?_
                  refine G_putf (ws' := [(q12931, .inr (14, [.ref q12932, .int 12, .int p12935, .int p12936, .int g13475])), (q12932, .inr (15, [.ref q12933, .int p12938])), (q12933, .inl (I .byte, 8192, .inl f12939))]) 0 1 d_cX9_takeWord_113 rfl (gk_X9 D I) (Nat.le_of_ble_eq_true rfl) w_1_80 rfl rfl rfl (Nat.le_of_ble_eq_true rfl) rfl ?_
                  exact G_vret d_cX9_takeWord_116 rfl (Nat.le_of_ble_eq_true rfl) (Nat.le_of_ble_eq_true rfl) ⟨12, g13475, rfl, rfl, (gB_w (gBl (show Int32.toInt 12 = 12 by decide)) (by decide) (by decide)), (gB_w bg13475' (by decide) (by decide)), (by have qa0 : Int32.toInt 12 = 12 := (by decide); omega)⟩
              · have r13499 : o13491.toInt ≠ 0 := gj_neq hc13492 (show Int32.toInt 0 = 0 by decide)
                have bo13491' : gB o13491 1 1 := ⟨by omega, by omega⟩
                refine G_bipush 11 d_cX9_takeWord_93 (by decide +kernel) ?_
                refine G_goto 113 d_cX9_takeWord_95 (by decide +kernel) ?_
                refine G_putf (ws' := [(q12931, .inr (14, [.ref q12932, .int 11, .int p12935, .int p12936, .int g13475])), (q12932, .inr (15, [.ref q12933, .int p12938])), (q12933, .inl (I .byte, 8192, .inl f12939))]) 0 1 d_cX9_takeWord_113 rfl (gk_X9 D I) (Nat.le_of_ble_eq_true rfl) w_1_80 rfl rfl rfl (Nat.le_of_ble_eq_true rfl) rfl ?_
                exact G_vret d_cX9_takeWord_116 rfl (Nat.le_of_ble_eq_true rfl) (Nat.le_of_ble_eq_true rfl) ⟨11, g13475, rfl, rfl, (gB_w (gBl (show Int32.toInt 11 = 11 by decide)) (by decide) (by decide)), (gB_w bg13475' (by decide) (by decide)), (by have qa0 : Int32.toInt 11 = 11 := (by decide); omega)⟩
            · have r13500 : o13487.toInt ≠ 0 := gj_neq hc13488 (show Int32.toInt 0 = 0 by decide)
              have bo13487' : gB o13487 1 1 := ⟨by omega, by omega⟩
              refine G_bipush 10 d_cX9_takeWord_79 (by decide +kernel) ?_
              refine G_goto 113 d_cX9_takeWord_81 (by decide +kernel) ?_
              refine G_putf (ws' := [(q12931, .inr (14, [.ref q12932, .int 10, .int p12935, .int p12936, .int g13475])), (q12932, .inr (15, [.ref q12933, .int p12938])), (q12933, .inl (I .byte, 8192, .inl f12939))]) 0 1 d_cX9_takeWord_113 rfl (gk_X9 D I) (Nat.le_of_ble_eq_true rfl) w_1_80 rfl rfl rfl (Nat.le_of_ble_eq_true rfl) rfl ?_
              exact G_vret d_cX9_takeWord_116 rfl (Nat.le_of_ble_eq_true rfl) (Nat.le_of_ble_eq_true rfl) ⟨10, g13475, rfl, rfl, (gB_w (gBl (show Int32.toInt 10 = 10 by decide)) (by decide) (by decide)), (gB_w bg13475' (by decide) (by decide)), (by have qa0 : Int32.toInt 10 = 10 := (by decide); omega)⟩
          · have r13501 : o13483.toInt ≠ 0 := gj_neq hc13484 (show Int32.toInt 0 = 0 by decide)
            have bo13483' : gB o13483 1 1 := ⟨by omega, by omega⟩
            refine G_bipush 9 d_cX9_takeWord_65 (by decide +kernel) ?_
            refine G_goto 113 d_cX9_takeWord_67 (by decide +kernel) ?_
            refine G_putf (ws' := [(q12931, .inr (14, [.ref q12932, .int 9, .int p12935, .int p12936, .int g13475])), (q12932, .inr (15, [.ref q12933, .int p12938])), (q12933, .inl (I .byte, 8192, .inl f12939))]) 0 1 d_cX9_takeWord_113 rfl (gk_X9 D I) (Nat.le_of_ble_eq_true rfl) w_1_80 rfl rfl rfl (Nat.le_of_ble_eq_true rfl) rfl ?_
            exact G_vret d_cX9_takeWord_116 rfl (Nat.le_of_ble_eq_true rfl) (Nat.le_of_ble_eq_true rfl) ⟨9, g13475, rfl, rfl, (gB_w (gBl (show Int32.toInt 9 = 9 by decide)) (by decide) (by decide)), (gB_w bg13475' (by decide) (by decide)), (by have qa0 : Int32.toInt 9 = 9 := (by decide); omega)⟩
        · have r13502 : o13479.toInt ≠ 0 := gj_neq hc13480 (show Int32.toInt 0 = 0 by decide)
          have bo13479' : gB o13479 1 1 := ⟨by omega, by omega⟩
          refine G_bipush 8 d_cX9_takeWord_51 (by decide +kernel) ?_
          refine G_goto 113 d_cX9_takeWord_53 (by decide +kernel) ?_
          refine G_putf (ws' := [(q12931, .inr (14, [.ref q12932, .int 8, .int p12935, .int p12936, .int g13475])), (q12932, .inr (15, [.ref q12933, .int p12938])), (q12933, .inl (I .byte, 8192, .inl f12939))]) 0 1 d_cX9_takeWord_113 rfl (gk_X9 D I) (Nat.le_of_ble_eq_true rfl) w_1_80 rfl rfl rfl (Nat.le_of_ble_eq_true rfl) rfl ?_
          exact G_vret d_cX9_takeWord_116 rfl (Nat.le_of_ble_eq_true rfl) (Nat.le_of_ble_eq_true rfl) ⟨8, g13475, rfl, rfl, (gB_w (gBl (show Int32.toInt 8 = 8 by decide)) (by decide) (by decide)), (gB_w bg13475' (by decide) (by decide)), (by have qa0 : Int32.toInt 8 = 8 := (by decide); omega)⟩
      · have r13503 : g13475.toInt < p12938.toInt := gC_nle hc13476
        have bg13475' : gB g13475 (-2147483648) 8191 := ⟨by omega, by omega⟩
        refine G_aload_n 1 d_cX9_takeWord_16 rfl ?_
        refine G_getf 0 0 d_cX9_takeWord_17 rfl (gk_X9 D I) (Nat.le_of_ble_eq_true rfl) w_1_79 rfl ?_
        refine G_iload_n 0 d_cX9_takeWord_20 rfl ?_
        refine G_callV (As := [.int g13475]) (wr := [(q12931, .inr (14, [.ref q12932, .int p12934, .int p12935, .int p12936, .int p12937]))]) (gV_ok D I) (ct_30_Tape_byteAt l hl0 D I q12932 q12933 g13475 p12938 f12939 bp12938 bf12939) d_cX9_takeWord_21 ⟨w_3_20, w_1_2, w_3_23, by decide, rfl, (Nat.le_of_ble_eq_true rfl), (Nat.le_of_ble_eq_true rfl)⟩ w_3_21 w_3_22 1 rfl rfl [1, 2] [0] rfl rfl rfl rfl (by decide) (Nat.le_of_ble_eq_true rfl) (Nat.le_of_ble_eq_true rfl) (Nat.le_of_ble_eq_true rfl) (fun r w hp => ?_) (fun _ _ _ z => z.elim)
        rcases hp with ⟨rfl, rfl, r13504⟩ | ⟨rfl, rfl, r13505, r13506⟩ | ⟨z13507, rfl, rfl, r13508, r13509, r13510⟩
        · have bg13475'' : gB g13475 (-2147483648) (-1) := ⟨by omega, by omega⟩
          change G _ _ _ _ _ _ _ (.int (-1) :: _) _ _ _
          refine G_ws (ws' := [(q12931, .inr (14, [.ref q12932, .int p12934, .int p12935, .int p12936, .int p12937])), (q12932, .inr (15, [.ref q12933, .int p12938])), (q12933, .inl (I .byte, 8192, .inl f12939))]) (cs' := 0) (sl' := 0) rfl rfl rfl ?_
          refine G_callS (As := [.int (-1)]) (wr := [(q12931, .inr (14, [.ref q12932, .int p12934, .int p12935, .int p12936, .int p12937])), (q12932, .inr (15, [.ref q12933, .int p12938])), (q12933, .inl (I .byte, 8192, .inl f12939))]) (gV_ok D I) (ct_308_Signs_isLetter l hl0 D I (-1) ) d_cX9_takeWord_24 ⟨w_3_45, w_1_4, w_3_47, by decide, rfl, (Nat.le_of_ble_eq_true rfl), (Nat.le_of_ble_eq_true rfl)⟩ w_3_46 [] [0, 1, 2] rfl rfl rfl rfl (by decide) (Nat.le_of_ble_eq_true rfl) (Nat.le_of_ble_eq_true rfl) (Nat.le_of_ble_eq_true rfl) (fun r w hp => ?_) (fun _ _ _ z => z.elim)
          rcases hp with ⟨rfl, rfl, r13511⟩ | ⟨rfl, rfl, r13512, r13513⟩ | ⟨rfl, rfl, r13514, r13515⟩
          · rw [show Int32.toInt (-1) = (-1) from by decide] at r13511
            change G _ _ _ _ _ _ _ (.int 0 :: _) _ _ _
            refine G_ws (ws' := [(q12931, .inr (14, [.ref q12932, .int p12934, .int p12935, .int p12936, .int p12937])), (q12932, .inr (15, [.ref q12933, .int p12938])), (q12933, .inl (I .byte, 8192, .inl f12939))]) (cs' := 0) (sl' := 0) rfl rfl rfl ?_
            refine G_if_eq 36 d_cX9_takeWord_27 (by decide +kernel) (fun _ => ?_) (fun hc => absurd hc (by decide))
            refine G_aload_n 1 d_cX9_takeWord_36 rfl ?_
            refine G_iload_n 0 d_cX9_takeWord_37 rfl ?_
            refine G_putf (ws' := [(q12931, .inr (14, [.ref q12932, .int p12934, .int p12935, .int p12936, .int g13475])), (q12932, .inr (15, [.ref q12933, .int p12938])), (q12933, .inl (I .byte, 8192, .inl f12939))]) 0 4 d_cX9_takeWord_38 rfl (gk_X9 D I) (Nat.le_of_ble_eq_true rfl) w_1_83 rfl rfl rfl (Nat.le_of_ble_eq_true rfl) rfl ?_
            refine G_aload_n 1 d_cX9_takeWord_41 rfl ?_
            refine G_aload_n 1 d_cX9_takeWord_42 rfl ?_
            refine G_ldcK (a := D.2 1000 0) d_cX9_takeWord_43 (fun _ _ _ h => gx_vk 0 rfl rfl h) ?_
            have hl0_13515 : (sb_0.length : Int) = 2 := rfl
            refine G_callV (As := [.ref (D.2 1000 0)]) (wr := []) (gV_ok D I) (ct_12958_Signs_isWord l hl0 D I q12931 q12932 q12933 (D.2 1000 0) (D.2 1001 0) sb_0 p12934 p12935 p12936 g13475 p12938 f12939 (gx_sc 0 rfl rfl) (by omega) bp12938 bf12939 (by omega)) d_cX9_takeWord_45 ⟨w_3_53, w_1_4, w_3_56, by decide, rfl, (Nat.le_of_ble_eq_true rfl), (Nat.le_of_ble_eq_true rfl)⟩ w_3_55 w_p_5 0 rfl rfl [0, 1, 2] [] rfl rfl rfl rfl (by decide) (Nat.le_of_ble_eq_true rfl) (Nat.le_of_ble_eq_true rfl) (Nat.le_of_ble_eq_true rfl) (fun r w hp => ?_) (fun _ _ _ z => z.elim)
            obtain ⟨o13517, rfl, rfl, bo13517⟩ := hp
            change G _ _ _ _ _ _ _ (.int o13517 :: _) _ _ _
            refine G_ws (ws' := [(q12931, .inr (14, [.ref q12932, .int p12934, .int p12935, .int p12936, .int g13475])), (q12932, .inr (15, [.ref q12933, .int p12938])), (q12933, .inl (I .byte, 8192, .inl f12939))]) (cs' := 0) (sl' := 0) rfl rfl rfl ?_
            refine G_if_eq 56 d_cX9_takeWord_48 (by decide +kernel) (fun hc13518 => ?_) (fun hc13518 => ?_)
            · have r13519 : o13517.toInt = 0 := gj_eq hc13518 (show Int32.toInt 0 = 0 by decide)
              have bo13517' : gB o13517 0 0 := ⟨by omega, by omega⟩
              refine G_aload_n 1 d_cX9_takeWord_56 rfl ?_
              refine G_ldcK (a := D.2 1000 1) d_cX9_takeWord_57 (fun _ _ _ h => gx_vk 1 rfl rfl h) ?_
              have hl1_13519 : (sb_1.length : Int) = 4 := rfl
              refine G_callV (As := [.ref (D.2 1000 1)]) (wr := []) (gV_ok D I) (ct_12958_Signs_isWord l hl0 D I q12931 q12932 q12933 (D.2 1000 1) (D.2 1001 1) sb_1 p12934 p12935 p12936 g13475 p12938 f12939 (gx_sc 1 rfl rfl) (by omega) bp12938 bf12939 (by omega)) d_cX9_takeWord_59 ⟨w_3_53, w_1_4, w_3_56, by decide, rfl, (Nat.le_of_ble_eq_true rfl), (Nat.le_of_ble_eq_true rfl)⟩ w_3_55 w_p_5 0 rfl rfl [0, 1, 2] [] rfl rfl rfl rfl (by decide) (Nat.le_of_ble_eq_true rfl) (Nat.le_of_ble_eq_true rfl) (Nat.le_of_ble_eq_true rfl) (fun r w hp => ?_) (fun _ _ _ z => z.elim)
              obtain ⟨o13521, rfl, rfl, bo13521⟩ := hp
              change G _ _ _ _ _ _ _ (.int o13521 :: _) _ _ _
              refine G_ws (ws' := [(q12931, .inr (14, [.ref q12932, .int p12934, .int p12935, .int p12936, .int g13475])), (q12932, .inr (15, [.ref q12933, .int p12938])), (q12933, .inl (I .byte, 8192, .inl f12939))]) (cs' := 0) (sl' := 0) rfl rfl rfl ?_
              refine G_if_eq 70 d_cX9_takeWord_62 (by decide +kernel) (fun hc13522 => ?_) (fun hc13522 => ?_)
              · have r13523 : o13521.toInt = 0 := gj_eq hc13522 (show Int32.toInt 0 = 0 by decide)
                have bo13521' : gB o13521 0 0 := ⟨by omega, by omega⟩
                refine G_aload_n 1 d_cX9_takeWord_70 rfl ?_
                refine G_ldcK (a := D.2 1000 2) d_cX9_takeWord_71 (fun _ _ _ h => gx_vk 2 rfl rfl h) ?_
                have hl2_13523 : (sb_2.length : Int) = 2 := rfl
                refine G_callV (As := [.ref (D.2 1000 2)]) (wr := []) (gV_ok D I) (ct_12958_Signs_isWord l hl0 D I q12931 q12932 q12933 (D.2 1000 2) (D.2 1001 2) sb_2 p12934 p12935 p12936 g13475 p12938 f12939 (gx_sc 2 rfl rfl) (by omega) bp12938 bf12939 (by omega)) d_cX9_takeWord_73 ⟨w_3_53, w_1_4, w_3_56, by decide, rfl, (Nat.le_of_ble_eq_true rfl), (Nat.le_of_ble_eq_true rfl)⟩ w_3_55 w_p_5 0 rfl rfl [0, 1, 2] [] rfl rfl rfl rfl (by decide) (Nat.le_of_ble_eq_true rfl) (Nat.le_of_ble_eq_true rfl) (Nat.le_of_ble_eq_true rfl) (fun r w hp => ?_) (fun _ _ _ z => z.elim)
                obtain ⟨o13525, rfl, rfl, bo13525⟩ := hp
                change G _ _ _ _ _ _ _ (.int o13525 :: _) _ _ _
                refine G_ws (ws' := [(q12931, .inr (14, [.ref q12932, .int p12934, .int p12935, .int p12936, .int g13475])), (q12932, .inr (15, [.ref q12933, .int p12938])), (q12933, .inl (I .byte, 8192, .inl f12939))]) (cs' := 0) (sl' := 0) rfl rfl rfl ?_
                refine G_if_eq 84 d_cX9_takeWord_76 (by decide +kernel) (fun hc13526 => ?_) (fun hc13526 => ?_)
                · have r13527 : o13525.toInt = 0 := gj_eq hc13526 (show Int32.toInt 0 = 0 by decide)
                  have bo13525' : gB o13525 0 0 := ⟨by omega, by omega⟩
                  refine G_aload_n 1 d_cX9_takeWord_84 rfl ?_
                  refine G_ldcK (a := D.2 1000 3) d_cX9_takeWord_85 (fun _ _ _ h => gx_vk 3 rfl rfl h) ?_
                  have hl3_13527 : (sb_3.length : Int) = 4 := rfl
                  refine G_callV (As := [.ref (D.2 1000 3)]) (wr := []) (gV_ok D I) (ct_12958_Signs_isWord l hl0 D I q12931 q12932 q12933 (D.2 1000 3) (D.2 1001 3) sb_3 p12934 p12935 p12936 g13475 p12938 f12939 (gx_sc 3 rfl rfl) (by omega) bp12938 bf12939 (by omega)) d_cX9_takeWord_87 ⟨w_3_53, w_1_4, w_3_56, by decide, rfl, (Nat.le_of_ble_eq_true rfl), (Nat.le_of_ble_eq_true rfl)⟩ w_3_55 w_p_5 0 rfl rfl [0, 1, 2] [] rfl rfl rfl rfl (by decide) (Nat.le_of_ble_eq_true rfl) (Nat.le_of_ble_eq_true rfl) (Nat.le_of_ble_eq_true rfl) (fun r w hp => ?_) (fun _ _ _ z => z.elim)
                  obtain ⟨o13529, rfl, rfl, bo13529⟩ := hp
                  change G _ _ _ _ _ _ _ (.int o13529 :: _) _ _ _
                  refine G_ws (ws' := [(q12931, .inr (14, [.ref q12932, .int p12934, .int p12935, .int p12936, .int g13475])), (q12932, .inr (15, [.ref q12933, .int p12938])), (q12933, .inl (I .byte, 8192, .inl f12939))]) (cs' := 0) (sl' := 0) rfl rfl rfl ?_
                  refine G_if_eq 98 d_cX9_takeWord_90 (by decide +kernel) (fun hc13530 => ?_) (fun hc13530 => ?_)
                  · have r13531 : o13529.toInt = 0 := gj_eq hc13530 (show Int32.toInt 0 = 0 by decide)
                    have bo13529' : gB o13529 0 0 := ⟨by omega, by omega⟩
                    refine G_aload_n 1 d_cX9_takeWord_98 rfl ?_
                    refine G_ldcK (a := D.2 1000 4) d_cX9_takeWord_99 (fun _ _ _ h => gx_vk 4 rfl rfl h) ?_
                    have hl4_13531 : (sb_4.length : Int) = 3 := rfl
                    refine G_callV (As := [.ref (D.2 1000 4)]) (wr := []) (gV_ok D I) (ct_12958_Signs_isWord l hl0 D I q12931 q12932 q12933 (D.2 1000 4) (D.2 1001 4) sb_4 p12934 p12935 p12936 g13475 p12938 f12939 (gx_sc 4 rfl rfl) (by omega) bp12938 bf12939 (by omega)) d_cX9_takeWord_101 ⟨w_3_53, w_1_4, w_3_56, by decide, rfl, (Nat.le_of_ble_eq_true rfl), (Nat.le_of_ble_eq_true rfl)⟩ w_3_55 w_p_5 0 rfl rfl [0, 1, 2] [] rfl rfl rfl rfl (by decide) (Nat.le_of_ble_eq_true rfl) (Nat.le_of_ble_eq_true rfl) (Nat.le_of_ble_eq_true rfl) (fun r w hp => ?_) (fun _ _ _ z => z.elim)
                    obtain ⟨o13533, rfl, rfl, bo13533⟩ := hp
                    change G _ _ _ _ _ _ _ (.int o13533 :: _) _ _ _
                    refine G_ws (ws' := [(q12931, .inr (14, [.ref q12932, .int p12934, .int p12935, .int p12936, .int g13475])), (q12932, .inr (15, [.ref q12933, .int p12938])), (q12933, .inl (I .byte, 8192, .inl f12939))]) (cs' := 0) (sl' := 0) rfl rfl rfl ?_
                    refine G_if_eq 112 d_cX9_takeWord_104 (by decide +kernel) (fun hc13534 => ?_) (fun hc13534 => ?_)
                    · have r13535 : o13533.toInt = 0 := gj_eq hc13534 (show Int32.toInt 0 = 0 by decide)
                      have bo13533' : gB o13533 0 0 := ⟨by omega, by omega⟩
                      refine G_iconst 0 d_cX9_takeWord_112 (by decide +kernel) ?_
                      refine G_putf (ws' := [(q12931, .inr (14, [.ref q12932, .int 0, .int p12935, .int p12936, .int g13475])), (q12932, .inr (15, [.ref q12933, .int p12938])), (q12933, .inl (I .byte, 8192, .inl f12939))]) 0 1 d_cX9_takeWord_113 rfl (gk_X9 D I) (Nat.le_of_ble_eq_true rfl) w_1_80 rfl rfl rfl (Nat.le_of_ble_eq_true rfl) rfl ?_
                      exact G_vret d_cX9_takeWord_116 rfl (Nat.le_of_ble_eq_true rfl) (Nat.le_of_ble_eq_true rfl) ⟨0, g13475, rfl, rfl, (gB_w (gBl (show Int32.toInt 0 = 0 by decide)) (by decide) (by decide)), (gB_w bg13475'' (by decide) (by decide)), (by have qa0 : Int32.toInt 0 = 0 := (by decide); omega)⟩
                    · have r13536 : o13533.toInt ≠ 0 := gj_neq hc13534 (show Int32.toInt 0 = 0 by decide)
                      have bo13533' : gB o13533 1 1 := ⟨by omega, by omega⟩
                      refine G_bipush 12 d_cX9_takeWord_107 (by decide +kernel) ?_
                      refine G_goto 113 d_cX9_takeWord_109 (by decide +kernel) ?_
                      refine G_putf (ws' := [(q12931, .inr (14, [.ref q12932, .int 12, .int p12935, .int p12936, .int g13475])), (q12932, .inr (15, [.ref q12933, .int p12938])), (q12933, .inl (I .byte, 8192, .inl f12939))]) 0 1 d_cX9_takeWord_113 rfl (gk_X9 D I) (Nat.le_of_ble_eq_true rfl) w_1_80 rfl rfl rfl (Nat.le_of_ble_eq_true rfl) rfl ?_
                      exact G_vret d_cX9_takeWord_116 rfl (Nat.le_of_ble_eq_true rfl) (Nat.le_of_ble_eq_true rfl) ⟨12, g13475, rfl, rfl, (gB_w (gBl (show Int32.toInt 12 = 12 by decide)) (by decide) (by decide)), (gB_w bg13475'' (by decide) (by decide)), (by have qa0 : Int32.toInt 12 = 12 := (by decide); omega)⟩
                  · have r13537 : o13529.toInt ≠ 0 := gj_neq hc13530 (show Int32.toInt 0 = 0 by decide)
                    have bo13529' : gB o13529 1 1 := ⟨by omega, by omega⟩
                    refine G_bipush 11 d_cX9_takeWord_93 (by decide +kernel) ?_
                    refine G_goto 113 d_cX9_takeWord_95 (by decide +kernel) ?_
                    refine G_putf (ws' := [(q12931, .inr (14, [.ref q12932, .int 11, .int p12935, .int p12936, .int g13475])), (q12932, .inr (15, [.ref q12933, .int p12938])), (q12933, .inl (I .byte, 8192, .inl f12939))]) 0 1 d_cX9_takeWord_113 rfl (gk_X9 D I) (Nat.le_of_ble_eq_true rfl) w_1_80 rfl rfl rfl (Nat.le_of_ble_eq_true rfl) rfl ?_
                    exact G_vret d_cX9_takeWord_116 rfl (Nat.le_of_ble_eq_true rfl) (Nat.le_of_ble_eq_true rfl) ⟨11, g13475, rfl, rfl, (gB_w (gBl (show Int32.toInt 11 = 11 by decide)) (by decide) (by decide)), (gB_w bg13475'' (by decide) (by decide)), (by have qa0 : Int32.toInt 11 = 11 := (by decide); omega)⟩
                · have r13538 : o13525.toInt ≠ 0 := gj_neq hc13526 (show Int32.toInt 0 = 0 by decide)
                  have bo13525' : gB o13525 1 1 := ⟨by omega, by omega⟩
                  refine G_bipush 10 d_cX9_takeWord_79 (by decide +kernel) ?_
                  refine G_goto 113 d_cX9_takeWord_81 (by decide +kernel) ?_
                  refine G_putf (ws' := [(q12931, .inr (14, [.ref q12932, .int 10, .int p12935, .int p12936, .int g13475])), (q12932, .inr (15, [.ref q12933, .int p12938])), (q12933, .inl (I .byte, 8192, .inl f12939))]) 0 1 d_cX9_takeWord_113 rfl (gk_X9 D I) (Nat.le_of_ble_eq_true rfl) w_1_80 rfl rfl rfl (Nat.le_of_ble_eq_true rfl) rfl ?_
                  exact G_vret d_cX9_takeWord_116 rfl (Nat.le_of_ble_eq_true rfl) (Nat.le_of_ble_eq_true rfl) ⟨10, g13475, rfl, rfl, (gB_w (gBl (show Int32.toInt 10 = 10 by decide)) (by decide) (by decide)), (gB_w bg13475'' (by decide) (by decide)), (by have qa0 : Int32.toInt 10 = 10 := (by decide); omega)⟩
              · have r13539 : o13521.toInt ≠ 0 := gj_neq hc13522 (show Int32.toInt 0 = 0 by decide)
                have bo13521' : gB o13521 1 1 := ⟨by omega, by omega⟩
                refine G_bipush 9 d_cX9_takeWord_65 (by decide +kernel) ?_
                refine G_goto 113 d_cX9_takeWord_67 (by decide +kernel) ?_
                refine G_putf (ws' := [(q12931, .inr (14, [.ref q12932, .int 9, .int p12935, .int p12936, .int g13475])), (q12932, .inr (15, [.ref q12933, .int p12938])), (q12933, .inl (I .byte, 8192, .inl f12939))]) 0 1 d_cX9_takeWord_113 rfl (gk_X9 D I) (Nat.le_of_ble_eq_true rfl) w_1_80 rfl rfl rfl (Nat.le_of_ble_eq_true rfl) rfl ?_
                exact G_vret d_cX9_takeWord_116 rfl (Nat.le_of_ble_eq_true rfl) (Nat.le_of_ble_eq_true rfl) ⟨9, g13475, rfl, rfl, (gB_w (gBl (show Int32.toInt 9 = 9 by decide)) (by decide) (by decide)), (gB_w bg13475'' (by decide) (by decide)), (by have qa0 : Int32.toInt 9 = 9 := (by decide); omega)⟩
            · have r13540 : o13517.toInt ≠ 0 := gj_neq hc13518 (show Int32.toInt 0 = 0 by decide)
              have bo13517' : gB o13517 1 1 := ⟨by omega, by omega⟩
              refine G_bipush 8 d_cX9_takeWord_51 (by decide +kernel) ?_
              refine G_goto 113 d_cX9_takeWord_53 (by decide +kernel) ?_
              refine G_putf (ws' := [(q12931, .inr (14, [.ref q12932, .int 8, .int p12935, .int p12936, .int g13475])), (q12932, .inr (15, [.ref q12933, .int p12938])), (q12933, .inl (I .byte, 8192, .inl f12939))]) 0 1 d_cX9_takeWord_113 rfl (gk_X9 D I) (Nat.le_of_ble_eq_true rfl) w_1_80 rfl rfl rfl (Nat.le_of_ble_eq_true rfl) rfl ?_
              exact G_vret d_cX9_takeWord_116 rfl (Nat.le_of_ble_eq_true rfl) (Nat.le_of_ble_eq_true rfl) ⟨8, g13475, rfl, rfl, (gB_w (gBl (show Int32.toInt 8 = 8 by decide)) (by decide) (by decide)), (gB_w bg13475'' (by decide) (by decide)), (by have qa0 : Int32.toInt 8 = 8 := (by decide); omega)⟩
          · rw [show Int32.toInt (-1) = (-1) from by decide] at r13512
            exact absurd (show False by omega) not_false
          · rw [show Int32.toInt (-1) = (-1) from by decide] at r13514
            exact absurd (show False by omega) not_false
        · have bg13475'' : gB g13475 0 8191 := ⟨by omega, by omega⟩
          have bp12938' : gB p12938 0 8191 := ⟨by omega, by omega⟩
          change G _ _ _ _ _ _ _ (.int (-1) :: _) _ _ _
          refine G_ws (ws' := [(q12931, .inr (14, [.ref q12932, .int p12934, .int p12935, .int p12936, .int p12937])), (q12932, .inr (15, [.ref q12933, .int p12938])), (q12933, .inl (I .byte, 8192, .inl f12939))]) (cs' := 0) (sl' := 0) rfl rfl rfl ?_
          refine G_callS (As := [.int (-1)]) (wr := [(q12931, .inr (14, [.ref q12932, .int p12934, .int p12935, .int p12936, .int p12937])), (q12932, .inr (15, [.ref q12933, .int p12938])), (q12933, .inl (I .byte, 8192, .inl f12939))]) (gV_ok D I) (ct_308_Signs_isLetter l hl0 D I (-1) ) d_cX9_takeWord_24 ⟨w_3_45, w_1_4, w_3_47, by decide, rfl, (Nat.le_of_ble_eq_true rfl), (Nat.le_of_ble_eq_true rfl)⟩ w_3_46 [] [0, 1, 2] rfl rfl rfl rfl (by decide) (Nat.le_of_ble_eq_true rfl) (Nat.le_of_ble_eq_true rfl) (Nat.le_of_ble_eq_true rfl) (fun r w hp => ?_) (fun _ _ _ z => z.elim)
          rcases hp with ⟨rfl, rfl, r13541⟩ | ⟨rfl, rfl, r13542, r13543⟩ | ⟨rfl, rfl, r13544, r13545⟩
          · rw [show Int32.toInt (-1) = (-1) from by decide] at r13541
            change G _ _ _ _ _ _ _ (.int 0 :: _) _ _ _
            refine G_ws (ws' := [(q12931, .inr (14, [.ref q12932, .int p12934, .int p12935, .int p12936, .int p12937])), (q12932, .inr (15, [.ref q12933, .int p12938])), (q12933, .inl (I .byte, 8192, .inl f12939))]) (cs' := 0) (sl' := 0) rfl rfl rfl ?_
            refine G_if_eq 36 d_cX9_takeWord_27 (by decide +kernel) (fun _ => ?_) (fun hc => absurd hc (by decide))
            refine G_aload_n 1 d_cX9_takeWord_36 rfl ?_
            refine G_iload_n 0 d_cX9_takeWord_37 rfl ?_
            refine G_putf (ws' := [(q12931, .inr (14, [.ref q12932, .int p12934, .int p12935, .int p12936, .int g13475])), (q12932, .inr (15, [.ref q12933, .int p12938])), (q12933, .inl (I .byte, 8192, .inl f12939))]) 0 4 d_cX9_takeWord_38 rfl (gk_X9 D I) (Nat.le_of_ble_eq_true rfl) w_1_83 rfl rfl rfl (Nat.le_of_ble_eq_true rfl) rfl ?_
            refine G_aload_n 1 d_cX9_takeWord_41 rfl ?_
            refine G_aload_n 1 d_cX9_takeWord_42 rfl ?_
            refine G_ldcK (a := D.2 1000 0) d_cX9_takeWord_43 (fun _ _ _ h => gx_vk 0 rfl rfl h) ?_
            have hl0_13545 : (sb_0.length : Int) = 2 := rfl
            refine G_callV (As := [.ref (D.2 1000 0)]) (wr := []) (gV_ok D I) (ct_12958_Signs_isWord l hl0 D I q12931 q12932 q12933 (D.2 1000 0) (D.2 1001 0) sb_0 p12934 p12935 p12936 g13475 p12938 f12939 (gx_sc 0 rfl rfl) (by omega) (gB_w bp12938' (by decide) (by decide)) bf12939 (by omega)) d_cX9_takeWord_45 ⟨w_3_53, w_1_4, w_3_56, by decide, rfl, (Nat.le_of_ble_eq_true rfl), (Nat.le_of_ble_eq_true rfl)⟩ w_3_55 w_p_5 0 rfl rfl [0, 1, 2] [] rfl rfl rfl rfl (by decide) (Nat.le_of_ble_eq_true rfl) (Nat.le_of_ble_eq_true rfl) (Nat.le_of_ble_eq_true rfl) (fun r w hp => ?_) (fun _ _ _ z => z.elim)
            obtain ⟨o13547, rfl, rfl, bo13547⟩ := hp
            change G _ _ _ _ _ _ _ (.int o13547 :: _) _ _ _
            refine G_ws (ws' := [(q12931, .inr (14, [.ref q12932, .int p12934, .int p12935, .int p12936, .int g13475])), (q12932, .inr (15, [.ref q12933, .int p12938])), (q12933, .inl (I .byte, 8192, .inl f12939))]) (cs' := 0) (sl' := 0) rfl rfl rfl ?_
            refine G_if_eq 56 d_cX9_takeWord_48 (by decide +kernel) (fun hc13548 => ?_) (fun hc13548 => ?_)
            · have r13549 : o13547.toInt = 0 := gj_eq hc13548 (show Int32.toInt 0 = 0 by decide)
              have bo13547' : gB o13547 0 0 := ⟨by omega, by omega⟩
              refine G_aload_n 1 d_cX9_takeWord_56 rfl ?_
              refine G_ldcK (a := D.2 1000 1) d_cX9_takeWord_57 (fun _ _ _ h => gx_vk 1 rfl rfl h) ?_
              have hl1_13549 : (sb_1.length : Int) = 4 := rfl
              refine G_callV (As := [.ref (D.2 1000 1)]) (wr := []) (gV_ok D I) (ct_12958_Signs_isWord l hl0 D I q12931 q12932 q12933 (D.2 1000 1) (D.2 1001 1) sb_1 p12934 p12935 p12936 g13475 p12938 f12939 (gx_sc 1 rfl rfl) (by omega) (gB_w bp12938' (by decide) (by decide)) bf12939 (by omega)) d_cX9_takeWord_59 ⟨w_3_53, w_1_4, w_3_56, by decide, rfl, (Nat.le_of_ble_eq_true rfl), (Nat.le_of_ble_eq_true rfl)⟩ w_3_55 w_p_5 0 rfl rfl [0, 1, 2] [] rfl rfl rfl rfl (by decide) (Nat.le_of_ble_eq_true rfl) (Nat.le_of_ble_eq_true rfl) (Nat.le_of_ble_eq_true rfl) (fun r w hp => ?_) (fun _ _ _ z => z.elim)
              obtain ⟨o13551, rfl, rfl, bo13551⟩ := hp
              change G _ _ _ _ _ _ _ (.int o13551 :: _) _ _ _
              refine G_ws (ws' := [(q12931, .inr (14, [.ref q12932, .int p12934, .int p12935, .int p12936, .int g13475])), (q12932, .inr (15, [.ref q12933, .int p12938])), (q12933, .inl (I .byte, 8192, .inl f12939))]) (cs' := 0) (sl' := 0) rfl rfl rfl ?_
              refine G_if_eq 70 d_cX9_takeWord_62 (by decide +kernel) (fun hc13552 => ?_) (fun hc13552 => ?_)
              · have r13553 : o13551.toInt = 0 := gj_eq hc13552 (show Int32.toInt 0 = 0 by decide)
                have bo13551' : gB o13551 0 0 := ⟨by omega, by omega⟩
                refine G_aload_n 1 d_cX9_takeWord_70 rfl ?_
                refine G_ldcK (a := D.2 1000 2) d_cX9_takeWord_71 (fun _ _ _ h => gx_vk 2 rfl rfl h) ?_
                have hl2_13553 : (sb_2.length : Int) = 2 := rfl
                refine G_callV (As := [.ref (D.2 1000 2)]) (wr := []) (gV_ok D I) (ct_12958_Signs_isWord l hl0 D I q12931 q12932 q12933 (D.2 1000 2) (D.2 1001 2) sb_2 p12934 p12935 p12936 g13475 p12938 f12939 (gx_sc 2 rfl rfl) (by omega) (gB_w bp12938' (by decide) (by decide)) bf12939 (by omega)) d_cX9_takeWord_73 ⟨w_3_53, w_1_4, w_3_56, by decide, rfl, (Nat.le_of_ble_eq_true rfl), (Nat.le_of_ble_eq_true rfl)⟩ w_3_55 w_p_5 0 rfl rfl [0, 1, 2] [] rfl rfl rfl rfl (by decide) (Nat.le_of_ble_eq_true rfl) (Nat.le_of_ble_eq_true rfl) (Nat.le_of_ble_eq_true rfl) (fun r w hp => ?_) (fun _ _ _ z => z.elim)
                obtain ⟨o13555, rfl, rfl, bo13555⟩ := hp
                change G _ _ _ _ _ _ _ (.int o13555 :: _) _ _ _
                refine G_ws (ws' := [(q12931, .inr (14, [.ref q12932, .int p12934, .int p12935, .int p12936, .int g13475])), (q12932, .inr (15, [.ref q12933, .int p12938])), (q12933, .inl (I .byte, 8192, .inl f12939))]) (cs' := 0) (sl' := 0) rfl rfl rfl ?_
                refine G_if_eq 84 d_cX9_takeWord_76 (by decide +kernel) (fun hc13556 => ?_) (fun hc13556 => ?_)
                · have r13557 : o13555.toInt = 0 := gj_eq hc13556 (show Int32.toInt 0 = 0 by decide)
                  have bo13555' : gB o13555 0 0 := ⟨by omega, by omega⟩
                  refine G_aload_n 1 d_cX9_takeWord_84 rfl ?_
                  refine G_ldcK (a := D.2 1000 3) d_cX9_takeWord_85 (fun _ _ _ h => gx_vk 3 rfl rfl h) ?_
                  have hl3_13557 : (sb_3.length : Int) = 4 := rfl
                  refine G_callV (As := [.ref (D.2 1000 3)]) (wr := []) (gV_ok D I) (ct_12958_Signs_isWord l hl0 D I q12931 q12932 q12933 (D.2 1000 3) (D.2 1001 3) sb_3 p12934 p12935 p12936 g13475 p12938 f12939 (gx_sc 3 rfl rfl) (by omega) (gB_w bp12938' (by decide) (by decide)) bf12939 (by omega)) d_cX9_takeWord_87 ⟨w_3_53, w_1_4, w_3_56, by decide, rfl, (Nat.le_of_ble_eq_true rfl), (Nat.le_of_ble_eq_true rfl)⟩ w_3_55 w_p_5 0 rfl rfl [0, 1, 2] [] rfl rfl rfl rfl (by decide) (Nat.le_of_ble_eq_true rfl) (Nat.le_of_ble_eq_true rfl) (Nat.le_of_ble_eq_true rfl) (fun r w hp => ?_) (fun _ _ _ z => z.elim)
                  obtain ⟨o13559, rfl, rfl, bo13559⟩ := hp
                  change G _ _ _ _ _ _ _ (.int o13559 :: _) _ _ _
                  refine G_ws (ws' := [(q12931, .inr (14, [.ref q12932, .int p12934, .int p12935, .int p12936, .int g13475])), (q12932, .inr (15, [.ref q12933, .int p12938])), (q12933, .inl (I .byte, 8192, .inl f12939))]) (cs' := 0) (sl' := 0) rfl rfl rfl ?_
                  refine G_if_eq 98 d_cX9_takeWord_90 (by decide +kernel) (fun hc13560 => ?_) (fun hc13560 => ?_)
                  · have r13561 : o13559.toInt = 0 := gj_eq hc13560 (show Int32.toInt 0 = 0 by decide)
                    have bo13559' : gB o13559 0 0 := ⟨by omega, by omega⟩
                    refine G_aload_n 1 d_cX9_takeWord_98 rfl ?_
                    refine G_ldcK (a := D.2 1000 4) d_cX9_takeWord_99 (fun _ _ _ h => gx_vk 4 rfl rfl h) ?_
                    have hl4_13561 : (sb_4.length : Int) = 3 := rfl
                    refine G_callV (As := [.ref (D.2 1000 4)]) (wr := []) (gV_ok D I) (ct_12958_Signs_isWord l hl0 D I q12931 q12932 q12933 (D.2 1000 4) (D.2 1001 4) sb_4 p12934 p12935 p12936 g13475 p12938 f12939 (gx_sc 4 rfl rfl) (by omega) (gB_w bp12938' (by decide) (by decide)) bf12939 (by omega)) d_cX9_takeWord_101 ⟨w_3_53, w_1_4, w_3_56, by decide, rfl, (Nat.le_of_ble_eq_true rfl), (Nat.le_of_ble_eq_true rfl)⟩ w_3_55 w_p_5 0 rfl rfl [0, 1, 2] [] rfl rfl rfl rfl (by decide) (Nat.le_of_ble_eq_true rfl) (Nat.le_of_ble_eq_true rfl) (Nat.le_of_ble_eq_true rfl) (fun r w hp => ?_) (fun _ _ _ z => z.elim)
                    obtain ⟨o13563, rfl, rfl, bo13563⟩ := hp
                    change G _ _ _ _ _ _ _ (.int o13563 :: _) _ _ _
                    refine G_ws (ws' := [(q12931, .inr (14, [.ref q12932, .int p12934, .int p12935, .int p12936, .int g13475])), (q12932, .inr (15, [.ref q12933, .int p12938])), (q12933, .inl (I .byte, 8192, .inl f12939))]) (cs' := 0) (sl' := 0) rfl rfl rfl ?_
                    refine G_if_eq 112 d_cX9_takeWord_104 (by decide +kernel) (fun hc13564 => ?_) (fun hc13564 => ?_)
                    · have r13565 : o13563.toInt = 0 := gj_eq hc13564 (show Int32.toInt 0 = 0 by decide)
                      have bo13563' : gB o13563 0 0 := ⟨by omega, by omega⟩
                      refine G_iconst 0 d_cX9_takeWord_112 (by decide +kernel) ?_
                      refine G_putf (ws' := [(q12931, .inr (14, [.ref q12932, .int 0, .int p12935, .int p12936, .int g13475])), (q12932, .inr (15, [.ref q12933, .int p12938])), (q12933, .inl (I .byte, 8192, .inl f12939))]) 0 1 d_cX9_takeWord_113 rfl (gk_X9 D I) (Nat.le_of_ble_eq_true rfl) w_1_80 rfl rfl rfl (Nat.le_of_ble_eq_true rfl) rfl ?_
                      exact G_vret d_cX9_takeWord_116 rfl (Nat.le_of_ble_eq_true rfl) (Nat.le_of_ble_eq_true rfl) ⟨0, g13475, rfl, rfl, (gB_w (gBl (show Int32.toInt 0 = 0 by decide)) (by decide) (by decide)), (gB_w bg13475'' (by decide) (by decide)), (by have qa0 : Int32.toInt 0 = 0 := (by decide); omega)⟩
                    · have r13566 : o13563.toInt ≠ 0 := gj_neq hc13564 (show Int32.toInt 0 = 0 by decide)
                      have bo13563' : gB o13563 1 1 := ⟨by omega, by omega⟩
                      refine G_bipush 12 d_cX9_takeWord_107 (by decide +kernel) ?_
                      refine G_goto 113 d_cX9_takeWord_109 (by decide +kernel) ?_
                      refine G_putf (ws' := [(q12931, .inr (14, [.ref q12932, .int 12, .int p12935, .int p12936, .int g13475])), (q12932, .inr (15, [.ref q12933, .int p12938])), (q12933, .inl (I .byte, 8192, .inl f12939))]) 0 1 d_cX9_takeWord_113 rfl (gk_X9 D I) (Nat.le_of_ble_eq_true rfl) w_1_80 rfl rfl rfl (Nat.le_of_ble_eq_true rfl) rfl ?_
                      exact G_vret d_cX9_takeWord_116 rfl (Nat.le_of_ble_eq_true rfl) (Nat.le_of_ble_eq_true rfl) ⟨12, g13475, rfl, rfl, (gB_w (gBl (show Int32.toInt 12 = 12 by decide)) (by decide) (by decide)), (gB_w bg13475'' (by decide) (by decide)), (by have qa0 : Int32.toInt 12 = 12 := (by decide); omega)⟩
                  · have r13567 : o13559.toInt ≠ 0 := gj_neq hc13560 (show Int32.toInt 0 = 0 by decide)
                    have bo13559' : gB o13559 1 1 := ⟨by omega, by omega⟩
                    refine G_bipush 11 d_cX9_takeWord_93 (by decide +kernel) ?_
                    refine G_goto 113 d_cX9_takeWord_95 (by decide +kernel) ?_
                    refine G_putf (ws' := [(q12931, .inr (14, [.ref q12932, .int 11, .int p12935, .int p12936, .int g13475])), (q12932, .inr (15, [.ref q12933, .int p12938])), (q12933, .inl (I .byte, 8192, .inl f12939))]) 0 1 d_cX9_takeWord_113 rfl (gk_X9 D I) (Nat.le_of_ble_eq_true rfl) w_1_80 rfl rfl rfl (Nat.le_of_ble_eq_true rfl) rfl ?_
                    exact G_vret d_cX9_takeWord_116 rfl (Nat.le_of_ble_eq_true rfl) (Nat.le_of_ble_eq_true rfl) ⟨11, g13475, rfl, rfl, (gB_w (gBl (show Int32.toInt 11 = 11 by decide)) (by decide) (by decide)), (gB_w bg13475'' (by decide) (by decide)), (by have qa0 : Int32.toInt 11 = 11 := (by decide); omega)⟩
                · have r13568 : o13555.toInt ≠ 0 := gj_neq hc13556 (show Int32.toInt 0 = 0 by decide)
                  have bo13555' : gB o13555 1 1 := ⟨by omega, by omega⟩
                  refine G_bipush 10 d_cX9_takeWord_79 (by decide +kernel) ?_
                  refine G_goto 113 d_cX9_takeWord_81 (by decide +kernel) ?_
                  refine G_putf (ws' := [(q12931, .inr (14, [.ref q12932, .int 10, .int p12935, .int p12936, .int g13475])), (q12932, .inr (15, [.ref q12933, .int p12938])), (q12933, .inl (I .byte, 8192, .inl f12939))]) 0 1 d_cX9_takeWord_113 rfl (gk_X9 D I) (Nat.le_of_ble_eq_true rfl) w_1_80 rfl rfl rfl (Nat.le_of_ble_eq_true rfl) rfl ?_
                  exact G_vret d_cX9_takeWord_116 rfl (Nat.le_of_ble_eq_true rfl) (Nat.le_of_ble_eq_true rfl) ⟨10, g13475, rfl, rfl, (gB_w (gBl (show Int32.toInt 10 = 10 by decide)) (by decide) (by decide)), (gB_w bg13475'' (by decide) (by decide)), (by have qa0 : Int32.toInt 10 = 10 := (by decide); omega)⟩
              · have r13569 : o13551.toInt ≠ 0 := gj_neq hc13552 (show Int32.toInt 0 = 0 by decide)
                have bo13551' : gB o13551 1 1 := ⟨by omega, by omega⟩
                refine G_bipush 9 d_cX9_takeWord_65 (by decide +kernel) ?_
                refine G_goto 113 d_cX9_takeWord_67 (by decide +kernel) ?_
                refine G_putf (ws' := [(q12931, .inr (14, [.ref q12932, .int 9, .int p12935, .int p12936, .int g13475])), (q12932, .inr (15, [.ref q12933, .int p12938])), (q12933, .inl (I .byte, 8192, .inl f12939))]) 0 1 d_cX9_takeWord_113 rfl (gk_X9 D I) (Nat.le_of_ble_eq_true rfl) w_1_80 rfl rfl rfl (Nat.le_of_ble_eq_true rfl) rfl ?_
                exact G_vret d_cX9_takeWord_116 rfl (Nat.le_of_ble_eq_true rfl) (Nat.le_of_ble_eq_true rfl) ⟨9, g13475, rfl, rfl, (gB_w (gBl (show Int32.toInt 9 = 9 by decide)) (by decide) (by decide)), (gB_w bg13475'' (by decide) (by decide)), (by have qa0 : Int32.toInt 9 = 9 := (by decide); omega)⟩
            · have r13570 : o13547.toInt ≠ 0 := gj_neq hc13548 (show Int32.toInt 0 = 0 by decide)
              have bo13547' : gB o13547 1 1 := ⟨by omega, by omega⟩
              refine G_bipush 8 d_cX9_takeWord_51 (by decide +kernel) ?_
              refine G_goto 113 d_cX9_takeWord_53 (by decide +kernel) ?_
              refine G_putf (ws' := [(q12931, .inr (14, [.ref q12932, .int 8, .int p12935, .int p12936, .int g13475])), (q12932, .inr (15, [.ref q12933, .int p12938])), (q12933, .inl (I .byte, 8192, .inl f12939))]) 0 1 d_cX9_takeWord_113 rfl (gk_X9 D I) (Nat.le_of_ble_eq_true rfl) w_1_80 rfl rfl rfl (Nat.le_of_ble_eq_true rfl) rfl ?_
              exact G_vret d_cX9_takeWord_116 rfl (Nat.le_of_ble_eq_true rfl) (Nat.le_of_ble_eq_true rfl) ⟨8, g13475, rfl, rfl, (gB_w (gBl (show Int32.toInt 8 = 8 by decide)) (by decide) (by decide)), (gB_w bg13475'' (by decide) (by decide)), (by have qa0 : Int32.toInt 8 = 8 := (by decide); omega)⟩
          · rw [show Int32.toInt (-1) = (-1) from by decide] at r13542
            exact absurd (show False by omega) not_false
          · rw [show Int32.toInt (-1) = (-1) from by decide] at r13544
            exact absurd (show False by omega) not_false
        · have bg13475'' : gB g13475 0 8191 := ⟨by omega, by omega⟩
          have bp12938' : gB p12938 1 8192 := ⟨by omega, by omega⟩
          change G _ _ _ _ _ _ _ (.int z13507 :: _) _ _ _
          refine G_ws (ws' := [(q12931, .inr (14, [.ref q12932, .int p12934, .int p12935, .int p12936, .int p12937])), (q12932, .inr (15, [.ref q12933, .int p12938])), (q12933, .inl (I .byte, 8192, .inl f12939))]) (cs' := 0) (sl' := 0) rfl rfl rfl ?_
          refine G_callS (As := [.int z13507]) (wr := [(q12931, .inr (14, [.ref q12932, .int p12934, .int p12935, .int p12936, .int p12937])), (q12932, .inr (15, [.ref q12933, .int p12938])), (q12933, .inl (I .byte, 8192, .inl f12939))]) (gV_ok D I) (ct_308_Signs_isLetter l hl0 D I z13507 ) d_cX9_takeWord_24 ⟨w_3_45, w_1_4, w_3_47, by decide, rfl, (Nat.le_of_ble_eq_true rfl), (Nat.le_of_ble_eq_true rfl)⟩ w_3_46 [] [0, 1, 2] rfl rfl rfl rfl (by decide) (Nat.le_of_ble_eq_true rfl) (Nat.le_of_ble_eq_true rfl) (Nat.le_of_ble_eq_true rfl) (fun r w hp => ?_) (fun _ _ _ z => z.elim)
          rcases hp with ⟨rfl, rfl, r13571⟩ | ⟨rfl, rfl, r13572, r13573⟩ | ⟨rfl, rfl, r13574, r13575⟩
          · have r13510' : gB z13507 0 96 := ⟨by omega, by omega⟩
            change G _ _ _ _ _ _ _ (.int 0 :: _) _ _ _
            refine G_ws (ws' := [(q12931, .inr (14, [.ref q12932, .int p12934, .int p12935, .int p12936, .int p12937])), (q12932, .inr (15, [.ref q12933, .int p12938])), (q12933, .inl (I .byte, 8192, .inl f12939))]) (cs' := 0) (sl' := 0) rfl rfl rfl ?_
            refine G_if_eq 36 d_cX9_takeWord_27 (by decide +kernel) (fun _ => ?_) (fun hc => absurd hc (by decide))
            refine G_aload_n 1 d_cX9_takeWord_36 rfl ?_
            refine G_iload_n 0 d_cX9_takeWord_37 rfl ?_
            refine G_putf (ws' := [(q12931, .inr (14, [.ref q12932, .int p12934, .int p12935, .int p12936, .int g13475])), (q12932, .inr (15, [.ref q12933, .int p12938])), (q12933, .inl (I .byte, 8192, .inl f12939))]) 0 4 d_cX9_takeWord_38 rfl (gk_X9 D I) (Nat.le_of_ble_eq_true rfl) w_1_83 rfl rfl rfl (Nat.le_of_ble_eq_true rfl) rfl ?_
            refine G_aload_n 1 d_cX9_takeWord_41 rfl ?_
            refine G_aload_n 1 d_cX9_takeWord_42 rfl ?_
            refine G_ldcK (a := D.2 1000 0) d_cX9_takeWord_43 (fun _ _ _ h => gx_vk 0 rfl rfl h) ?_
            have hl0_13575 : (sb_0.length : Int) = 2 := rfl
            refine G_callV (As := [.ref (D.2 1000 0)]) (wr := []) (gV_ok D I) (ct_12958_Signs_isWord l hl0 D I q12931 q12932 q12933 (D.2 1000 0) (D.2 1001 0) sb_0 p12934 p12935 p12936 g13475 p12938 f12939 (gx_sc 0 rfl rfl) (by omega) (gB_w bp12938' (by decide) (by decide)) bf12939 (by omega)) d_cX9_takeWord_45 ⟨w_3_53, w_1_4, w_3_56, by decide, rfl, (Nat.le_of_ble_eq_true rfl), (Nat.le_of_ble_eq_true rfl)⟩ w_3_55 w_p_5 0 rfl rfl [0, 1, 2] [] rfl rfl rfl rfl (by decide) (Nat.le_of_ble_eq_true rfl) (Nat.le_of_ble_eq_true rfl) (Nat.le_of_ble_eq_true rfl) (fun r w hp => ?_) (fun _ _ _ z => z.elim)
            obtain ⟨o13577, rfl, rfl, bo13577⟩ := hp
            change G _ _ _ _ _ _ _ (.int o13577 :: _) _ _ _
            refine G_ws (ws' := [(q12931, .inr (14, [.ref q12932, .int p12934, .int p12935, .int p12936, .int g13475])), (q12932, .inr (15, [.ref q12933, .int p12938])), (q12933, .inl (I .byte, 8192, .inl f12939))]) (cs' := 0) (sl' := 0) rfl rfl rfl ?_
            refine G_if_eq 56 d_cX9_takeWord_48 (by decide +kernel) (fun hc13578 => ?_) (fun hc13578 => ?_)
            · have r13579 : o13577.toInt = 0 := gj_eq hc13578 (show Int32.toInt 0 = 0 by decide)
              have bo13577' : gB o13577 0 0 := ⟨by omega, by omega⟩
              refine G_aload_n 1 d_cX9_takeWord_56 rfl ?_
              refine G_ldcK (a := D.2 1000 1) d_cX9_takeWord_57 (fun _ _ _ h => gx_vk 1 rfl rfl h) ?_
              have hl1_13579 : (sb_1.length : Int) = 4 := rfl
              refine G_callV (As := [.ref (D.2 1000 1)]) (wr := []) (gV_ok D I) (ct_12958_Signs_isWord l hl0 D I q12931 q12932 q12933 (D.2 1000 1) (D.2 1001 1) sb_1 p12934 p12935 p12936 g13475 p12938 f12939 (gx_sc 1 rfl rfl) (by omega) (gB_w bp12938' (by decide) (by decide)) bf12939 (by omega)) d_cX9_takeWord_59 ⟨w_3_53, w_1_4, w_3_56, by decide, rfl, (Nat.le_of_ble_eq_true rfl), (Nat.le_of_ble_eq_true rfl)⟩ w_3_55 w_p_5 0 rfl rfl [0, 1, 2] [] rfl rfl rfl rfl (by decide) (Nat.le_of_ble_eq_true rfl) (Nat.le_of_ble_eq_true rfl) (Nat.le_of_ble_eq_true rfl) (fun r w hp => ?_) (fun _ _ _ z => z.elim)
              obtain ⟨o13581, rfl, rfl, bo13581⟩ := hp
              change G _ _ _ _ _ _ _ (.int o13581 :: _) _ _ _
              refine G_ws (ws' := [(q12931, .inr (14, [.ref q12932, .int p12934, .int p12935, .int p12936, .int g13475])), (q12932, .inr (15, [.ref q12933, .int p12938])), (q12933, .inl (I .byte, 8192, .inl f12939))]) (cs' := 0) (sl' := 0) rfl rfl rfl ?_
              refine G_if_eq 70 d_cX9_takeWord_62 (by decide +kernel) (fun hc13582 => ?_) (fun hc13582 => ?_)
              · have r13583 : o13581.toInt = 0 := gj_eq hc13582 (show Int32.toInt 0 = 0 by decide)
                have bo13581' : gB o13581 0 0 := ⟨by omega, by omega⟩
                refine G_aload_n 1 d_cX9_takeWord_70 rfl ?_
                refine G_ldcK (a := D.2 1000 2) d_cX9_takeWord_71 (fun _ _ _ h => gx_vk 2 rfl rfl h) ?_
                have hl2_13583 : (sb_2.length : Int) = 2 := rfl
                refine G_callV (As := [.ref (D.2 1000 2)]) (wr := []) (gV_ok D I) (ct_12958_Signs_isWord l hl0 D I q12931 q12932 q12933 (D.2 1000 2) (D.2 1001 2) sb_2 p12934 p12935 p12936 g13475 p12938 f12939 (gx_sc 2 rfl rfl) (by omega) (gB_w bp12938' (by decide) (by decide)) bf12939 (by omega)) d_cX9_takeWord_73 ⟨w_3_53, w_1_4, w_3_56, by decide, rfl, (Nat.le_of_ble_eq_true rfl), (Nat.le_of_ble_eq_true rfl)⟩ w_3_55 w_p_5 0 rfl rfl [0, 1, 2] [] rfl rfl rfl rfl (by decide) (Nat.le_of_ble_eq_true rfl) (Nat.le_of_ble_eq_true rfl) (Nat.le_of_ble_eq_true rfl) (fun r w hp => ?_) (fun _ _ _ z => z.elim)
                obtain ⟨o13585, rfl, rfl, bo13585⟩ := hp
                change G _ _ _ _ _ _ _ (.int o13585 :: _) _ _ _
                refine G_ws (ws' := [(q12931, .inr (14, [.ref q12932, .int p12934, .int p12935, .int p12936, .int g13475])), (q12932, .inr (15, [.ref q12933, .int p12938])), (q12933, .inl (I .byte, 8192, .inl f12939))]) (cs' := 0) (sl' := 0) rfl rfl rfl ?_
                refine G_if_eq 84 d_cX9_takeWord_76 (by decide +kernel) (fun hc13586 => ?_) (fun hc13586 => ?_)
                · have r13587 : o13585.toInt = 0 := gj_eq hc13586 (show Int32.toInt 0 = 0 by decide)
                  have bo13585' : gB o13585 0 0 := ⟨by omega, by omega⟩
                  refine G_aload_n 1 d_cX9_takeWord_84 rfl ?_
                  refine G_ldcK (a := D.2 1000 3) d_cX9_takeWord_85 (fun _ _ _ h => gx_vk 3 rfl rfl h) ?_
                  have hl3_13587 : (sb_3.length : Int) = 4 := rfl
                  refine G_callV (As := [.ref (D.2 1000 3)]) (wr := []) (gV_ok D I) (ct_12958_Signs_isWord l hl0 D I q12931 q12932 q12933 (D.2 1000 3) (D.2 1001 3) sb_3 p12934 p12935 p12936 g13475 p12938 f12939 (gx_sc 3 rfl rfl) (by omega) (gB_w bp12938' (by decide) (by decide)) bf12939 (by omega)) d_cX9_takeWord_87 ⟨w_3_53, w_1_4, w_3_56, by decide, rfl, (Nat.le_of_ble_eq_true rfl), (Nat.le_of_ble_eq_true rfl)⟩ w_3_55 w_p_5 0 rfl rfl [0, 1, 2] [] rfl rfl rfl rfl (by decide) (Nat.le_of_ble_eq_true rfl) (Nat.le_of_ble_eq_true rfl) (Nat.le_of_ble_eq_true rfl) (fun r w hp => ?_) (fun _ _ _ z => z.elim)
                  obtain ⟨o13589, rfl, rfl, bo13589⟩ := hp
                  change G _ _ _ _ _ _ _ (.int o13589 :: _) _ _ _
                  refine G_ws (ws' := [(q12931, .inr (14, [.ref q12932, .int p12934, .int p12935, .int p12936, .int g13475])), (q12932, .inr (15, [.ref q12933, .int p12938])), (q12933, .inl (I .byte, 8192, .inl f12939))]) (cs' := 0) (sl' := 0) rfl rfl rfl ?_
                  refine G_if_eq 98 d_cX9_takeWord_90 (by decide +kernel) (fun hc13590 => ?_) (fun hc13590 => ?_)
                  · have r13591 : o13589.toInt = 0 := gj_eq hc13590 (show Int32.toInt 0 = 0 by decide)
                    have bo13589' : gB o13589 0 0 := ⟨by omega, by omega⟩
                    refine G_aload_n 1 d_cX9_takeWord_98 rfl ?_
                    refine G_ldcK (a := D.2 1000 4) d_cX9_takeWord_99 (fun _ _ _ h => gx_vk 4 rfl rfl h) ?_
                    have hl4_13591 : (sb_4.length : Int) = 3 := rfl
                    refine G_callV (As := [.ref (D.2 1000 4)]) (wr := []) (gV_ok D I) (ct_12958_Signs_isWord l hl0 D I q12931 q12932 q12933 (D.2 1000 4) (D.2 1001 4) sb_4 p12934 p12935 p12936 g13475 p12938 f12939 (gx_sc 4 rfl rfl) (by omega) (gB_w bp12938' (by decide) (by decide)) bf12939 (by omega)) d_cX9_takeWord_101 ⟨w_3_53, w_1_4, w_3_56, by decide, rfl, (Nat.le_of_ble_eq_true rfl), (Nat.le_of_ble_eq_true rfl)⟩ w_3_55 w_p_5 0 rfl rfl [0, 1, 2] [] rfl rfl rfl rfl (by decide) (Nat.le_of_ble_eq_true rfl) (Nat.le_of_ble_eq_true rfl) (Nat.le_of_ble_eq_true rfl) (fun r w hp => ?_) (fun _ _ _ z => z.elim)
                    obtain ⟨o13593, rfl, rfl, bo13593⟩ := hp
                    change G _ _ _ _ _ _ _ (.int o13593 :: _) _ _ _
                    refine G_ws (ws' := [(q12931, .inr (14, [.ref q12932, .int p12934, .int p12935, .int p12936, .int g13475])), (q12932, .inr (15, [.ref q12933, .int p12938])), (q12933, .inl (I .byte, 8192, .inl f12939))]) (cs' := 0) (sl' := 0) rfl rfl rfl ?_
                    refine G_if_eq 112 d_cX9_takeWord_104 (by decide +kernel) (fun hc13594 => ?_) (fun hc13594 => ?_)
                    · have r13595 : o13593.toInt = 0 := gj_eq hc13594 (show Int32.toInt 0 = 0 by decide)
                      have bo13593' : gB o13593 0 0 := ⟨by omega, by omega⟩
                      refine G_iconst 0 d_cX9_takeWord_112 (by decide +kernel) ?_
                      refine G_putf (ws' := [(q12931, .inr (14, [.ref q12932, .int 0, .int p12935, .int p12936, .int g13475])), (q12932, .inr (15, [.ref q12933, .int p12938])), (q12933, .inl (I .byte, 8192, .inl f12939))]) 0 1 d_cX9_takeWord_113 rfl (gk_X9 D I) (Nat.le_of_ble_eq_true rfl) w_1_80 rfl rfl rfl (Nat.le_of_ble_eq_true rfl) rfl ?_
                      exact G_vret d_cX9_takeWord_116 rfl (Nat.le_of_ble_eq_true rfl) (Nat.le_of_ble_eq_true rfl) ⟨0, g13475, rfl, rfl, (gB_w (gBl (show Int32.toInt 0 = 0 by decide)) (by decide) (by decide)), (gB_w bg13475'' (by decide) (by decide)), (by have qa0 : Int32.toInt 0 = 0 := (by decide); omega)⟩
                    · have r13596 : o13593.toInt ≠ 0 := gj_neq hc13594 (show Int32.toInt 0 = 0 by decide)
                      have bo13593' : gB o13593 1 1 := ⟨by omega, by omega⟩
                      refine G_bipush 12 d_cX9_takeWord_107 (by decide +kernel) ?_
                      refine G_goto 113 d_cX9_takeWord_109 (by decide +kernel) ?_
                      refine G_putf (ws' := [(q12931, .inr (14, [.ref q12932, .int 12, .int p12935, .int p12936, .int g13475])), (q12932, .inr (15, [.ref q12933, .int p12938])), (q12933, .inl (I .byte, 8192, .inl f12939))]) 0 1 d_cX9_takeWord_113 rfl (gk_X9 D I) (Nat.le_of_ble_eq_true rfl) w_1_80 rfl rfl rfl (Nat.le_of_ble_eq_true rfl) rfl ?_
                      exact G_vret d_cX9_takeWord_116 rfl (Nat.le_of_ble_eq_true rfl) (Nat.le_of_ble_eq_true rfl) ⟨12, g13475, rfl, rfl, (gB_w (gBl (show Int32.toInt 12 = 12 by decide)) (by decide) (by decide)), (gB_w bg13475'' (by decide) (by decide)), (by have qa0 : Int32.toInt 12 = 12 := (by decide); omega)⟩
                  · have r13597 : o13589.toInt ≠ 0 := gj_neq hc13590 (show Int32.toInt 0 = 0 by decide)
                    have bo13589' : gB o13589 1 1 := ⟨by omega, by omega⟩
                    refine G_bipush 11 d_cX9_takeWord_93 (by decide +kernel) ?_
                    refine G_goto 113 d_cX9_takeWord_95 (by decide +kernel) ?_
                    refine G_putf (ws' := [(q12931, .inr (14, [.ref q12932, .int 11, .int p12935, .int p12936, .int g13475])), (q12932, .inr (15, [.ref q12933, .int p12938])), (q12933, .inl (I .byte, 8192, .inl f12939))]) 0 1 d_cX9_takeWord_113 rfl (gk_X9 D I) (Nat.le_of_ble_eq_true rfl) w_1_80 rfl rfl rfl (Nat.le_of_ble_eq_true rfl) rfl ?_
                    exact G_vret d_cX9_takeWord_116 rfl (Nat.le_of_ble_eq_true rfl) (Nat.le_of_ble_eq_true rfl) ⟨11, g13475, rfl, rfl, (gB_w (gBl (show Int32.toInt 11 = 11 by decide)) (by decide) (by decide)), (gB_w bg13475'' (by decide) (by decide)), (by have qa0 : Int32.toInt 11 = 11 := (by decide); omega)⟩
                · have r13598 : o13585.toInt ≠ 0 := gj_neq hc13586 (show Int32.toInt 0 = 0 by decide)
                  have bo13585' : gB o13585 1 1 := ⟨by omega, by omega⟩
                  refine G_bipush 10 d_cX9_takeWord_79 (by decide +kernel) ?_
                  refine G_goto 113 d_cX9_takeWord_81 (by decide +kernel) ?_
                  refine G_putf (ws' := [(q12931, .inr (14, [.ref q12932, .int 10, .int p12935, .int p12936, .int g13475])), (q12932, .inr (15, [.ref q12933, .int p12938])), (q12933, .inl (I .byte, 8192, .inl f12939))]) 0 1 d_cX9_takeWord_113 rfl (gk_X9 D I) (Nat.le_of_ble_eq_true rfl) w_1_80 rfl rfl rfl (Nat.le_of_ble_eq_true rfl) rfl ?_
                  exact G_vret d_cX9_takeWord_116 rfl (Nat.le_of_ble_eq_true rfl) (Nat.le_of_ble_eq_true rfl) ⟨10, g13475, rfl, rfl, (gB_w (gBl (show Int32.toInt 10 = 10 by decide)) (by decide) (by decide)), (gB_w bg13475'' (by decide) (by decide)), (by have qa0 : Int32.toInt 10 = 10 := (by decide); omega)⟩
              · have r13599 : o13581.toInt ≠ 0 := gj_neq hc13582 (show Int32.toInt 0 = 0 by decide)
                have bo13581' : gB o13581 1 1 := ⟨by omega, by omega⟩
                refine G_bipush 9 d_cX9_takeWord_65 (by decide +kernel) ?_
                refine G_goto 113 d_cX9_takeWord_67 (by decide +kernel) ?_
                refine G_putf (ws' := [(q12931, .inr (14, [.ref q12932, .int 9, .int p12935, .int p12936, .int g13475])), (q12932, .inr (15, [.ref q12933, .int p12938])), (q12933, .inl (I .byte, 8192, .inl f12939))]) 0 1 d_cX9_takeWord_113 rfl (gk_X9 D I) (Nat.le_of_ble_eq_true rfl) w_1_80 rfl rfl rfl (Nat.le_of_ble_eq_true rfl) rfl ?_
                exact G_vret d_cX9_takeWord_116 rfl (Nat.le_of_ble_eq_true rfl) (Nat.le_of_ble_eq_true rfl) ⟨9, g13475, rfl, rfl, (gB_w (gBl (show Int32.toInt 9 = 9 by decide)) (by decide) (by decide)), (gB_w bg13475'' (by decide) (by decide)), (by have qa0 : Int32.toInt 9 = 9 := (by decide); omega)⟩
            · have r13600 : o13577.toInt ≠ 0 := gj_neq hc13578 (show Int32.toInt 0 = 0 by decide)
              have bo13577' : gB o13577 1 1 := ⟨by omega, by omega⟩
              refine G_bipush 8 d_cX9_takeWord_51 (by decide +kernel) ?_
              refine G_goto 113 d_cX9_takeWord_53 (by decide +kernel) ?_
              refine G_putf (ws' := [(q12931, .inr (14, [.ref q12932, .int 8, .int p12935, .int p12936, .int g13475])), (q12932, .inr (15, [.ref q12933, .int p12938])), (q12933, .inl (I .byte, 8192, .inl f12939))]) 0 1 d_cX9_takeWord_113 rfl (gk_X9 D I) (Nat.le_of_ble_eq_true rfl) w_1_80 rfl rfl rfl (Nat.le_of_ble_eq_true rfl) rfl ?_
              exact G_vret d_cX9_takeWord_116 rfl (Nat.le_of_ble_eq_true rfl) (Nat.le_of_ble_eq_true rfl) ⟨8, g13475, rfl, rfl, (gB_w (gBl (show Int32.toInt 8 = 8 by decide)) (by decide) (by decide)), (gB_w bg13475'' (by decide) (by decide)), (by have qa0 : Int32.toInt 8 = 8 := (by decide); omega)⟩
          · have r13510' : gB z13507 97 255 := ⟨by omega, by omega⟩
            have r13510'' : gB z13507 123 255 := ⟨by omega, by omega⟩
            change G _ _ _ _ _ _ _ (.int 0 :: _) _ _ _
            refine G_ws (ws' := [(q12931, .inr (14, [.ref q12932, .int p12934, .int p12935, .int p12936, .int p12937])), (q12932, .inr (15, [.ref q12933, .int p12938])), (q12933, .inl (I .byte, 8192, .inl f12939))]) (cs' := 0) (sl' := 0) rfl rfl rfl ?_
            refine G_if_eq 36 d_cX9_takeWord_27 (by decide +kernel) (fun _ => ?_) (fun hc => absurd hc (by decide))
            refine G_aload_n 1 d_cX9_takeWord_36 rfl ?_
            refine G_iload_n 0 d_cX9_takeWord_37 rfl ?_
            refine G_putf (ws' := [(q12931, .inr (14, [.ref q12932, .int p12934, .int p12935, .int p12936, .int g13475])), (q12932, .inr (15, [.ref q12933, .int p12938])), (q12933, .inl (I .byte, 8192, .inl f12939))]) 0 4 d_cX9_takeWord_38 rfl (gk_X9 D I) (Nat.le_of_ble_eq_true rfl) w_1_83 rfl rfl rfl (Nat.le_of_ble_eq_true rfl) rfl ?_
            refine G_aload_n 1 d_cX9_takeWord_41 rfl ?_
            refine G_aload_n 1 d_cX9_takeWord_42 rfl ?_
            refine G_ldcK (a := D.2 1000 0) d_cX9_takeWord_43 (fun _ _ _ h => gx_vk 0 rfl rfl h) ?_
            have hl0_13600 : (sb_0.length : Int) = 2 := rfl
            refine G_callV (As := [.ref (D.2 1000 0)]) (wr := []) (gV_ok D I) (ct_12958_Signs_isWord l hl0 D I q12931 q12932 q12933 (D.2 1000 0) (D.2 1001 0) sb_0 p12934 p12935 p12936 g13475 p12938 f12939 (gx_sc 0 rfl rfl) (by omega) (gB_w bp12938' (by decide) (by decide)) bf12939 (by omega)) d_cX9_takeWord_45 ⟨w_3_53, w_1_4, w_3_56, by decide, rfl, (Nat.le_of_ble_eq_true rfl), (Nat.le_of_ble_eq_true rfl)⟩ w_3_55 w_p_5 0 rfl rfl [0, 1, 2] [] rfl rfl rfl rfl (by decide) (Nat.le_of_ble_eq_true rfl) (Nat.le_of_ble_eq_true rfl) (Nat.le_of_ble_eq_true rfl) (fun r w hp => ?_) (fun _ _ _ z => z.elim)
            obtain ⟨o13602, rfl, rfl, bo13602⟩ := hp
            change G _ _ _ _ _ _ _ (.int o13602 :: _) _ _ _
            refine G_ws (ws' := [(q12931, .inr (14, [.ref q12932, .int p12934, .int p12935, .int p12936, .int g13475])), (q12932, .inr (15, [.ref q12933, .int p12938])), (q12933, .inl (I .byte, 8192, .inl f12939))]) (cs' := 0) (sl' := 0) rfl rfl rfl ?_
            refine G_if_eq 56 d_cX9_takeWord_48 (by decide +kernel) (fun hc13603 => ?_) (fun hc13603 => ?_)
            · have r13604 : o13602.toInt = 0 := gj_eq hc13603 (show Int32.toInt 0 = 0 by decide)
              have bo13602' : gB o13602 0 0 := ⟨by omega, by omega⟩
              refine G_aload_n 1 d_cX9_takeWord_56 rfl ?_
              refine G_ldcK (a := D.2 1000 1) d_cX9_takeWord_57 (fun _ _ _ h => gx_vk 1 rfl rfl h) ?_
              have hl1_13604 : (sb_1.length : Int) = 4 := rfl
              refine G_callV (As := [.ref (D.2 1000 1)]) (wr := []) (gV_ok D I) (ct_12958_Signs_isWord l hl0 D I q12931 q12932 q12933 (D.2 1000 1) (D.2 1001 1) sb_1 p12934 p12935 p12936 g13475 p12938 f12939 (gx_sc 1 rfl rfl) (by omega) (gB_w bp12938' (by decide) (by decide)) bf12939 (by omega)) d_cX9_takeWord_59 ⟨w_3_53, w_1_4, w_3_56, by decide, rfl, (Nat.le_of_ble_eq_true rfl), (Nat.le_of_ble_eq_true rfl)⟩ w_3_55 w_p_5 0 rfl rfl [0, 1, 2] [] rfl rfl rfl rfl (by decide) (Nat.le_of_ble_eq_true rfl) (Nat.le_of_ble_eq_true rfl) (Nat.le_of_ble_eq_true rfl) (fun r w hp => ?_) (fun _ _ _ z => z.elim)
              obtain ⟨o13606, rfl, rfl, bo13606⟩ := hp
              change G _ _ _ _ _ _ _ (.int o13606 :: _) _ _ _
              refine G_ws (ws' := [(q12931, .inr (14, [.ref q12932, .int p12934, .int p12935, .int p12936, .int g13475])), (q12932, .inr (15, [.ref q12933, .int p12938])), (q12933, .inl (I .byte, 8192, .inl f12939))]) (cs' := 0) (sl' := 0) rfl rfl rfl ?_
              refine G_if_eq 70 d_cX9_takeWord_62 (by decide +kernel) (fun hc13607 => ?_) (fun hc13607 => ?_)
              · have r13608 : o13606.toInt = 0 := gj_eq hc13607 (show Int32.toInt 0 = 0 by decide)
                have bo13606' : gB o13606 0 0 := ⟨by omega, by omega⟩
                refine G_aload_n 1 d_cX9_takeWord_70 rfl ?_
                refine G_ldcK (a := D.2 1000 2) d_cX9_takeWord_71 (fun _ _ _ h => gx_vk 2 rfl rfl h) ?_
                have hl2_13608 : (sb_2.length : Int) = 2 := rfl
                refine G_callV (As := [.ref (D.2 1000 2)]) (wr := []) (gV_ok D I) (ct_12958_Signs_isWord l hl0 D I q12931 q12932 q12933 (D.2 1000 2) (D.2 1001 2) sb_2 p12934 p12935 p12936 g13475 p12938 f12939 (gx_sc 2 rfl rfl) (by omega) (gB_w bp12938' (by decide) (by decide)) bf12939 (by omega)) d_cX9_takeWord_73 ⟨w_3_53, w_1_4, w_3_56, by decide, rfl, (Nat.le_of_ble_eq_true rfl), (Nat.le_of_ble_eq_true rfl)⟩ w_3_55 w_p_5 0 rfl rfl [0, 1, 2] [] rfl rfl rfl rfl (by decide) (Nat.le_of_ble_eq_true rfl) (Nat.le_of_ble_eq_true rfl) (Nat.le_of_ble_eq_true rfl) (fun r w hp => ?_) (fun _ _ _ z => z.elim)
                obtain ⟨o13610, rfl, rfl, bo13610⟩ := hp
                change G _ _ _ _ _ _ _ (.int o13610 :: _) _ _ _
                refine G_ws (ws' := [(q12931, .inr (14, [.ref q12932, .int p12934, .int p12935, .int p12936, .int g13475])), (q12932, .inr (15, [.ref q12933, .int p12938])), (q12933, .inl (I .byte, 8192, .inl f12939))]) (cs' := 0) (sl' := 0) rfl rfl rfl ?_
                refine G_if_eq 84 d_cX9_takeWord_76 (by decide +kernel) (fun hc13611 => ?_) (fun hc13611 => ?_)
                · have r13612 : o13610.toInt = 0 := gj_eq hc13611 (show Int32.toInt 0 = 0 by decide)
                  have bo13610' : gB o13610 0 0 := ⟨by omega, by omega⟩
                  refine G_aload_n 1 d_cX9_takeWord_84 rfl ?_
                  refine G_ldcK (a := D.2 1000 3) d_cX9_takeWord_85 (fun _ _ _ h => gx_vk 3 rfl rfl h) ?_
                  have hl3_13612 : (sb_3.length : Int) = 4 := rfl
                  refine G_callV (As := [.ref (D.2 1000 3)]) (wr := []) (gV_ok D I) (ct_12958_Signs_isWord l hl0 D I q12931 q12932 q12933 (D.2 1000 3) (D.2 1001 3) sb_3 p12934 p12935 p12936 g13475 p12938 f12939 (gx_sc 3 rfl rfl) (by omega) (gB_w bp12938' (by decide) (by decide)) bf12939 (by omega)) d_cX9_takeWord_87 ⟨w_3_53, w_1_4, w_3_56, by decide, rfl, (Nat.le_of_ble_eq_true rfl), (Nat.le_of_ble_eq_true rfl)⟩ w_3_55 w_p_5 0 rfl rfl [0, 1, 2] [] rfl rfl rfl rfl (by decide) (Nat.le_of_ble_eq_true rfl) (Nat.le_of_ble_eq_true rfl) (Nat.le_of_ble_eq_true rfl) (fun r w hp => ?_) (fun _ _ _ z => z.elim)
                  obtain ⟨o13614, rfl, rfl, bo13614⟩ := hp
                  change G _ _ _ _ _ _ _ (.int o13614 :: _) _ _ _
                  refine G_ws (ws' := [(q12931, .inr (14, [.ref q12932, .int p12934, .int p12935, .int p12936, .int g13475])), (q12932, .inr (15, [.ref q12933, .int p12938])), (q12933, .inl (I .byte, 8192, .inl f12939))]) (cs' := 0) (sl' := 0) rfl rfl rfl ?_
                  refine G_if_eq 98 d_cX9_takeWord_90 (by decide +kernel) (fun hc13615 => ?_) (fun hc13615 => ?_)
                  · have r13616 : o13614.toInt = 0 := gj_eq hc13615 (show Int32.toInt 0 = 0 by decide)
                    have bo13614' : gB o13614 0 0 := ⟨by omega, by omega⟩
                    refine G_aload_n 1 d_cX9_takeWord_98 rfl ?_
                    refine G_ldcK (a := D.2 1000 4) d_cX9_takeWord_99 (fun _ _ _ h => gx_vk 4 rfl rfl h) ?_
                    have hl4_13616 : (sb_4.length : Int) = 3 := rfl
                    refine G_callV (As := [.ref (D.2 1000 4)]) (wr := []) (gV_ok D I) (ct_12958_Signs_isWord l hl0 D I q12931 q12932 q12933 (D.2 1000 4) (D.2 1001 4) sb_4 p12934 p12935 p12936 g13475 p12938 f12939 (gx_sc 4 rfl rfl) (by omega) (gB_w bp12938' (by decide) (by decide)) bf12939 (by omega)) d_cX9_takeWord_101 ⟨w_3_53, w_1_4, w_3_56, by decide, rfl, (Nat.le_of_ble_eq_true rfl), (Nat.le_of_ble_eq_true rfl)⟩ w_3_55 w_p_5 0 rfl rfl [0, 1, 2] [] rfl rfl rfl rfl (by decide) (Nat.le_of_ble_eq_true rfl) (Nat.le_of_ble_eq_true rfl) (Nat.le_of_ble_eq_true rfl) (fun r w hp => ?_) (fun _ _ _ z => z.elim)
                    obtain ⟨o13618, rfl, rfl, bo13618⟩ := hp
                    change G _ _ _ _ _ _ _ (.int o13618 :: _) _ _ _
                    refine G_ws (ws' := [(q12931, .inr (14, [.ref q12932, .int p12934, .int p12935, .int p12936, .int g13475])), (q12932, .inr (15, [.ref q12933, .int p12938])), (q12933, .inl (I .byte, 8192, .inl f12939))]) (cs' := 0) (sl' := 0) rfl rfl rfl ?_
                    refine G_if_eq 112 d_cX9_takeWord_104 (by decide +kernel) (fun hc13619 => ?_) (fun hc13619 => ?_)
                    · have r13620 : o13618.toInt = 0 := gj_eq hc13619 (show Int32.toInt 0 = 0 by decide)
                      have bo13618' : gB o13618 0 0 := ⟨by omega, by omega⟩
                      refine G_iconst 0 d_cX9_takeWord_112 (by decide +kernel) ?_
                      refine G_putf (ws' := [(q12931, .inr (14, [.ref q12932, .int 0, .int p12935, .int p12936, .int g13475])), (q12932, .inr (15, [.ref q12933, .int p12938])), (q12933, .inl (I .byte, 8192, .inl f12939))]) 0 1 d_cX9_takeWord_113 rfl (gk_X9 D I) (Nat.le_of_ble_eq_true rfl) w_1_80 rfl rfl rfl (Nat.le_of_ble_eq_true rfl) rfl ?_
                      exact G_vret d_cX9_takeWord_116 rfl (Nat.le_of_ble_eq_true rfl) (Nat.le_of_ble_eq_true rfl) ⟨0, g13475, rfl, rfl, (gB_w (gBl (show Int32.toInt 0 = 0 by decide)) (by decide) (by decide)), (gB_w bg13475'' (by decide) (by decide)), (by have qa0 : Int32.toInt 0 = 0 := (by decide); omega)⟩
                    · have r13621 : o13618.toInt ≠ 0 := gj_neq hc13619 (show Int32.toInt 0 = 0 by decide)
                      have bo13618' : gB o13618 1 1 := ⟨by omega, by omega⟩
                      refine G_bipush 12 d_cX9_takeWord_107 (by decide +kernel) ?_
                      refine G_goto 113 d_cX9_takeWord_109 (by decide +kernel) ?_
                      refine G_putf (ws' := [(q12931, .inr (14, [.ref q12932, .int 12, .int p12935, .int p12936, .int g13475])), (q12932, .inr (15, [.ref q12933, .int p12938])), (q12933, .inl (I .byte, 8192, .inl f12939))]) 0 1 d_cX9_takeWord_113 rfl (gk_X9 D I) (Nat.le_of_ble_eq_true rfl) w_1_80 rfl rfl rfl (Nat.le_of_ble_eq_true rfl) rfl ?_
                      exact G_vret d_cX9_takeWord_116 rfl (Nat.le_of_ble_eq_true rfl) (Nat.le_of_ble_eq_true rfl) ⟨12, g13475, rfl, rfl, (gB_w (gBl (show Int32.toInt 12 = 12 by decide)) (by decide) (by decide)), (gB_w bg13475'' (by decide) (by decide)), (by have qa0 : Int32.toInt 12 = 12 := (by decide); omega)⟩
                  · have r13622 : o13614.toInt ≠ 0 := gj_neq hc13615 (show Int32.toInt 0 = 0 by decide)
                    have bo13614' : gB o13614 1 1 := ⟨by omega, by omega⟩
                    refine G_bipush 11 d_cX9_takeWord_93 (by decide +kernel) ?_
                    refine G_goto 113 d_cX9_takeWord_95 (by decide +kernel) ?_
                    refine G_putf (ws' := [(q12931, .inr (14, [.ref q12932, .int 11, .int p12935, .int p12936, .int g13475])), (q12932, .inr (15, [.ref q12933, .int p12938])), (q12933, .inl (I .byte, 8192, .inl f12939))]) 0 1 d_cX9_takeWord_113 rfl (gk_X9 D I) (Nat.le_of_ble_eq_true rfl) w_1_80 rfl rfl rfl (Nat.le_of_ble_eq_true rfl) rfl ?_
                    exact G_vret d_cX9_takeWord_116 rfl (Nat.le_of_ble_eq_true rfl) (Nat.le_of_ble_eq_true rfl) ⟨11, g13475, rfl, rfl, (gB_w (gBl (show Int32.toInt 11 = 11 by decide)) (by decide) (by decide)), (gB_w bg13475'' (by decide) (by decide)), (by have qa0 : Int32.toInt 11 = 11 := (by decide); omega)⟩
                · have r13623 : o13610.toInt ≠ 0 := gj_neq hc13611 (show Int32.toInt 0 = 0 by decide)
                  have bo13610' : gB o13610 1 1 := ⟨by omega, by omega⟩
                  refine G_bipush 10 d_cX9_takeWord_79 (by decide +kernel) ?_
                  refine G_goto 113 d_cX9_takeWord_81 (by decide +kernel) ?_
                  refine G_putf (ws' := [(q12931, .inr (14, [.ref q12932, .int 10, .int p12935, .int p12936, .int g13475])), (q12932, .inr (15, [.ref q12933, .int p12938])), (q12933, .inl (I .byte, 8192, .inl f12939))]) 0 1 d_cX9_takeWord_113 rfl (gk_X9 D I) (Nat.le_of_ble_eq_true rfl) w_1_80 rfl rfl rfl (Nat.le_of_ble_eq_true rfl) rfl ?_
                  exact G_vret d_cX9_takeWord_116 rfl (Nat.le_of_ble_eq_true rfl) (Nat.le_of_ble_eq_true rfl) ⟨10, g13475, rfl, rfl, (gB_w (gBl (show Int32.toInt 10 = 10 by decide)) (by decide) (by decide)), (gB_w bg13475'' (by decide) (by decide)), (by have qa0 : Int32.toInt 10 = 10 := (by decide); omega)⟩
              · have r13624 : o13606.toInt ≠ 0 := gj_neq hc13607 (show Int32.toInt 0 = 0 by decide)
                have bo13606' : gB o13606 1 1 := ⟨by omega, by omega⟩
                refine G_bipush 9 d_cX9_takeWord_65 (by decide +kernel) ?_
                refine G_goto 113 d_cX9_takeWord_67 (by decide +kernel) ?_
                refine G_putf (ws' := [(q12931, .inr (14, [.ref q12932, .int 9, .int p12935, .int p12936, .int g13475])), (q12932, .inr (15, [.ref q12933, .int p12938])), (q12933, .inl (I .byte, 8192, .inl f12939))]) 0 1 d_cX9_takeWord_113 rfl (gk_X9 D I) (Nat.le_of_ble_eq_true rfl) w_1_80 rfl rfl rfl (Nat.le_of_ble_eq_true rfl) rfl ?_
                exact G_vret d_cX9_takeWord_116 rfl (Nat.le_of_ble_eq_true rfl) (Nat.le_of_ble_eq_true rfl) ⟨9, g13475, rfl, rfl, (gB_w (gBl (show Int32.toInt 9 = 9 by decide)) (by decide) (by decide)), (gB_w bg13475'' (by decide) (by decide)), (by have qa0 : Int32.toInt 9 = 9 := (by decide); omega)⟩
            · have r13625 : o13602.toInt ≠ 0 := gj_neq hc13603 (show Int32.toInt 0 = 0 by decide)
              have bo13602' : gB o13602 1 1 := ⟨by omega, by omega⟩
              refine G_bipush 8 d_cX9_takeWord_51 (by decide +kernel) ?_
              refine G_goto 113 d_cX9_takeWord_53 (by decide +kernel) ?_
              refine G_putf (ws' := [(q12931, .inr (14, [.ref q12932, .int 8, .int p12935, .int p12936, .int g13475])), (q12932, .inr (15, [.ref q12933, .int p12938])), (q12933, .inl (I .byte, 8192, .inl f12939))]) 0 1 d_cX9_takeWord_113 rfl (gk_X9 D I) (Nat.le_of_ble_eq_true rfl) w_1_80 rfl rfl rfl (Nat.le_of_ble_eq_true rfl) rfl ?_
              exact G_vret d_cX9_takeWord_116 rfl (Nat.le_of_ble_eq_true rfl) (Nat.le_of_ble_eq_true rfl) ⟨8, g13475, rfl, rfl, (gB_w (gBl (show Int32.toInt 8 = 8 by decide)) (by decide) (by decide)), (gB_w bg13475'' (by decide) (by decide)), (by have qa0 : Int32.toInt 8 = 8 := (by decide); omega)⟩
          · have r13510' : gB z13507 97 255 := ⟨by omega, by omega⟩
            have r13510'' : gB z13507 97 122 := ⟨by omega, by omega⟩
            change G _ _ _ _ _ _ _ (.int 1 :: _) _ _ _
            refine G_ws (ws' := [(q12931, .inr (14, [.ref q12932, .int p12934, .int p12935, .int p12936, .int p12937])), (q12932, .inr (15, [.ref q12933, .int p12938])), (q12933, .inl (I .byte, 8192, .inl f12939))]) (cs' := 0) (sl' := 0) rfl rfl rfl ?_
            refine G_if_eq 36 d_cX9_takeWord_27 (by decide +kernel) (fun hc => absurd hc (by decide)) (fun _ => ?_)
            obtain ⟨z13626, hz13626⟩ : ∃ z : Int32, z = g13475 + Int32.ofInt 1 := ⟨_, rfl⟩
            have ez13626 : z13626.toInt = g13475.toInt + 1 := gI_inc hz13626 (by decide) bg13475'' (by decide) (by decide)
            have bz13626 : gB z13626 1 8192 := ⟨by omega, by omega⟩
            refine G_iinc (L' := [(1, .int z13626), (0, .ref q12931)]) z13626 0 d_cX9_takeWord_30 rfl hz13626.symm (Nat.le_of_ble_eq_true rfl) rfl ?_
            refine G_goto 5 d_cX9_takeWord_33 (by decide +kernel) ?_
            exact ih5_13475 z13626 (gB_w bz13626 (by decide) (by decide)) (by omega)
  exact hlp5_13475 (((2147483648 : Int) - p12936.toInt).toNat + 1) p12936 bp12936 (Nat.lt_succ_self _)
