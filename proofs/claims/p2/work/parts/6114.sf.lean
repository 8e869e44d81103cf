abbrev ky_16607_Listing_eightFrom : gKey := (cX4_eightFrom, 5, yX4_eightFrom.cls, (some FieldType.long), [], yX4_eightFrom.name, fun _ _ => True)
abbrev po_16607_Listing_eightFrom (I : FieldType → ClassId) (q16602 : Nat) (q16603 : Nat) (p16604 : Int32) (p16605 : Int32) (f16606 : Nat → Int32) : Option Value → va_W → Prop := fun r w => ∃ (ol16678 : Int64), r = some (.long ol16678) ∧ w = [(q16602, .inr (9, [.ref q16603, .int p16605])), (q16603, .inl (I .byte, 16384, .inl f16606))]
set_option maxRecDepth 100000 in
set_option maxHeartbeats 4000000 in
theorem ct_16607_Listing_eightFrom (l : Launch) (hl0 : l.stackTraces = false) (D : va_G) (I : FieldType → ClassId) (q16602 : Nat) (q16603 : Nat) (p16604 : Int32) (p16605 : Int32) (f16606 : Nat → Int32) (bp16605 : gB p16605 0 16384) (bf16606 : gF f16606 (-128) 127) : Ct (gV D I) l yX4_eightFrom cX4_eightFrom 5 (some FieldType.long) 0 0 0 0 [.ref q16602, .int p16604] [(q16602, .inr (9, [.ref q16603, .int p16605])), (q16603, .inl (I .byte, 16384, .inl f16606))] (po_16607_Listing_eightFrom I q16602 q16603 p16604 p16605 f16606) gN := by
  refine Ct_of hl0 (by decide) (Nat.le_of_ble_eq_true rfl) ?_
  have bp16604 := gB_any p16604
  refine G_lconst 0 d_cX4_eightFrom_0 rfl ?_
  refine G_lstore_n (L' := [(2, .long 0), (0, .ref q16602), (1, .int p16604)]) d_cX4_eightFrom_1 (Nat.le_of_ble_eq_true rfl) rfl ?_
  refine G_iload_n 2 d_cX4_eightFrom_2 rfl ?_
  refine G_istore (L' := [(4, .int p16604), (2, .long 0), (0, .ref q16602), (1, .int p16604)]) d_cX4_eightFrom_3 (Nat.le_of_ble_eq_true rfl) rfl ?_
  have hlp5_16655 : ∀ (n5_16655 : Nat) (g16654 : Int32) (gl16655 : Int64), gB g16654 (-2147483648) 2147483647 → ((2147483648 : Int) - g16654.toInt).toNat < n5_16655 → G (gV D I) l (gRm 0 0 0 0) (gM (gV D I) (po_16607_Listing_eightFrom I q16602 q16603 p16604 p16605 f16606) gN 0 0) ky_16607_Listing_eightFrom 5 [(4, .int g16654), (2, .long gl16655), (0, .ref q16602), (1, .int p16604)] [] [(q16602, .inr (9, [.ref q16603, .int p16605])), (q16603, .inl (I .byte, 16384, .inl f16606))] 0 0 := by
    intro n5_16655
    induction n5_16655 with
    | zero => intro g16654 gl16655 bg16654 hm5_16655; exact absurd hm5_16655 (Nat.not_lt_zero _)
    | succ n5_16655 ih5_16655 =>
      intro g16654 gl16655 bg16654 hm5_16655
      refine G_iload 0 d_cX4_eightFrom_5 rfl ?_
      refine G_iload_n 3 d_cX4_eightFrom_7 rfl ?_
      refine G_bipush 8 d_cX4_eightFrom_8 (by decide +kernel) ?_
      refine G_iadd d_cX4_eightFrom_10 (G_nam fun z16656 hz16656 => ?_)
      have bz16656 : gB z16656 (-2147483648) 2147483647 := gB_any z16656
      refine G_icmp_ge 56 d_cX4_eightFrom_11 (by decide +kernel) (fun hc16657 => ?_) (fun hc16657 => ?_)
      · have r16658 : z16656.toInt ≤ g16654.toInt := gC_le hc16657
        refine G_lload_n 1 d_cX4_eightFrom_56 rfl ?_
        exact G_lret d_cX4_eightFrom_57 rfl (Nat.le_of_ble_eq_true rfl) (Nat.le_of_ble_eq_true rfl) ⟨gl16655, rfl, rfl⟩
      · have r16659 : g16654.toInt < z16656.toInt := gC_nle hc16657
        have bg16654' : gB g16654 (-2147483648) 2147483646 := ⟨by omega, by omega⟩
        have bz16656' : gB z16656 (-2147483647) 2147483647 := ⟨by omega, by omega⟩
        refine G_lload_n 1 d_cX4_eightFrom_14 rfl ?_
        refine G_bipush 8 d_cX4_eightFrom_15 (by decide +kernel) ?_
        refine G_lshl d_cX4_eightFrom_17 (G_namL fun u16660 hu16660 => ?_)
        refine G_iload 0 d_cX4_eightFrom_18 rfl ?_
        refine G_if_lt 46 d_cX4_eightFrom_20 (by decide +kernel) (fun hc16661 => ?_) (fun hc16661 => ?_)
        · have r16662 : g16654.toInt < 0 := gj_lt hc16661 (show Int32.toInt 0 = 0 by decide)
          have bg16654'' : gB g16654 (-2147483648) (-1) := ⟨by omega, by omega⟩
          refine G_iconst 0 d_cX4_eightFrom_46 (by decide +kernel) ?_
          refine G_i2l d_cX4_eightFrom_47 (G_namL fun u16663 hu16663 => ?_)
          refine G_lor d_cX4_eightFrom_48 (G_namL fun u16664 hu16664 => ?_)
          refine G_lstore_n (L' := [(2, .long u16664), (4, .int g16654), (0, .ref q16602), (1, .int p16604)]) d_cX4_eightFrom_49 (Nat.le_of_ble_eq_true rfl) rfl ?_
          obtain ⟨z16665, hz16665⟩ : ∃ z : Int32, z = g16654 + Int32.ofInt 1 := ⟨_, rfl⟩
          have ez16665 : z16665.toInt = g16654.toInt + 1 := gI_inc hz16665 (by decide) bg16654'' (by decide) (by decide)
          have bz16665 : gB z16665 (-2147483647) 0 := ⟨by omega, by omega⟩
          refine G_iinc (L' := [(4, .int z16665), (2, .long u16664), (0, .ref q16602), (1, .int p16604)]) z16665 1 d_cX4_eightFrom_50 rfl hz16665.symm (Nat.le_of_ble_eq_true rfl) rfl ?_
          refine G_goto 5 d_cX4_eightFrom_53 (by decide +kernel) ?_
          exact ih5_16655 z16665 u16664 (gB_w bz16665 (by decide) (by decide)) (by omega)
        · have r16666 : 0 ≤ g16654.toInt := gj_nlt hc16661 (show Int32.toInt 0 = 0 by decide)
          have bg16654'' : gB g16654 0 2147483646 := ⟨by omega, by omega⟩
          refine G_iload 0 d_cX4_eightFrom_23 rfl ?_
          refine G_aload_n 2 d_cX4_eightFrom_25 rfl ?_
          refine G_getf 0 1 d_cX4_eightFrom_26 rfl (gk_X4 D I) (Nat.le_of_ble_eq_true rfl) w_2_201 rfl ?_
          refine G_icmp_ge 46 d_cX4_eightFrom_29 (by decide +kernel) (fun hc16667 => ?_) (fun hc16667 => ?_)
          · have r16668 : p16605.toInt ≤ g16654.toInt := gC_le hc16667
            refine G_iconst 0 d_cX4_eightFrom_46 (by decide +kernel) ?_
            refine G_i2l d_cX4_eightFrom_47 (G_namL fun u16669 hu16669 => ?_)
            refine G_lor d_cX4_eightFrom_48 (G_namL fun u16670 hu16670 => ?_)
            refine G_lstore_n (L' := [(2, .long u16670), (4, .int g16654), (0, .ref q16602), (1, .int p16604)]) d_cX4_eightFrom_49 (Nat.le_of_ble_eq_true rfl) rfl ?_
            obtain ⟨z16671, hz16671⟩ : ∃ z : Int32, z = g16654 + Int32.ofInt 1 := ⟨_, rfl⟩
            have ez16671 : z16671.toInt = g16654.toInt + 1 := gI_inc hz16671 (by decide) bg16654'' (by decide) (by decide)
            have bz16671 : gB z16671 1 2147483647 := ⟨by omega, by omega⟩
            refine G_iinc (L' := [(4, .int z16671), (2, .long u16670), (0, .ref q16602), (1, .int p16604)]) z16671 1 d_cX4_eightFrom_50 rfl hz16671.symm (Nat.le_of_ble_eq_true rfl) rfl ?_
            refine G_goto 5 d_cX4_eightFrom_53 (by decide +kernel) ?_
            exact ih5_16655 z16671 u16670 (gB_w bz16671 (by decide) (by decide)) (by omega)
          · have r16672 : g16654.toInt < p16605.toInt := gC_nle hc16667
            have bg16654''' : gB g16654 0 16383 := ⟨by omega, by omega⟩
            have bp16605' : gB p16605 1 16384 := ⟨by omega, by omega⟩
            refine G_aload_n 2 d_cX4_eightFrom_32 rfl ?_
            refine G_getf 0 0 d_cX4_eightFrom_33 rfl (gk_X4 D I) (Nat.le_of_ble_eq_true rfl) w_2_200 rfl ?_
            refine G_iload 0 d_cX4_eightFrom_36 rfl ?_
            refine G_bald 1 1 d_cX4_eightFrom_38 rfl rfl (gB_in bg16654''' (by decide) (by decide)) (G_nam fun z16673 hz16673 => ?_)
            have bz16673 : gB z16673 (-128) 127 := by rw [hz16673]; exact bf16606 _
            refine G_sipush 255 d_cX4_eightFrom_39 (by decide +kernel) ?_
            refine G_iand d_cX4_eightFrom_42 (G_nam fun z16674 hz16674 => ?_)
            have bz16674 : gB z16674 0 255 := gB_and hz16674 (gBl (show Int32.toInt 255 = 255 by decide)) (by decide)
            refine G_goto 47 d_cX4_eightFrom_43 (by decide +kernel) ?_
            refine G_i2l d_cX4_eightFrom_47 (G_namL fun u16675 hu16675 => ?_)
            refine G_lor d_cX4_eightFrom_48 (G_namL fun u16676 hu16676 => ?_)
            refine G_lstore_n (L' := [(2, .long u16676), (4, .int g16654), (0, .ref q16602), (1, .int p16604)]) d_cX4_eightFrom_49 (Nat.le_of_ble_eq_true rfl) rfl ?_
            obtain ⟨z16677, hz16677⟩ : ∃ z : Int32, z = g16654 + Int32.ofInt 1 := ⟨_, rfl⟩
            have ez16677 : z16677.toInt = g16654.toInt + 1 := gI_inc hz16677 (by decide) bg16654''' (by decide) (by decide)
            have bz16677 : gB z16677 1 16384 := ⟨by omega, by omega⟩
            refine G_iinc (L' := [(4, .int z16677), (2, .long u16676), (0, .ref q16602), (1, .int p16604)]) z16677 1 d_cX4_eightFrom_50 rfl hz16677.symm (Nat.le_of_ble_eq_true rfl) rfl ?_
            refine G_goto 5 d_cX4_eightFrom_53 (by decide +kernel) ?_
            exact ih5_16655 z16677 u16676 (gB_w bz16677 (by decide) (by decide)) (by omega)
  exact hlp5_16655 (((2147483648 : Int) - p16604.toInt).toNat + 1) p16604 0 bp16604 (Nat.lt_succ_self _)
abbrev ky_16738_Listing_addByte : gKey := (cX4_addByte, 2, yX4_addByte.cls, none, [], yX4_addByte.name, fun _ _ => True)
abbrev po_16738_Listing_addByte (I : FieldType → ClassId) (q16733 : Nat) (q16734 : Nat) (p16735 : Int32) (p16736 : Int32) (f16737 : Nat → Int32) : Option Value → va_W → Prop := fun r w => ∃ (o16745 : Int32) (f16746 : Nat → Int32), r = none ∧ w = [(q16733, .inr (9, [.ref q16734, .int o16745])), (q16734, .inl (I .byte, 16384, .inl f16746))] ∧ gB o16745 1 16384 ∧ gF f16746 (-128) 127
set_option maxRecDepth 100000 in
set_option maxHeartbeats 4000000 in
theorem ct_16738_Listing_addByte (l : Launch) (hl0 : l.stackTraces = false) (D : va_G) (I : FieldType → ClassId) (q16733 : Nat) (q16734 : Nat) (p16735 : Int32) (p16736 : Int32) (f16737 : Nat → Int32) (bp16735 : gB p16735 0 65535) (bp16736 : gB p16736 0 16384) (bf16737 : gF f16737 (-128) 127) : Ct (gV D I) l yX4_addByte cX4_addByte 2 none 0 0 0 0 [.ref q16733, .int p16735] [(q16733, .inr (9, [.ref q16734, .int p16736])), (q16734, .inl (I .byte, 16384, .inl f16737))] (po_16738_Listing_addByte I q16733 q16734 p16735 p16736 f16737) gN := by
  refine Ct_of hl0 (by decide) (Nat.le_of_ble_eq_true rfl) ?_
  refine G_aload_n 0 d_cX4_addByte_0 rfl ?_
  refine G_getf 0 1 d_cX4_addByte_1 rfl (gk_X4 D I) (Nat.le_of_ble_eq_true rfl) w_2_201 rfl ?_
  refine G_aload_n 0 d_cX4_addByte_4 rfl ?_
  refine G_getf 0 0 d_cX4_addByte_5 rfl (gk_X4 D I) (Nat.le_of_ble_eq_true rfl) w_2_200 rfl ?_
  refine G_alen 16384 1 1 d_cX4_addByte_8 rfl rfl rfl ?_
  refine G_icmp_ge 33 d_cX4_addByte_9 (by decide +kernel) (fun hc16739 => ?_) (fun hc16739 => ?_)
  · have r16740 : 16384 ≤ p16736.toInt := gj_leL hc16739 (show Int32.toInt 16384 = 16384 by decide)
    have bp16736' : gB p16736 16384 16384 := ⟨by omega, by omega⟩
    exact G_vret d_cX4_addByte_33 rfl (Nat.le_of_ble_eq_true rfl) (Nat.le_of_ble_eq_true rfl) ⟨p16736, f16737, rfl, rfl, (gB_w bp16736' (by decide) (by decide)), bf16737⟩
  · have r16741 : p16736.toInt < 16384 := gj_nleL hc16739 (show Int32.toInt 16384 = 16384 by decide)
    have bp16736' : gB p16736 0 16383 := ⟨by omega, by omega⟩
    refine G_aload_n 0 d_cX4_addByte_12 rfl ?_
    refine G_getf 0 0 d_cX4_addByte_13 rfl (gk_X4 D I) (Nat.le_of_ble_eq_true rfl) w_2_200 rfl ?_
    refine G_aload_n 0 d_cX4_addByte_16 rfl ?_
    refine G_getf 0 1 d_cX4_addByte_17 rfl (gk_X4 D I) (Nat.le_of_ble_eq_true rfl) w_2_201 rfl ?_
    refine G_iload_n 1 d_cX4_addByte_20 rfl ?_
    refine G_i2b d_cX4_addByte_21 (G_nam fun z16742 hz16742 => ?_)
    have bz16742 : gB z16742 (-128) 127 := gB_i2b hz16742
    refine G_bastN 1 1 d_cX4_addByte_22 rfl rfl (gB_in bp16736' (by decide) (by decide)) (fun f16743 hf16743 => ?_)
    refine G_ws (ws' := [(q16733, .inr (9, [.ref q16734, .int p16736])), (q16734, .inl (I .byte, 16384, .inl f16743))]) (cs' := 0) (sl' := 0) rfl rfl rfl ?_
    have bf16743 : gF f16743 (-128) 127 := gF_upd hf16743 bf16737 gB_byte
    refine G_aload_n 0 d_cX4_addByte_23 rfl ?_
    refine G_dup d_cX4_addByte_24 rfl ?_
    refine G_getf 0 1 d_cX4_addByte_25 rfl (gk_X4 D I) (Nat.le_of_ble_eq_true rfl) w_2_201 rfl ?_
    refine G_iconst 1 d_cX4_addByte_28 (by decide +kernel) ?_
    refine G_iadd d_cX4_addByte_29 (G_nam fun z16744 hz16744 => ?_)
    have ez16744 : z16744.toInt = p16736.toInt + 1 := by rw [gI_add hz16744 bp16736' (gBl (show Int32.toInt 1 = 1 by decide)) (by decide) (by decide), show Int32.toInt 1 = 1 from by decide]
    have bz16744 : gB z16744 1 16384 := gB_add (gI_add hz16744 bp16736' (gBl (show Int32.toInt 1 = 1 by decide)) (by decide) (by decide)) bp16736' (gBl (show Int32.toInt 1 = 1 by decide)) (by decide) (by decide)
    refine G_putf (ws' := [(q16733, .inr (9, [.ref q16734, .int z16744])), (q16734, .inl (I .byte, 16384, .inl f16743))]) 0 1 d_cX4_addByte_30 rfl (gk_X4 D I) (Nat.le_of_ble_eq_true rfl) w_2_201 rfl rfl rfl (Nat.le_of_ble_eq_true rfl) rfl ?_
    exact G_vret d_cX4_addByte_33 rfl (Nat.le_of_ble_eq_true rfl) (Nat.le_of_ble_eq_true rfl) ⟨z16744, f16743, rfl, rfl, bz16744, bf16743⟩
abbrev ky_16726_Listing_addText : gKey := (cX4_addText, 3, yX4_addText.cls, none, [], yX4_addText.name, fun _ _ => True)
abbrev po_16726_Listing_addText (I : FieldType → ClassId) (q16719 : Nat) (q16720 : Nat) (qs16721 : Nat) (qb16722 : Nat) (bs16723 : List Int32) (p16724 : Int32) (f16725 : Nat → Int32) : Option Value → va_W → Prop := fun r w => ∃ (o16821 : Int32) (f16822 : Nat → Int32), r = none ∧ w = [(q16719, .inr (9, [.ref q16720, .int o16821])), (q16720, .inl (I .byte, 16384, .inl f16822))] ∧ gB o16821 0 16384 ∧ gF f16822 (-128) 127
set_option maxRecDepth 100000 in
set_option maxHeartbeats 4000000 in
theorem ct_16726_Listing_addText (l : Launch) (hl0 : l.stackTraces = false) (D : va_G) (I : FieldType → ClassId) (q16719 : Nat) (q16720 : Nat) (qs16721 : Nat) (qb16722 : Nat) (bs16723 : List Int32) (p16724 : Int32) (f16725 : Nat → Int32) (hbs16723 : ∀ A s H, (gV D I).2.2.2.1 A s H → gSC qs16721 qb16722 bs16723 A s H) (nbs16723 : (bs16723.length : Int) ≤ 65535) (bp16724 : gB p16724 0 16384) (bf16725 : gF f16725 (-128) 127) : Ct (gV D I) l yX4_addText cX4_addText 3 none 4 85 0 0 [.ref q16719, .ref qs16721] [(q16719, .inr (9, [.ref q16720, .int p16724])), (q16720, .inl (I .byte, 16384, .inl f16725))] (po_16726_Listing_addText I q16719 q16720 qs16721 qb16722 bs16723 p16724 f16725) gN := by
  refine Ct_of hl0 (by decide) (Nat.le_of_ble_eq_true rfl) ?_
  refine G_iconst 0 d_cX4_addText_0 (by decide +kernel) ?_
  refine G_istore_n (L' := [(2, .int 0), (0, .ref q16719), (1, .ref qs16721)]) d_cX4_addText_1 (Nat.le_of_ble_eq_true rfl) rfl ?_
  have hlp2_16811 : ∀ (n2_16811 : Nat) (g16809 : Int32) (g16810 : Int32) (f16811 : Nat → Int32), gB g16809 0 65535 → gB g16810 0 16384 → gF f16811 (-128) 127 → ((65536 : Int) - g16809.toInt).toNat < n2_16811 → G (gV D I) l (gRm 4 85 0 0) (gM (gV D I) (po_16726_Listing_addText I q16719 q16720 qs16721 qb16722 bs16723 p16724 f16725) gN 0 0) ky_16726_Listing_addText 2 [(2, .int g16809), (0, .ref q16719), (1, .ref qs16721)] [] [(q16719, .inr (9, [.ref q16720, .int g16810])), (q16720, .inl (I .byte, 16384, .inl f16811))] 0 0 := by
    intro n2_16811
    induction n2_16811 with
    | zero => intro g16809 g16810 f16811 bg16809 bg16810 bf16811 hm2_16811; exact absurd hm2_16811 (Nat.not_lt_zero _)
    | succ n2_16811 ih2_16811 =>
      intro g16809 g16810 f16811 bg16809 bg16810 bf16811 hm2_16811
      refine G_iload_n 0 d_cX4_addText_2 rfl ?_
      refine G_aload_n 2 d_cX4_addText_3 rfl ?_
      refine G_callVk (As := []) (wr := [(q16719, .inr (9, [.ref q16720, .int g16810])), (q16720, .inl (I .byte, 16384, .inl f16811))]) (gV_ok D I) (ct_12963_String_length l hl0 D I qs16721 qb16722 bs16723 hbs16723 nbs16723) d_cX4_addText_4 ⟨w_6_169, w_1_21, w_3_60, by decide, rfl, (Nat.le_of_ble_eq_true rfl), (Nat.le_of_ble_eq_true rfl)⟩ w_3_58 w_3_59 (fun _ _ _ h => (hbs16723 _ _ _ h).1) [] [0, 1] rfl rfl rfl rfl (by decide) (Nat.le_of_ble_eq_true rfl) (Nat.le_of_ble_eq_true rfl) (Nat.le_of_ble_eq_true rfl) (fun r w hp => ?_) (fun _ _ _ z => z.elim)
      obtain ⟨o16812, rfl, rfl, bo16812, x16813⟩ := hp
      change G _ _ _ _ _ _ _ (.int o16812 :: _) _ _ _
      refine G_ws (ws' := [(q16719, .inr (9, [.ref q16720, .int g16810])), (q16720, .inl (I .byte, 16384, .inl f16811))]) (cs' := 0) (sl' := 0) rfl rfl rfl ?_
      refine G_icmp_ge 25 d_cX4_addText_7 (by decide +kernel) (fun hc16814 => ?_) (fun hc16814 => ?_)
      · have r16815 : o16812.toInt ≤ g16809.toInt := gC_le hc16814
        exact G_vret d_cX4_addText_25 rfl (Nat.le_of_ble_eq_true rfl) (Nat.le_of_ble_eq_true rfl) ⟨g16810, f16811, rfl, rfl, bg16810, bf16811⟩
      · have r16816 : g16809.toInt < o16812.toInt := gC_nle hc16814
        have bg16809' : gB g16809 0 65534 := ⟨by omega, by omega⟩
        have bo16812' : gB o16812 1 65535 := ⟨by omega, by omega⟩
        refine G_aload_n 1 d_cX4_addText_10 rfl ?_
        refine G_aload_n 2 d_cX4_addText_11 rfl ?_
        refine G_iload_n 0 d_cX4_addText_12 rfl ?_
        refine G_callVk (As := [.int g16809]) (wr := [(q16719, .inr (9, [.ref q16720, .int g16810])), (q16720, .inl (I .byte, 16384, .inl f16811))]) (gV_ok D I) (ct_12994_String_charAt l hl0 D I qs16721 qb16722 bs16723 g16809 hbs16723 nbs16723 (by omega) (by omega)) d_cX4_addText_13 ⟨w_6_170, w_1_21, w_3_70, by decide, rfl, (Nat.le_of_ble_eq_true rfl), (Nat.le_of_ble_eq_true rfl)⟩ w_3_68 w_3_69 (fun _ _ _ h => (hbs16723 _ _ _ h).1) [] [0, 1] rfl rfl rfl rfl (by decide) (Nat.le_of_ble_eq_true rfl) (Nat.le_of_ble_eq_true rfl) (Nat.le_of_ble_eq_true rfl) (fun r w hp => ?_) (fun _ _ _ z => z.elim)
        obtain ⟨o16817, rfl, rfl, bo16817⟩ := hp
        change G _ _ _ _ _ _ _ (.int o16817 :: _) _ _ _
        refine G_ws (ws' := [(q16719, .inr (9, [.ref q16720, .int g16810])), (q16720, .inl (I .byte, 16384, .inl f16811))]) (cs' := 0) (sl' := 0) rfl rfl rfl ?_
        refine G_callV (As := [.int o16817]) (wr := []) (gV_ok D I) (ct_16738_Listing_addByte l hl0 D I q16719 q16720 o16817 g16810 f16811 bo16817 bg16810 bf16811) d_cX4_addText_16 ⟨w_6_171, w_1_13, w_6_174, by decide, rfl, (Nat.le_of_ble_eq_true rfl), (Nat.le_of_ble_eq_true rfl)⟩ w_6_173 w_p_66 0 rfl rfl [0, 1] [] rfl rfl rfl rfl (by decide) (Nat.le_of_ble_eq_true rfl) (Nat.le_of_ble_eq_true rfl) (Nat.le_of_ble_eq_true rfl) (fun r w hp => ?_) (fun _ _ _ z => z.elim)
        obtain ⟨o16818, f16819, rfl, rfl, bo16818, bf16819⟩ := hp
        change G _ _ _ _ _ _ _ _ _ _ _
        refine G_ws (ws' := [(q16719, .inr (9, [.ref q16720, .int o16818])), (q16720, .inl (I .byte, 16384, .inl f16819))]) (cs' := 0) (sl' := 0) rfl rfl rfl ?_
        obtain ⟨z16820, hz16820⟩ : ∃ z : Int32, z = g16809 + Int32.ofInt 1 := ⟨_, rfl⟩
        have ez16820 : z16820.toInt = g16809.toInt + 1 := gI_inc hz16820 (by decide) bg16809' (by decide) (by decide)
        have bz16820 : gB z16820 1 65535 := ⟨by omega, by omega⟩
        refine G_iinc (L' := [(2, .int z16820), (0, .ref q16719), (1, .ref qs16721)]) z16820 0 d_cX4_addText_19 rfl hz16820.symm (Nat.le_of_ble_eq_true rfl) rfl ?_
        refine G_goto 2 d_cX4_addText_22 (by decide +kernel) ?_
        exact ih2_16811 z16820 o16818 f16819 (gB_w bz16820 (by decide) (by decide)) (gB_w bo16818 (by decide) (by decide)) bf16819 (by omega)
  exact hlp2_16811 (((65536 : Int) - 0).toNat + 1) 0 p16724 f16725 (gB_w (gBl (show Int32.toInt 0 = 0 by decide)) (by decide) (by decide)) bp16724 bf16725 (Nat.lt_succ_self _)
abbrev ky_16835_Math_abs : gKey := (cJ9_abs_067f4, 2, yJ9_abs_067f4.cls, (some FieldType.long), [], yJ9_abs_067f4.name, fun _ _ => True)
abbrev po_16835_Math_abs (I : FieldType → ClassId) (pl16834 : Int64) : Option Value → va_W → Prop := fun r w => ∃ (ol16841 : Int64), r = some (.long ol16841) ∧ w = []
set_option maxRecDepth 100000 in
set_option maxHeartbeats 4000000 in
theorem ct_16835_Math_abs (l : Launch) (hl0 : l.stackTraces = false) (D : va_G) (I : FieldType → ClassId) (pl16834 : Int64)  : Ct (gV D I) l yJ9_abs_067f4 cJ9_abs_067f4 2 (some FieldType.long) 0 0 0 0 [.long pl16834] [] (po_16835_Math_abs I pl16834) gN := by
  refine Ct_ofF hl0 (by decide +kernel) (Nat.le_of_ble_eq_true rfl) ?_
  refine G_lload_n 0 d_cJ9_abs_067f4_0 rfl ?_
  refine G_lconst 0 d_cJ9_abs_067f4_1 rfl ?_
  refine G_lcmp d_cJ9_abs_067f4_2 (G_nam fun z16836 hz16836 => ?_)
  have bz16836 : gB z16836 (-1) 1 := gB_cmp hz16836
  refine G_if_ge 11 d_cJ9_abs_067f4_3 (by decide +kernel) (fun hc16837 => ?_) (fun hc16837 => ?_)
  · have r16838 : 0 ≤ z16836.toInt := gj_leL hc16837 (show Int32.toInt 0 = 0 by decide)
    have bz16836' : gB z16836 0 1 := ⟨by omega, by omega⟩
    refine G_lload_n 0 d_cJ9_abs_067f4_11 rfl ?_
    exact G_lret d_cJ9_abs_067f4_12 rfl (Nat.le_of_ble_eq_true rfl) (Nat.le_of_ble_eq_true rfl) ⟨pl16834, rfl, rfl⟩
  · have r16839 : z16836.toInt < 0 := gj_nleL hc16837 (show Int32.toInt 0 = 0 by decide)
    have bz16836' : gB z16836 (-1) (-1) := ⟨by omega, by omega⟩
    have lhc16837 := gC_cmpS hz16836 (by omega)
    refine G_lload_n 0 d_cJ9_abs_067f4_6 rfl ?_
    refine G_lneg d_cJ9_abs_067f4_7 (G_namL fun u16840 hu16840 => ?_)
    refine G_goto 12 d_cJ9_abs_067f4_8 (by decide +kernel) ?_
    exact G_lret d_cJ9_abs_067f4_12 rfl (Nat.le_of_ble_eq_true rfl) (Nat.le_of_ble_eq_true rfl) ⟨u16840, rfl, rfl⟩
abbrev ky_16830_Listing_addNumber : gKey := (cX4_addNumber, 7, yX4_addNumber.cls, none, [], yX4_addNumber.name, fun _ _ => True)
abbrev po_16830_Listing_addNumber (I : FieldType → ClassId) (q16825 : Nat) (q16826 : Nat) (p16827 : Int32) (p16828 : Int32) (f16829 : Nat → Int32) : Option Value → va_W → Prop := fun r w => ∃ (o19446 : Int32) (f19447 : Nat → Int32), r = none ∧ w = [(q16825, .inr (9, [.ref q16826, .int o19446])), (q16826, .inl (I .byte, 16384, .inl f19447))] ∧ gB o19446 0 16384 ∧ gF f19447 (-128) 127
set_option maxRecDepth 100000 in
set_option maxHeartbeats 4000000 in
theorem ct_16830_Listing_addNumber (l : Launch) (hl0 : l.stackTraces = false) (D : va_G) (I : FieldType → ClassId) (q16825 : Nat) (q16826 : Nat) (p16827 : Int32) (p16828 : Int32) (f16829 : Nat → Int32) (bp16828 : gB p16828 0 16384) (bf16829 : gF f16829 (-128) 127) : Ct (gV D I) l yX4_addNumber cX4_addNumber 7 none 1 21 0 0 [.ref q16825, .int p16827] [(q16825, .inr (9, [.ref q16826, .int p16828])), (q16826, .inl (I .byte, 16384, .inl f16829))] (po_16830_Listing_addNumber I q16825 q16826 p16827 p16828 f16829) gN := by
  refine Ct_of hl0 (by decide) (Nat.le_of_ble_eq_true rfl) ?_
  have bp16827 := gB_any p16827
  refine G_iload_n 1 d_cX4_addNumber_0 rfl ?_
  refine G_if_ge 10 d_cX4_addNumber_1 (by decide +kernel) (fun hc16831 => ?_) (fun hc16831 => ?_)
  · have r16832 : 0 ≤ p16827.toInt := gj_leL hc16831 (show Int32.toInt 0 = 0 by decide)
    have bp16827' : gB p16827 0 2147483647 := ⟨by omega, by omega⟩
    refine G_iload_n 1 d_cX4_addNumber_10 rfl ?_
    refine G_i2l d_cX4_addNumber_11 (G_namL fun u16833 hu16833 => ?_)
    refine G_callS (As := [.long u16833]) (wr := [(q16825, .inr (9, [.ref q16826, .int p16828])), (q16826, .inl (I .byte, 16384, .inl f16829))]) (gV_ok D I) (ct_16835_Math_abs l hl0 D I u16833 ) d_cX4_addNumber_12 ⟨w_6_179, w_1_6, w_6_181, by decide, rfl, (Nat.le_of_ble_eq_true rfl), (Nat.le_of_ble_eq_true rfl)⟩ w_6_180 [] [0, 1] rfl rfl rfl rfl (by decide) (Nat.le_of_ble_eq_true rfl) (Nat.le_of_ble_eq_true rfl) (Nat.le_of_ble_eq_true rfl) (fun r w hp => ?_) (fun _ _ _ z => z.elim)
    obtain ⟨ol16842, rfl, rfl⟩ := hp
    change G _ _ _ _ _ _ _ (.long ol16842 :: _) _ _ _
    refine G_ws (ws' := [(q16825, .inr (9, [.ref q16826, .int p16828])), (q16826, .inl (I .byte, 16384, .inl f16829))]) (cs' := 0) (sl' := 0) rfl rfl rfl ?_
    refine G_lstore_n (L' := [(2, .long ol16842), (0, .ref q16825), (1, .int p16827)]) d_cX4_addNumber_15 (Nat.le_of_ble_eq_true rfl) rfl ?_
    refine G_lconst 1 d_cX4_addNumber_16 rfl ?_
    refine G_lstore (L' := [(4, .long 1), (2, .long ol16842), (0, .ref q16825), (1, .int p16827)]) d_cX4_addNumber_17 (Nat.le_of_ble_eq_true rfl) rfl ?_
    refine G_iconst 0 d_cX4_addNumber_19 (by decide +kernel) ?_
    refine G_istore (L' := [(6, .int 0), (4, .long 1), (2, .long ol16842), (0, .ref q16825), (1, .int p16827)]) d_cX4_addNumber_20 (Nat.le_of_ble_eq_true rfl) rfl ?_
    have hlp22_17885 : ∀ (n22_17885 : Nat) (g17884 : Int32) (gl17885 : Int64), gB g17884 0 9 → ((10 : Int) - g17884.toInt).toNat < n22_17885 → G (gV D I) l (gRm 1 21 0 0) (gM (gV D I) (po_16830_Listing_addNumber I q16825 q16826 p16827 p16828 f16829) gN 0 0) ky_16830_Listing_addNumber 22 [(6, .int g17884), (4, .long gl17885), (2, .long ol16842), (0, .ref q16825), (1, .int p16827)] [] [(q16825, .inr (9, [.ref q16826, .int p16828])), (q16826, .inl (I .byte, 16384, .inl f16829))] 0 0 := by
      intro n22_17885
      induction n22_17885 with
      | zero => intro g17884 gl17885 bg17884 hm22_17885; exact absurd hm22_17885 (Nat.not_lt_zero _)
      | succ n22_17885 ih22_17885 =>
        intro g17884 gl17885 bg17884 hm22_17885
        refine G_iload 0 d_cX4_addNumber_22 rfl ?_
        refine G_bipush 9 d_cX4_addNumber_24 (by decide +kernel) ?_
        refine G_icmp_ge 54 d_cX4_addNumber_26 (by decide +kernel) (fun hc17886 => ?_) (fun hc17886 => ?_)
        · have r17887 : 9 ≤ g17884.toInt := gj_leL hc17886 (show Int32.toInt 9 = 9 by decide)
          have bg17884' : gB g17884 9 9 := ⟨by omega, by omega⟩
          refine G_iconst 0 d_cX4_addNumber_54 (by decide +kernel) ?_
          refine G_istore (L' := [(6, .int 0), (4, .long gl17885), (2, .long ol16842), (0, .ref q16825), (1, .int p16827)]) d_cX4_addNumber_55 (Nat.le_of_ble_eq_true rfl) rfl ?_
          have hlp57_17994 : ∀ (n57_17994 : Nat) (g17991 : Int32) (gl17992 : Int64) (g17993 : Int32) (f17994 : Nat → Int32), gB g17991 0 10 → gB g17993 0 16384 → gF f17994 (-128) 127 → ((11 : Int) - g17991.toInt).toNat < n57_17994 → G (gV D I) l (gRm 1 21 0 0) (gM (gV D I) (po_16830_Listing_addNumber I q16825 q16826 p16827 p16828 f16829) gN 0 0) ky_16830_Listing_addNumber 57 [(6, .int g17991), (4, .long gl17992), (2, .long ol16842), (0, .ref q16825), (1, .int p16827)] [] [(q16825, .inr (9, [.ref q16826, .int g17993])), (q16826, .inl (I .byte, 16384, .inl f17994))] 0 0 := by
            intro n57_17994
            induction n57_17994 with
            | zero => intro g17991 gl17992 g17993 f17994 bg17991 bg17993 bf17994 hm57_17994; exact absurd hm57_17994 (Nat.not_lt_zero _)
            | succ n57_17994 ih57_17994 =>
              intro g17991 gl17992 g17993 f17994 bg17991 bg17993 bf17994 hm57_17994
              refine G_iload 0 d_cX4_addNumber_57 rfl ?_
              refine G_bipush 10 d_cX4_addNumber_59 (by decide +kernel) ?_
              refine G_icmp_ge 103 d_cX4_addNumber_61 (by decide +kernel) (fun hc17995 => ?_) (fun hc17995 => ?_)
              · have r17996 : 10 ≤ g17991.toInt := gj_leL hc17995 (show Int32.toInt 10 = 10 by decide)
                have bg17991' : gB g17991 10 10 := ⟨by omega, by omega⟩
                exact G_vret d_cX4_addNumber_103 rfl (Nat.le_of_ble_eq_true rfl) (Nat.le_of_ble_eq_true rfl) ⟨g17993, f17994, rfl, rfl, bg17993, bf17994⟩
              · have r17997 : g17991.toInt < 10 := gj_nleL hc17995 (show Int32.toInt 10 = 10 by decide)
                have bg17991' : gB g17991 0 9 := ⟨by omega, by omega⟩
                refine G_lload 1 d_cX4_addNumber_64 rfl ?_
                refine G_lconst 0 d_cX4_addNumber_66 rfl ?_
                refine G_lcmp d_cX4_addNumber_67 (G_nam fun z17998 hz17998 => ?_)
                have bz17998 : gB z17998 (-1) 1 := gB_cmp hz17998
                refine G_if_le 103 d_cX4_addNumber_68 (by decide +kernel) (fun hc17999 => ?_) (fun hc17999 => ?_)
                · have r18000 : z17998.toInt ≤ 0 := gj_le hc17999 (show Int32.toInt 0 = 0 by decide)
                  have bz17998' : gB z17998 (-1) 0 := ⟨by omega, by omega⟩
                  exact G_vret d_cX4_addNumber_103 rfl (Nat.le_of_ble_eq_true rfl) (Nat.le_of_ble_eq_true rfl) ⟨g17993, f17994, rfl, rfl, bg17993, bf17994⟩
                · have r18001 : 0 < z17998.toInt := gj_nle hc17999 (show Int32.toInt 0 = 0 by decide)
                  have bz17998' : gB z17998 1 1 := ⟨by omega, by omega⟩
                  have lhc17999 := gC_cmpS hz17998 (by omega)
                  refine G_aload_n 3 d_cX4_addNumber_71 rfl ?_
                  refine G_ldc2 48 d_cX4_addNumber_72 w_6_183 ?_
                  refine G_lload_n 2 d_cX4_addNumber_75 rfl ?_
                  refine G_lload 1 d_cX4_addNumber_76 rfl ?_
                  refine G_ldiv d_cX4_addNumber_78 lhc17999 (G_namL fun u18002 hu18002 => ?_)
                  refine G_ldc2 10 d_cX4_addNumber_79 w_6_182 ?_
                  refine G_lrem d_cX4_addNumber_82 (by decide) (G_namL fun u18003 hu18003 => ?_)
                  refine G_ladd d_cX4_addNumber_83 (G_namL fun u18004 hu18004 => ?_)
                  refine G_l2i d_cX4_addNumber_84 (G_nam fun z18005 hz18005 => ?_)
                  have bz18005 : gB z18005 (-2147483648) 2147483647 := gB_any z18005
                  refine G_i2c d_cX4_addNumber_85 (G_nam fun z18006 hz18006 => ?_)
                  have bz18006 : gB z18006 0 65535 := gB_i2c hz18006
                  refine G_callV (As := [.int z18006]) (wr := []) (gV_ok D I) (ct_16738_Listing_addByte l hl0 D I q16825 q16826 z18006 g17993 f17994 bz18006 bg17993 bf17994) d_cX4_addNumber_86 ⟨w_6_171, w_1_13, w_6_174, by decide, rfl, (Nat.le_of_ble_eq_true rfl), (Nat.le_of_ble_eq_true rfl)⟩ w_6_173 w_p_66 0 rfl rfl [0, 1] [] rfl rfl rfl rfl (by decide) (Nat.le_of_ble_eq_true rfl) (Nat.le_of_ble_eq_true rfl) (Nat.le_of_ble_eq_true rfl) (fun r w hp => ?_) (fun _ _ _ z => z.elim)
                  obtain ⟨o18007, f18008, rfl, rfl, bo18007, bf18008⟩ := hp
                  change G _ _ _ _ _ _ _ _ _ _ _
                  refine G_ws (ws' := [(q16825, .inr (9, [.ref q16826, .int o18007])), (q16826, .inl (I .byte, 16384, .inl f18008))]) (cs' := 0) (sl' := 0) rfl rfl rfl ?_
                  refine G_lload 1 d_cX4_addNumber_89 rfl ?_
                  refine G_ldc2 10 d_cX4_addNumber_91 w_6_182 ?_
                  refine G_ldiv d_cX4_addNumber_94 (by decide) (G_namL fun u18009 hu18009 => ?_)
                  refine G_lstore (L' := [(4, .long u18009), (6, .int g17991), (2, .long ol16842), (0, .ref q16825), (1, .int p16827)]) d_cX4_addNumber_95 (Nat.le_of_ble_eq_true rfl) rfl ?_
                  obtain ⟨z18010, hz18010⟩ : ∃ z : Int32, z = g17991 + Int32.ofInt 1 := ⟨_, rfl⟩
                  have ez18010 : z18010.toInt = g17991.toInt + 1 := gI_inc hz18010 (by decide) bg17991' (by decide) (by decide)
                  have bz18010 : gB z18010 1 10 := ⟨by omega, by omega⟩
                  refine G_iinc (L' := [(6, .int z18010), (4, .long u18009), (2, .long ol16842), (0, .ref q16825), (1, .int p16827)]) z18010 1 d_cX4_addNumber_97 rfl hz18010.symm (Nat.le_of_ble_eq_true rfl) rfl ?_
                  refine G_goto 57 d_cX4_addNumber_100 (by decide +kernel) ?_
                  exact ih57_17994 z18010 u18009 o18007 f18008 (gB_w bz18010 (by decide) (by decide)) (gB_w bo18007 (by decide) (by decide)) bf18008 (by omega)
          exact hlp57_17994 (((11 : Int) - 0).toNat + 1) 0 gl17885 p16828 f16829 (gB_w (gBl (show Int32.toInt 0 = 0 by decide)) (by decide) (by decide)) bp16828 bf16829 (Nat.lt_succ_self _)
        · have r18011 : g17884.toInt < 9 := gj_nleL hc17886 (show Int32.toInt 9 = 9 by decide)
          have bg17884' : gB g17884 0 8 := ⟨by omega, by omega⟩
          refine G_lload 1 d_cX4_addNumber_29 rfl ?_
          refine G_lload_n 2 d_cX4_addNumber_31 rfl ?_
          refine G_ldc2 10 d_cX4_addNumber_32 w_6_182 ?_
          refine G_ldiv d_cX4_addNumber_35 (by decide) (G_namL fun u18012 hu18012 => ?_)
          refine G_lcmp d_cX4_addNumber_36 (G_nam fun z18013 hz18013 => ?_)
          have bz18013 : gB z18013 (-1) 1 := gB_cmp hz18013
          refine G_if_gt 54 d_cX4_addNumber_37 (by decide +kernel) (fun hc18014 => ?_) (fun hc18014 => ?_)
          · have r18015 : 0 < z18013.toInt := gj_ltL hc18014 (show Int32.toInt 0 = 0 by decide)
            have bz18013' : gB z18013 1 1 := ⟨by omega, by omega⟩
            have lhc18014 := gC_cmpS hz18013 (by omega)
            refine G_iconst 0 d_cX4_addNumber_54 (by decide +kernel) ?_
            refine G_istore (L' := [(6, .int 0), (4, .long gl17885), (2, .long ol16842), (0, .ref q16825), (1, .int p16827)]) d_cX4_addNumber_55 (Nat.le_of_ble_eq_true rfl) rfl ?_
            have hlp57_18122 : ∀ (n57_18122 : Nat) (g18119 : Int32) (gl18120 : Int64) (g18121 : Int32) (f18122 : Nat → Int32), gB g18119 0 10 → gB g18121 0 16384 → gF f18122 (-128) 127 → ((11 : Int) - g18119.toInt).toNat < n57_18122 → G (gV D I) l (gRm 1 21 0 0) (gM (gV D I) (po_16830_Listing_addNumber I q16825 q16826 p16827 p16828 f16829) gN 0 0) ky_16830_Listing_addNumber 57 [(6, .int g18119), (4, .long gl18120), (2, .long ol16842), (0, .ref q16825), (1, .int p16827)] [] [(q16825, .inr (9, [.ref q16826, .int g18121])), (q16826, .inl (I .byte, 16384, .inl f18122))] 0 0 := by
              intro n57_18122
              induction n57_18122 with
              | zero => intro g18119 gl18120 g18121 f18122 bg18119 bg18121 bf18122 hm57_18122; exact absurd hm57_18122 (Nat.not_lt_zero _)
              | succ n57_18122 ih57_18122 =>
                intro g18119 gl18120 g18121 f18122 bg18119 bg18121 bf18122 hm57_18122
                refine G_iload 0 d_cX4_addNumber_57 rfl ?_
                refine G_bipush 10 d_cX4_addNumber_59 (by decide +kernel) ?_
                refine G_icmp_ge 103 d_cX4_addNumber_61 (by decide +kernel) (fun hc18123 => ?_) (fun hc18123 => ?_)
                · have r18124 : 10 ≤ g18119.toInt := gj_leL hc18123 (show Int32.toInt 10 = 10 by decide)
                  have bg18119' : gB g18119 10 10 := ⟨by omega, by omega⟩
                  exact G_vret d_cX4_addNumber_103 rfl (Nat.le_of_ble_eq_true rfl) (Nat.le_of_ble_eq_true rfl) ⟨g18121, f18122, rfl, rfl, bg18121, bf18122⟩
                · have r18125 : g18119.toInt < 10 := gj_nleL hc18123 (show Int32.toInt 10 = 10 by decide)
                  have bg18119' : gB g18119 0 9 := ⟨by omega, by omega⟩
                  refine G_lload 1 d_cX4_addNumber_64 rfl ?_
                  refine G_lconst 0 d_cX4_addNumber_66 rfl ?_
                  refine G_lcmp d_cX4_addNumber_67 (G_nam fun z18126 hz18126 => ?_)
                  have bz18126 : gB z18126 (-1) 1 := gB_cmp hz18126
                  refine G_if_le 103 d_cX4_addNumber_68 (by decide +kernel) (fun hc18127 => ?_) (fun hc18127 => ?_)
                  · have r18128 : z18126.toInt ≤ 0 := gj_le hc18127 (show Int32.toInt 0 = 0 by decide)
                    have bz18126' : gB z18126 (-1) 0 := ⟨by omega, by omega⟩
                    exact G_vret d_cX4_addNumber_103 rfl (Nat.le_of_ble_eq_true rfl) (Nat.le_of_ble_eq_true rfl) ⟨g18121, f18122, rfl, rfl, bg18121, bf18122⟩
                  · have r18129 : 0 < z18126.toInt := gj_nle hc18127 (show Int32.toInt 0 = 0 by decide)
                    have bz18126' : gB z18126 1 1 := ⟨by omega, by omega⟩
                    have lhc18127 := gC_cmpS hz18126 (by omega)
                    refine G_aload_n 3 d_cX4_addNumber_71 rfl ?_
                    refine G_ldc2 48 d_cX4_addNumber_72 w_6_183 ?_
                    refine G_lload_n 2 d_cX4_addNumber_75 rfl ?_
                    refine G_lload 1 d_cX4_addNumber_76 rfl ?_
                    refine G_ldiv d_cX4_addNumber_78 lhc18127 (G_namL fun u18130 hu18130 => ?_)
                    refine G_ldc2 10 d_cX4_addNumber_79 w_6_182 ?_
                    refine G_lrem d_cX4_addNumber_82 (by decide) (G_namL fun u18131 hu18131 => ?_)
                    refine G_ladd d_cX4_addNumber_83 (G_namL fun u18132 hu18132 => ?_)
                    refine G_l2i d_cX4_addNumber_84 (G_nam fun z18133 hz18133 => ?_)
                    have bz18133 : gB z18133 (-2147483648) 2147483647 := gB_any z18133
                    refine G_i2c d_cX4_addNumber_85 (G_nam fun z18134 hz18134 => ?_)
                    have bz18134 : gB z18134 0 65535 := gB_i2c hz18134
                    refine G_callV (As := [.int z18134]) (wr := []) (gV_ok D I) (ct_16738_Listing_addByte l hl0 D I q16825 q16826 z18134 g18121 f18122 bz18134 bg18121 bf18122) d_cX4_addNumber_86 ⟨w_6_171, w_1_13, w_6_174, by decide, rfl, (Nat.le_of_ble_eq_true rfl), (Nat.le_of_ble_eq_true rfl)⟩ w_6_173 w_p_66 0 rfl rfl [0, 1] [] rfl rfl rfl rfl (by decide) (Nat.le_of_ble_eq_true rfl) (Nat.le_of_ble_eq_true rfl) (Nat.le_of_ble_eq_true rfl) (fun r w hp => ?_) (fun _ _ _ z => z.elim)
                    obtain ⟨o18135, f18136, rfl, rfl, bo18135, bf18136⟩ := hp
                    change G _ _ _ _ _ _ _ _ _ _ _
                    refine G_ws (ws' := [(q16825, .inr (9, [.ref q16826, .int o18135])), (q16826, .inl (I .byte, 16384, .inl f18136))]) (cs' := 0) (sl' := 0) rfl rfl rfl ?_
                    refine G_lload 1 d_cX4_addNumber_89 rfl ?_
                    refine G_ldc2 10 d_cX4_addNumber_91 w_6_182 ?_
                    refine G_ldiv d_cX4_addNumber_94 (by decide) (G_namL fun u18137 hu18137 => ?_)
                    refine G_lstore (L' := [(4, .long u18137), (6, .int g18119), (2, .long ol16842), (0, .ref q16825), (1, .int p16827)]) d_cX4_addNumber_95 (Nat.le_of_ble_eq_true rfl) rfl ?_
                    obtain ⟨z18138, hz18138⟩ : ∃ z : Int32, z = g18119 + Int32.ofInt 1 := ⟨_, rfl⟩
                    have ez18138 : z18138.toInt = g18119.toInt + 1 := gI_inc hz18138 (by decide) bg18119' (by decide) (by decide)
                    have bz18138 : gB z18138 1 10 := ⟨by omega, by omega⟩
                    refine G_iinc (L' := [(6, .int z18138), (4, .long u18137), (2, .long ol16842), (0, .ref q16825), (1, .int p16827)]) z18138 1 d_cX4_addNumber_97 rfl hz18138.symm (Nat.le_of_ble_eq_true rfl) rfl ?_
                    refine G_goto 57 d_cX4_addNumber_100 (by decide +kernel) ?_
                    exact ih57_18122 z18138 u18137 o18135 f18136 (gB_w bz18138 (by decide) (by decide)) (gB_w bo18135 (by decide) (by decide)) bf18136 (by omega)
            exact hlp57_18122 (((11 : Int) - 0).toNat + 1) 0 gl17885 p16828 f16829 (gB_w (gBl (show Int32.toInt 0 = 0 by decide)) (by decide) (by decide)) bp16828 bf16829 (Nat.lt_succ_self _)
          · have r18139 : z18013.toInt ≤ 0 := gj_nltL hc18014 (show Int32.toInt 0 = 0 by decide)
            have bz18013' : gB z18013 (-1) 0 := ⟨by omega, by omega⟩
            refine G_lload 1 d_cX4_addNumber_40 rfl ?_
            refine G_ldc2 10 d_cX4_addNumber_42 w_6_182 ?_
            refine G_lmul d_cX4_addNumber_45 (G_namL fun u18140 hu18140 => ?_)
            refine G_lstore (L' := [(4, .long u18140), (6, .int g17884), (2, .long ol16842), (0, .ref q16825), (1, .int p16827)]) d_cX4_addNumber_46 (Nat.le_of_ble_eq_true rfl) rfl ?_
            obtain ⟨z18141, hz18141⟩ : ∃ z : Int32, z = g17884 + Int32.ofInt 1 := ⟨_, rfl⟩
            have ez18141 : z18141.toInt = g17884.toInt + 1 := gI_inc hz18141 (by decide) bg17884' (by decide) (by decide)
            have bz18141 : gB z18141 1 9 := ⟨by omega, by omega⟩
            refine G_iinc (L' := [(6, .int z18141), (4, .long u18140), (2, .long ol16842), (0, .ref q16825), (1, .int p16827)]) z18141 1 d_cX4_addNumber_48 rfl hz18141.symm (Nat.le_of_ble_eq_true rfl) rfl ?_
            refine G_goto 22 d_cX4_addNumber_51 (by decide +kernel) ?_
            exact ih22_17885 z18141 u18140 (gB_w bz18141 (by decide) (by decide)) (by omega)
    exact hlp22_17885 (((10 : Int) - 0).toNat + 1) 0 1 (gB_w (gBl (show Int32.toInt 0 = 0 by decide)) (by decide) (by decide)) (Nat.lt_succ_self _)
  · have r18142 : p16827.toInt < 0 := gj_nleL hc16831 (show Int32.toInt 0 = 0 by decide)
    have bp16827' : gB p16827 (-2147483648) (-1) := ⟨by omega, by omega⟩
    refine G_aload_n 0 d_cX4_addNumber_4 rfl ?_
    refine G_bipush 45 d_cX4_addNumber_5 (by decide +kernel) ?_
    refine G_callV (As := [.int 45]) (wr := []) (gV_ok D I) (ct_16738_Listing_addByte l hl0 D I q16825 q16826 45 p16828 f16829 (gB_w (gBl (show Int32.toInt 45 = 45 by decide)) (by decide) (by decide)) bp16828 bf16829) d_cX4_addNumber_7 ⟨w_6_171, w_1_13, w_6_174, by decide, rfl, (Nat.le_of_ble_eq_true rfl), (Nat.le_of_ble_eq_true rfl)⟩ w_6_173 w_p_66 0 rfl rfl [0, 1] [] rfl rfl rfl rfl (by decide) (Nat.le_of_ble_eq_true rfl) (Nat.le_of_ble_eq_true rfl) (Nat.le_of_ble_eq_true rfl) (fun r w hp => ?_) (fun _ _ _ z => z.elim)
    obtain ⟨o18143, f18144, rfl, rfl, bo18143, bf18144⟩ := hp
    change G _ _ _ _ _ _ _ _ _ _ _
    refine G_ws (ws' := [(q16825, .inr (9, [.ref q16826, .int o18143])), (q16826, .inl (I .byte, 16384, .inl f18144))]) (cs' := 0) (sl' := 0) rfl rfl rfl ?_
    refine G_iload_n 1 d_cX4_addNumber_10 rfl ?_
    refine G_i2l d_cX4_addNumber_11 (G_namL fun u18145 hu18145 => ?_)
    refine G_callS (As := [.long u18145]) (wr := [(q16825, .inr (9, [.ref q16826, .int o18143])), (q16826, .inl (I .byte, 16384, .inl f18144))]) (gV_ok D I) (ct_16835_Math_abs l hl0 D I u18145 ) d_cX4_addNumber_12 ⟨w_6_179, w_1_6, w_6_181, by decide, rfl, (Nat.le_of_ble_eq_true rfl), (Nat.le_of_ble_eq_true rfl)⟩ w_6_180 [] [0, 1] rfl rfl rfl rfl (by decide) (Nat.le_of_ble_eq_true rfl) (Nat.le_of_ble_eq_true rfl) (Nat.le_of_ble_eq_true rfl) (fun r w hp => ?_) (fun _ _ _ z => z.elim)
    obtain ⟨ol18146, rfl, rfl⟩ := hp
    change G _ _ _ _ _ _ _ (.long ol18146 :: _) _ _ _
    refine G_ws (ws' := [(q16825, .inr (9, [.ref q16826, .int o18143])), (q16826, .inl (I .byte, 16384, .inl f18144))]) (cs' := 0) (sl' := 0) rfl rfl rfl ?_
    refine G_lstore_n (L' := [(2, .long ol18146), (0, .ref q16825), (1, .int p16827)]) d_cX4_addNumber_15 (Nat.le_of_ble_eq_true rfl) rfl ?_
    refine G_lconst 1 d_cX4_addNumber_16 rfl ?_
    refine G_lstore (L' := [(4, .long 1), (2, .long ol18146), (0, .ref q16825), (1, .int p16827)]) d_cX4_addNumber_17 (Nat.le_of_ble_eq_true rfl) rfl ?_
    refine G_iconst 0 d_cX4_addNumber_19 (by decide +kernel) ?_
    refine G_istore (L' := [(6, .int 0), (4, .long 1), (2, .long ol18146), (0, .ref q16825), (1, .int p16827)]) d_cX4_addNumber_20 (Nat.le_of_ble_eq_true rfl) rfl ?_
    have hlp22_19189 : ∀ (n22_19189 : Nat) (g19188 : Int32) (gl19189 : Int64), gB g19188 0 9 → ((10 : Int) - g19188.toInt).toNat < n22_19189 → G (gV D I) l (gRm 1 21 0 0) (gM (gV D I) (po_16830_Listing_addNumber I q16825 q16826 p16827 p16828 f16829) gN 0 0) ky_16830_Listing_addNumber 22 [(6, .int g19188), (4, .long gl19189), (2, .long ol18146), (0, .ref q16825), (1, .int p16827)] [] [(q16825, .inr (9, [.ref q16826, .int o18143])), (q16826, .inl (I .byte, 16384, .inl f18144))] 0 0 := by
      intro n22_19189
      induction n22_19189 with
      | zero => intro g19188 gl19189 bg19188 hm22_19189; exact absurd hm22_19189 (Nat.not_lt_zero _)
      | succ n22_19189 ih22_19189 =>
        intro g19188 gl19189 bg19188 hm22_19189
        refine G_iload 0 d_cX4_addNumber_22 rfl ?_
        refine G_bipush 9 d_cX4_addNumber_24 (by decide +kernel) ?_
        refine G_icmp_ge 54 d_cX4_addNumber_26 (by decide +kernel) (fun hc19190 => ?_) (fun hc19190 => ?_)
        · have r19191 : 9 ≤ g19188.toInt := gj_leL hc19190 (show Int32.toInt 9 = 9 by decide)
          have bg19188' : gB g19188 9 9 := ⟨by omega, by omega⟩
          refine G_iconst 0 d_cX4_addNumber_54 (by decide +kernel) ?_
          refine G_istore (L' := [(6, .int 0), (4, .long gl19189), (2, .long ol18146), (0, .ref q16825), (1, .int p16827)]) d_cX4_addNumber_55 (Nat.le_of_ble_eq_true rfl) rfl ?_
          have hlp57_19298 : ∀ (n57_19298 : Nat) (g19295 : Int32) (gl19296 : Int64) (g19297 : Int32) (f19298 : Nat → Int32), gB g19295 0 10 → gB g19297 0 16384 → gF f19298 (-128) 127 → ((11 : Int) - g19295.toInt).toNat < n57_19298 → G (gV D I) l (gRm 1 21 0 0) (gM (gV D I) (po_16830_Listing_addNumber I q16825 q16826 p16827 p16828 f16829) gN 0 0) ky_16830_Listing_addNumber 57 [(6, .int g19295), (4, .long gl19296), (2, .long ol18146), (0, .ref q16825), (1, .int p16827)] [] [(q16825, .inr (9, [.ref q16826, .int g19297])), (q16826, .inl (I .byte, 16384, .inl f19298))] 0 0 := by
            intro n57_19298
            induction n57_19298 with
            | zero => intro g19295 gl19296 g19297 f19298 bg19295 bg19297 bf19298 hm57_19298; exact absurd hm57_19298 (Nat.not_lt_zero _)
            | succ n57_19298 ih57_19298 =>
              intro g19295 gl19296 g19297 f19298 bg19295 bg19297 bf19298 hm57_19298
              refine G_iload 0 d_cX4_addNumber_57 rfl ?_
              refine G_bipush 10 d_cX4_addNumber_59 (by decide +kernel) ?_
              refine G_icmp_ge 103 d_cX4_addNumber_61 (by decide +kernel) (fun hc19299 => ?_) (fun hc19299 => ?_)
              · have r19300 : 10 ≤ g19295.toInt := gj_leL hc19299 (show Int32.toInt 10 = 10 by decide)
                have bg19295' : gB g19295 10 10 := ⟨by omega, by omega⟩
                exact G_vret d_cX4_addNumber_103 rfl (Nat.le_of_ble_eq_true rfl) (Nat.le_of_ble_eq_true rfl) ⟨g19297, f19298, rfl, rfl, bg19297, bf19298⟩
              · have r19301 : g19295.toInt < 10 := gj_nleL hc19299 (show Int32.toInt 10 = 10 by decide)
                have bg19295' : gB g19295 0 9 := ⟨by omega, by omega⟩
                refine G_lload 1 d_cX4_addNumber_64 rfl ?_
                refine G_lconst 0 d_cX4_addNumber_66 rfl ?_
                refine G_lcmp d_cX4_addNumber_67 (G_nam fun z19302 hz19302 => ?_)
                have bz19302 : gB z19302 (-1) 1 := gB_cmp hz19302
                refine G_if_le 103 d_cX4_addNumber_68 (by decide +kernel) (fun hc19303 => ?_) (fun hc19303 => ?_)
                · have r19304 : z19302.toInt ≤ 0 := gj_le hc19303 (show Int32.toInt 0 = 0 by decide)
                  have bz19302' : gB z19302 (-1) 0 := ⟨by omega, by omega⟩
                  exact G_vret d_cX4_addNumber_103 rfl (Nat.le_of_ble_eq_true rfl) (Nat.le_of_ble_eq_true rfl) ⟨g19297, f19298, rfl, rfl, bg19297, bf19298⟩
                · have r19305 : 0 < z19302.toInt := gj_nle hc19303 (show Int32.toInt 0 = 0 by decide)
                  have bz19302' : gB z19302 1 1 := ⟨by omega, by omega⟩
                  have lhc19303 := gC_cmpS hz19302 (by omega)
                  refine G_aload_n 3 d_cX4_addNumber_71 rfl ?_
                  refine G_ldc2 48 d_cX4_addNumber_72 w_6_183 ?_
                  refine G_lload_n 2 d_cX4_addNumber_75 rfl ?_
                  refine G_lload 1 d_cX4_addNumber_76 rfl ?_
                  refine G_ldiv d_cX4_addNumber_78 lhc19303 (G_namL fun u19306 hu19306 => ?_)
                  refine G_ldc2 10 d_cX4_addNumber_79 w_6_182 ?_
                  refine G_lrem d_cX4_addNumber_82 (by decide) (G_namL fun u19307 hu19307 => ?_)
                  refine G_ladd d_cX4_addNumber_83 (G_namL fun u19308 hu19308 => ?_)
                  refine G_l2i d_cX4_addNumber_84 (G_nam fun z19309 hz19309 => ?_)
                  have bz19309 : gB z19309 (-2147483648) 2147483647 := gB_any z19309
                  refine G_i2c d_cX4_addNumber_85 (G_nam fun z19310 hz19310 => ?_)
                  have bz19310 : gB z19310 0 65535 := gB_i2c hz19310
                  refine G_callV (As := [.int z19310]) (wr := []) (gV_ok D I) (ct_16738_Listing_addByte l hl0 D I q16825 q16826 z19310 g19297 f19298 bz19310 bg19297 bf19298) d_cX4_addNumber_86 ⟨w_6_171, w_1_13, w_6_174, by decide, rfl, (Nat.le_of_ble_eq_true rfl), (Nat.le_of_ble_eq_true rfl)⟩ w_6_173 w_p_66 0 rfl rfl [0, 1] [] rfl rfl rfl rfl (by decide) (Nat.le_of_ble_eq_true rfl) (Nat.le_of_ble_eq_true rfl) (Nat.le_of_ble_eq_true rfl) (fun r w hp => ?_) (fun _ _ _ z => z.elim)
                  obtain ⟨o19311, f19312, rfl, rfl, bo19311, bf19312⟩ := hp
                  change G _ _ _ _ _ _ _ _ _ _ _
                  refine G_ws (ws' := [(q16825, .inr (9, [.ref q16826, .int o19311])), (q16826, .inl (I .byte, 16384, .inl f19312))]) (cs' := 0) (sl' := 0) rfl rfl rfl ?_
                  refine G_lload 1 d_cX4_addNumber_89 rfl ?_
                  refine G_ldc2 10 d_cX4_addNumber_91 w_6_182 ?_
                  refine G_ldiv d_cX4_addNumber_94 (by decide) (G_namL fun u19313 hu19313 => ?_)
                  refine G_lstore (L' := [(4, .long u19313), (6, .int g19295), (2, .long ol18146), (0, .ref q16825), (1, .int p16827)]) d_cX4_addNumber_95 (Nat.le_of_ble_eq_true rfl) rfl ?_
                  obtain ⟨z19314, hz19314⟩ : ∃ z : Int32, z = g19295 + Int32.ofInt 1 := ⟨_, rfl⟩
                  have ez19314 : z19314.toInt = g19295.toInt + 1 := gI_inc hz19314 (by decide) bg19295' (by decide) (by decide)
                  have bz19314 : gB z19314 1 10 := ⟨by omega, by omega⟩
                  refine G_iinc (L' := [(6, .int z19314), (4, .long u19313), (2, .long ol18146), (0, .ref q16825), (1, .int p16827)]) z19314 1 d_cX4_addNumber_97 rfl hz19314.symm (Nat.le_of_ble_eq_true rfl) rfl ?_
                  refine G_goto 57 d_cX4_addNumber_100 (by decide +kernel) ?_
                  exact ih57_19298 z19314 u19313 o19311 f19312 (gB_w bz19314 (by decide) (by decide)) (gB_w bo19311 (by decide) (by decide)) bf19312 (by omega)
          exact hlp57_19298 (((11 : Int) - 0).toNat + 1) 0 gl19189 o18143 f18144 (gB_w (gBl (show Int32.toInt 0 = 0 by decide)) (by decide) (by decide)) (gB_w bo18143 (by decide) (by decide)) bf18144 (Nat.lt_succ_self _)
        · have r19315 : g19188.toInt < 9 := gj_nleL hc19190 (show Int32.toInt 9 = 9 by decide)
          have bg19188' : gB g19188 0 8 := ⟨by omega, by omega⟩
          refine G_lload 1 d_cX4_addNumber_29 rfl ?_
          refine G_lload_n 2 d_cX4_addNumber_31 rfl ?_
          refine G_ldc2 10 d_cX4_addNumber_32 w_6_182 ?_
          refine G_ldiv d_cX4_addNumber_35 (by decide) (G_namL fun u19316 hu19316 => ?_)
          refine G_lcmp d_cX4_addNumber_36 (G_nam fun z19317 hz19317 => ?_)
          have bz19317 : gB z19317 (-1) 1 := gB_cmp hz19317
          refine G_if_gt 54 d_cX4_addNumber_37 (by decide +kernel) (fun hc19318 => ?_) (fun hc19318 => ?_)
          · have r19319 : 0 < z19317.toInt := gj_ltL hc19318 (show Int32.toInt 0 = 0 by decide)
            have bz19317' : gB z19317 1 1 := ⟨by omega, by omega⟩
            have lhc19318 := gC_cmpS hz19317 (by omega)
            refine G_iconst 0 d_cX4_addNumber_54 (by decide +kernel) ?_
            refine G_istore (L' := [(6, .int 0), (4, .long gl19189), (2, .long ol18146), (0, .ref q16825), (1, .int p16827)]) d_cX4_addNumber_55 (Nat.le_of_ble_eq_true rfl) rfl ?_
            have hlp57_19426 : ∀ (n57_19426 : Nat) (g19423 : Int32) (gl19424 : Int64) (g19425 : Int32) (f19426 : Nat → Int32), gB g19423 0 10 → gB g19425 0 16384 → gF f19426 (-128) 127 → ((11 : Int) - g19423.toInt).toNat < n57_19426 → G (gV D I) l (gRm 1 21 0 0) (gM (gV D I) (po_16830_Listing_addNumber I q16825 q16826 p16827 p16828 f16829) gN 0 0) ky_16830_Listing_addNumber 57 [(6, .int g19423), (4, .long gl19424), (2, .long ol18146), (0, .ref q16825), (1, .int p16827)] [] [(q16825, .inr (9, [.ref q16826, .int g19425])), (q16826, .inl (I .byte, 16384, .inl f19426))] 0 0 := by
              intro n57_19426
              induction n57_19426 with
              | zero => intro g19423 gl19424 g19425 f19426 bg19423 bg19425 bf19426 hm57_19426; exact absurd hm57_19426 (Nat.not_lt_zero _)
              | succ n57_19426 ih57_19426 =>
                intro g19423 gl19424 g19425 f19426 bg19423 bg19425 bf19426 hm57_19426
                refine G_iload 0 d_cX4_addNumber_57 rfl ?_
                refine G_bipush 10 d_cX4_addNumber_59 (by decide +kernel) ?_
                refine G_icmp_ge 103 d_cX4_addNumber_61 (by decide +kernel) (fun hc19427 => ?_) (fun hc19427 => ?_)
                · have r19428 : 10 ≤ g19423.toInt := gj_leL hc19427 (show Int32.toInt 10 = 10 by decide)
                  have bg19423' : gB g19423 10 10 := ⟨by omega, by omega⟩
                  exact G_vret d_cX4_addNumber_103 rfl (Nat.le_of_ble_eq_true rfl) (Nat.le_of_ble_eq_true rfl) ⟨g19425, f19426, rfl, rfl, bg19425, bf19426⟩
                · have r19429 : g19423.toInt < 10 := gj_nleL hc19427 (show Int32.toInt 10 = 10 by decide)
                  have bg19423' : gB g19423 0 9 := ⟨by omega, by omega⟩
                  refine G_lload 1 d_cX4_addNumber_64 rfl ?_
                  refine G_lconst 0 d_cX4_addNumber_66 rfl ?_
                  refine G_lcmp d_cX4_addNumber_67 (G_nam fun z19430 hz19430 => ?_)
                  have bz19430 : gB z19430 (-1) 1 := gB_cmp hz19430
                  refine G_if_le 103 d_cX4_addNumber_68 (by decide +kernel) (fun hc19431 => ?_) (fun hc19431 => ?_)
                  · have r19432 : z19430.toInt ≤ 0 := gj_le hc19431 (show Int32.toInt 0 = 0 by decide)
                    have bz19430' : gB z19430 (-1) 0 := ⟨by omega, by omega⟩
                    exact G_vret d_cX4_addNumber_103 rfl (Nat.le_of_ble_eq_true rfl) (Nat.le_of_ble_eq_true rfl) ⟨g19425, f19426, rfl, rfl, bg19425, bf19426⟩
                  · have r19433 : 0 < z19430.toInt := gj_nle hc19431 (show Int32.toInt 0 = 0 by decide)
                    have bz19430' : gB z19430 1 1 := ⟨by omega, by omega⟩
                    have lhc19431 := gC_cmpS hz19430 (by omega)
                    refine G_aload_n 3 d_cX4_addNumber_71 rfl ?_
                    refine G_ldc2 48 d_cX4_addNumber_72 w_6_183 ?_
                    refine G_lload_n 2 d_cX4_addNumber_75 rfl ?_
                    refine G_lload 1 d_cX4_addNumber_76 rfl ?_
                    refine G_ldiv d_cX4_addNumber_78 lhc19431 (G_namL fun u19434 hu19434 => ?_)
                    refine G_ldc2 10 d_cX4_addNumber_79 w_6_182 ?_
                    refine G_lrem d_cX4_addNumber_82 (by decide) (G_namL fun u19435 hu19435 => ?_)
                    refine G_ladd d_cX4_addNumber_83 (G_namL fun u19436 hu19436 => ?_)
                    refine G_l2i d_cX4_addNumber_84 (G_nam fun z19437 hz19437 => ?_)
                    have bz19437 : gB z19437 (-2147483648) 2147483647 := gB_any z19437
                    refine G_i2c d_cX4_addNumber_85 (G_nam fun z19438 hz19438 => ?_)
                    have bz19438 : gB z19438 0 65535 := gB_i2c hz19438
                    refine G_callV (As := [.int z19438]) (wr := []) (gV_ok D I) (ct_16738_Listing_addByte l hl0 D I q16825 q16826 z19438 g19425 f19426 bz19438 bg19425 bf19426) d_cX4_addNumber_86 ⟨w_6_171, w_1_13, w_6_174, by decide, rfl, (Nat.le_of_ble_eq_true rfl), (Nat.le_of_ble_eq_true rfl)⟩ w_6_173 w_p_66 0 rfl rfl [0, 1] [] rfl rfl rfl rfl (by decide) (Nat.le_of_ble_eq_true rfl) (Nat.le_of_ble_eq_true rfl) (Nat.le_of_ble_eq_true rfl) (fun r w hp => ?_) (fun _ _ _ z => z.elim)
                    obtain ⟨o19439, f19440, rfl, rfl, bo19439, bf19440⟩ := hp
                    change G _ _ _ _ _ _ _ _ _ _ _
                    refine G_ws (ws' := [(q16825, .inr (9, [.ref q16826, .int o19439])), (q16826, .inl (I .byte, 16384, .inl f19440))]) (cs' := 0) (sl' := 0) rfl rfl rfl ?_
                    refine G_lload 1 d_cX4_addNumber_89 rfl ?_
                    refine G_ldc2 10 d_cX4_addNumber_91 w_6_182 ?_
                    refine G_ldiv d_cX4_addNumber_94 (by decide) (G_namL fun u19441 hu19441 => ?_)
                    refine G_lstore (L' := [(4, .long u19441), (6, .int g19423), (2, .long ol18146), (0, .ref q16825), (1, .int p16827)]) d_cX4_addNumber_95 (Nat.le_of_ble_eq_true rfl) rfl ?_
                    obtain ⟨z19442, hz19442⟩ : ∃ z : Int32, z = g19423 + Int32.ofInt 1 := ⟨_, rfl⟩
                    have ez19442 : z19442.toInt = g19423.toInt + 1 := gI_inc hz19442 (by decide) bg19423' (by decide) (by decide)
                    have bz19442 : gB z19442 1 10 := ⟨by omega, by omega⟩
                    refine G_iinc (L' := [(6, .int z19442), (4, .long u19441), (2, .long ol18146), (0, .ref q16825), (1, .int p16827)]) z19442 1 d_cX4_addNumber_97 rfl hz19442.symm (Nat.le_of_ble_eq_true rfl) rfl ?_
                    refine G_goto 57 d_cX4_addNumber_100 (by decide +kernel) ?_
                    exact ih57_19426 z19442 u19441 o19439 f19440 (gB_w bz19442 (by decide) (by decide)) (gB_w bo19439 (by decide) (by decide)) bf19440 (by omega)
            exact hlp57_19426 (((11 : Int) - 0).toNat + 1) 0 gl19189 o18143 f18144 (gB_w (gBl (show Int32.toInt 0 = 0 by decide)) (by decide) (by decide)) (gB_w bo18143 (by decide) (by decide)) bf18144 (Nat.lt_succ_self _)
          · have r19443 : z19317.toInt ≤ 0 := gj_nltL hc19318 (show Int32.toInt 0 = 0 by decide)
            have bz19317' : gB z19317 (-1) 0 := ⟨by omega, by omega⟩
            refine G_lload 1 d_cX4_addNumber_40 rfl ?_
            refine G_ldc2 10 d_cX4_addNumber_42 w_6_182 ?_
            refine G_lmul d_cX4_addNumber_45 (G_namL fun u19444 hu19444 => ?_)
            refine G_lstore (L' := [(4, .long u19444), (6, .int g19188), (2, .long ol18146), (0, .ref q16825), (1, .int p16827)]) d_cX4_addNumber_46 (Nat.le_of_ble_eq_true rfl) rfl ?_
            obtain ⟨z19445, hz19445⟩ : ∃ z : Int32, z = g19188 + Int32.ofInt 1 := ⟨_, rfl⟩
            have ez19445 : z19445.toInt = g19188.toInt + 1 := gI_inc hz19445 (by decide) bg19188' (by decide) (by decide)
            have bz19445 : gB z19445 1 9 := ⟨by omega, by omega⟩
            refine G_iinc (L' := [(6, .int z19445), (4, .long u19444), (2, .long ol18146), (0, .ref q16825), (1, .int p16827)]) z19445 1 d_cX4_addNumber_48 rfl hz19445.symm (Nat.le_of_ble_eq_true rfl) rfl ?_
            refine G_goto 22 d_cX4_addNumber_51 (by decide +kernel) ?_
            exact ih22_19189 z19445 u19444 (gB_w bz19445 (by decide) (by decide)) (by omega)
    exact hlp22_19189 (((10 : Int) - 0).toNat + 1) 0 1 (gB_w (gBl (show Int32.toInt 0 = 0 by decide)) (by decide) (by decide)) (Nat.lt_succ_self _)
abbrev ky_16718_Listing_addNamed : gKey := (cX4_addNamed, 3, yX4_addNamed.cls, none, [], yX4_addNamed.name, fun _ _ => True)
abbrev po_16718_Listing_addNamed (I : FieldType → ClassId) (q16710 : Nat) (q16711 : Nat) (qs16712 : Nat) (qb16713 : Nat) (bs16714 : List Int32) (p16715 : Int32) (p16716 : Int32) (f16717 : Nat → Int32) : Option Value → va_W → Prop := fun r w => ∃ (o19450 : Int32) (f19451 : Nat → Int32), r = none ∧ w = [(q16710, .inr (9, [.ref q16711, .int o19450])), (q16711, .inl (I .byte, 16384, .inl f19451))] ∧ gB o19450 0 16384 ∧ gF f19451 (-128) 127
set_option maxRecDepth 100000 in
set_option maxHeartbeats 4000000 in
theorem ct_16718_Listing_addNamed (l : Launch) (hl0 : l.stackTraces = false) (D : va_G) (I : FieldType → ClassId) (q16710 : Nat) (q16711 : Nat) (qs16712 : Nat) (qb16713 : Nat) (bs16714 : List Int32) (p16715 : Int32) (p16716 : Int32) (f16717 : Nat → Int32) (hbs16714 : ∀ A s H, (gV D I).2.2.2.1 A s H → gSC qs16712 qb16713 bs16714 A s H) (nbs16714 : (bs16714.length : Int) ≤ 65535) (bp16716 : gB p16716 0 16384) (bf16717 : gF f16717 (-128) 127) : Ct (gV D I) l yX4_addNamed cX4_addNamed 3 none 5 107 0 0 [.ref q16710, .ref qs16712, .int p16715] [(q16710, .inr (9, [.ref q16711, .int p16716])), (q16711, .inl (I .byte, 16384, .inl f16717))] (po_16718_Listing_addNamed I q16710 q16711 qs16712 qb16713 bs16714 p16715 p16716 f16717) gN := by
  refine Ct_of hl0 (by decide) (Nat.le_of_ble_eq_true rfl) ?_
  have bp16715 := gB_any p16715
  refine G_aload_n 0 d_cX4_addNamed_0 rfl ?_
  refine G_aload_n 1 d_cX4_addNamed_1 rfl ?_
  refine G_callV (As := [.ref qs16712]) (wr := []) (gV_ok D I) (ct_16726_Listing_addText l hl0 D I q16710 q16711 qs16712 qb16713 bs16714 p16716 f16717 hbs16714 nbs16714 bp16716 bf16717) d_cX4_addNamed_2 ⟨w_6_165, w_1_13, w_6_168, by decide, rfl, (Nat.le_of_ble_eq_true rfl), (Nat.le_of_ble_eq_true rfl)⟩ w_6_167 w_p_65 0 rfl rfl [0, 1] [] rfl rfl rfl rfl (by decide) (Nat.le_of_ble_eq_true rfl) (Nat.le_of_ble_eq_true rfl) (Nat.le_of_ble_eq_true rfl) (fun r w hp => ?_) (fun _ _ _ z => z.elim)
  obtain ⟨o16823, f16824, rfl, rfl, bo16823, bf16824⟩ := hp
  change G _ _ _ _ _ _ _ _ _ _ _
  refine G_ws (ws' := [(q16710, .inr (9, [.ref q16711, .int o16823])), (q16711, .inl (I .byte, 16384, .inl f16824))]) (cs' := 0) (sl' := 0) rfl rfl rfl ?_
  refine G_aload_n 0 d_cX4_addNamed_5 rfl ?_
  refine G_iload_n 2 d_cX4_addNamed_6 rfl ?_
  refine G_callV (As := [.int p16715]) (wr := []) (gV_ok D I) (ct_16830_Listing_addNumber l hl0 D I q16710 q16711 p16715 o16823 f16824 bo16823 bf16824) d_cX4_addNamed_7 ⟨w_6_175, w_1_13, w_6_178, by decide, rfl, (Nat.le_of_ble_eq_true rfl), (Nat.le_of_ble_eq_true rfl)⟩ w_6_177 w_p_67 0 rfl rfl [0, 1] [] rfl rfl rfl rfl (by decide) (Nat.le_of_ble_eq_true rfl) (Nat.le_of_ble_eq_true rfl) (Nat.le_of_ble_eq_true rfl) (fun r w hp => ?_) (fun _ _ _ z => z.elim)
  obtain ⟨o19448, f19449, rfl, rfl, bo19448, bf19449⟩ := hp
  change G _ _ _ _ _ _ _ _ _ _ _
  refine G_ws (ws' := [(q16710, .inr (9, [.ref q16711, .int o19448])), (q16711, .inl (I .byte, 16384, .inl f19449))]) (cs' := 0) (sl' := 0) rfl rfl rfl ?_
  exact G_vret d_cX4_addNamed_10 rfl (Nat.le_of_ble_eq_true rfl) (Nat.le_of_ble_eq_true rfl) ⟨o19448, f19449, rfl, rfl, bo19448, bf19449⟩
abbrev ky_19558_Listing_addOperand : gKey := (cX4_addOperand, 3, yX4_addOperand.cls, none, [], yX4_addOperand.name, fun _ _ => True)
abbrev po_19558_Listing_addOperand (I : FieldType → ClassId) (q19552 : Nat) (q19553 : Nat) (p19554 : Int32) (p19555 : Int32) (p19556 : Int32) (f19557 : Nat → Int32) : Option Value → va_W → Prop := fun r w => ∃ (o19567 : Int32) (f19568 : Nat → Int32), r = none ∧ w = [(q19552, .inr (9, [.ref q19553, .int o19567])), (q19553, .inl (I .byte, 16384, .inl f19568))] ∧ gB o19567 0 16384 ∧ gF f19568 (-128) 127
set_option maxRecDepth 100000 in
set_option maxHeartbeats 4000000 in
theorem ct_19558_Listing_addOperand (l : Launch) (hl0 : l.stackTraces = false) (D : va_G) (I : FieldType → ClassId) (q19552 : Nat) (q19553 : Nat) (p19554 : Int32) (p19555 : Int32) (p19556 : Int32) (f19557 : Nat → Int32) (bp19556 : gB p19556 0 16384) (bf19557 : gF f19557 (-128) 127) : Ct (gV D I) l yX4_addOperand cX4_addOperand 3 none 6 129 0 0 [.ref q19552, .int p19554, .int p19555] [(q19552, .inr (9, [.ref q19553, .int p19556])), (q19553, .inl (I .byte, 16384, .inl f19557))] (po_19558_Listing_addOperand I q19552 q19553 p19554 p19555 p19556 f19557) gN := by
  refine Ct_of hl0 (by decide) (Nat.le_of_ble_eq_true rfl) ?_
  have bp19554 := gB_any p19554
  have bp19555 := gB_any p19555
  refine G_iload_n 1 d_cX4_addOperand_0 rfl ?_
  refine G_iconst (-1) d_cX4_addOperand_1 (by decide +kernel) ?_
  refine G_icmp_ne 13 d_cX4_addOperand_2 (by decide +kernel) (fun hc19559 => ?_) (fun hc19559 => ?_)
  · have r19560 : p19554.toInt ≠ (-1) := gj_neq hc19559 (show Int32.toInt (-1) = (-1) by decide)
    refine G_aload_n 0 d_cX4_addOperand_13 rfl ?_
    refine G_ldcK (a := D.2 1000 21) d_cX4_addOperand_14 (fun _ _ _ h => gx_vk 21 rfl rfl h) ?_
    have hl21_19560 : (sb_21.length : Int) = 1 := rfl
    refine G_iload_n 1 d_cX4_addOperand_16 rfl ?_
    refine G_callV (As := [.ref (D.2 1000 21), .int p19554]) (wr := []) (gV_ok D I) (ct_16718_Listing_addNamed l hl0 D I q19552 q19553 (D.2 1000 21) (D.2 1001 21) sb_21 p19554 p19556 f19557 (gx_sc 21 rfl rfl) (by omega) bp19556 bf19557) d_cX4_addOperand_17 ⟨w_6_161, w_1_13, w_6_164, by decide, rfl, (Nat.le_of_ble_eq_true rfl), (Nat.le_of_ble_eq_true rfl)⟩ w_6_163 w_p_64 0 rfl rfl [0, 1] [] rfl rfl rfl rfl (by decide) (Nat.le_of_ble_eq_true rfl) (Nat.le_of_ble_eq_true rfl) (Nat.le_of_ble_eq_true rfl) (fun r w hp => ?_) (fun _ _ _ z => z.elim)
    obtain ⟨o19562, f19563, rfl, rfl, bo19562, bf19563⟩ := hp
    change G _ _ _ _ _ _ _ _ _ _ _
    refine G_ws (ws' := [(q19552, .inr (9, [.ref q19553, .int o19562])), (q19553, .inl (I .byte, 16384, .inl f19563))]) (cs' := 0) (sl' := 0) rfl rfl rfl ?_
    exact G_vret d_cX4_addOperand_20 rfl (Nat.le_of_ble_eq_true rfl) (Nat.le_of_ble_eq_true rfl) ⟨o19562, f19563, rfl, rfl, bo19562, bf19563⟩
  · have r19564 : p19554.toInt = (-1) := gj_eq hc19559 (show Int32.toInt (-1) = (-1) by decide)
    have bp19554' : gB p19554 (-1) (-1) := ⟨by omega, by omega⟩
    refine G_aload_n 0 d_cX4_addOperand_5 rfl ?_
    refine G_iload_n 2 d_cX4_addOperand_6 rfl ?_
    refine G_callV (As := [.int p19555]) (wr := []) (gV_ok D I) (ct_16830_Listing_addNumber l hl0 D I q19552 q19553 p19555 p19556 f19557 bp19556 bf19557) d_cX4_addOperand_7 ⟨w_6_175, w_1_13, w_6_178, by decide, rfl, (Nat.le_of_ble_eq_true rfl), (Nat.le_of_ble_eq_true rfl)⟩ w_6_177 w_p_67 0 rfl rfl [0, 1] [] rfl rfl rfl rfl (by decide) (Nat.le_of_ble_eq_true rfl) (Nat.le_of_ble_eq_true rfl) (Nat.le_of_ble_eq_true rfl) (fun r w hp => ?_) (fun _ _ _ z => z.elim)
    obtain ⟨o19565, f19566, rfl, rfl, bo19565, bf19566⟩ := hp
    change G _ _ _ _ _ _ _ _ _ _ _
    refine G_ws (ws' := [(q19552, .inr (9, [.ref q19553, .int o19565])), (q19553, .inl (I .byte, 16384, .inl f19566))]) (cs' := 0) (sl' := 0) rfl rfl rfl ?_
    refine G_goto 20 d_cX4_addOperand_10 (by decide +kernel) ?_
    exact G_vret d_cX4_addOperand_20 rfl (Nat.le_of_ble_eq_true rfl) (Nat.le_of_ble_eq_true rfl) ⟨o19565, f19566, rfl, rfl, bo19565, bf19566⟩
abbrev ky_19579_Listing_addOp : gKey := (cX4_addOp, 2, yX4_addOp.cls, none, [], yX4_addOp.name, fun _ _ => True)
abbrev po_19579_Listing_addOp (I : FieldType → ClassId) (q19574 : Nat) (q19575 : Nat) (p19576 : Int32) (p19577 : Int32) (f19578 : Nat → Int32) : Option Value → va_W → Prop := fun r w => ∃ (o19604 : Int32) (f19605 : Nat → Int32), r = none ∧ w = [(q19574, .inr (9, [.ref q19575, .int o19604])), (q19575, .inl (I .byte, 16384, .inl f19605))] ∧ gB o19604 1 16384 ∧ gF f19605 (-128) 127
set_option maxRecDepth 100000 in
set_option maxHeartbeats 4000000 in
theorem ct_19579_Listing_addOp (l : Launch) (hl0 : l.stackTraces = false) (D : va_G) (I : FieldType → ClassId) (q19574 : Nat) (q19575 : Nat) (p19576 : Int32) (p19577 : Int32) (f19578 : Nat → Int32) (bp19576 : gB p19576 0 13) (bp19577 : gB p19577 0 16384) (bf19578 : gF f19578 (-128) 127) : Ct (gV D I) l yX4_addOp cX4_addOp 2 none 4 85 0 0 [.ref q19574, .int p19576] [(q19574, .inr (9, [.ref q19575, .int p19577])), (q19575, .inl (I .byte, 16384, .inl f19578))] (po_19579_Listing_addOp I q19574 q19575 p19576 p19577 f19578) gN := by
  refine Ct_of hl0 (by decide) (Nat.le_of_ble_eq_true rfl) ?_
  refine G_aload_n 0 d_cX4_addOp_0 rfl ?_
  refine G_bipush 32 d_cX4_addOp_1 (by decide +kernel) ?_
  refine G_callV (As := [.int 32]) (wr := []) (gV_ok D I) (ct_16738_Listing_addByte l hl0 D I q19574 q19575 32 p19577 f19578 (gB_w (gBl (show Int32.toInt 32 = 32 by decide)) (by decide) (by decide)) bp19577 bf19578) d_cX4_addOp_3 ⟨w_6_171, w_1_13, w_6_174, by decide, rfl, (Nat.le_of_ble_eq_true rfl), (Nat.le_of_ble_eq_true rfl)⟩ w_6_173 w_p_66 0 rfl rfl [0, 1] [] rfl rfl rfl rfl (by decide) (Nat.le_of_ble_eq_true rfl) (Nat.le_of_ble_eq_true rfl) (Nat.le_of_ble_eq_true rfl) (fun r w hp => ?_) (fun _ _ _ z => z.elim)
  obtain ⟨o19580, f19581, rfl, rfl, bo19580, bf19581⟩ := hp
  change G _ _ _ _ _ _ _ _ _ _ _
  refine G_ws (ws' := [(q19574, .inr (9, [.ref q19575, .int o19580])), (q19575, .inl (I .byte, 16384, .inl f19581))]) (cs' := 0) (sl' := 0) rfl rfl rfl ?_
  refine G_aload_n 0 d_cX4_addOp_6 rfl ?_
  refine G_ldcK (a := D.2 1000 30) d_cX4_addOp_7 (fun _ _ _ h => gx_vk 30 rfl rfl h) ?_
  have hl30_19581 : (sb_30.length : Int) = 28 := rfl
  refine G_iconst 2 d_cX4_addOp_9 (by decide +kernel) ?_
  refine G_iload_n 1 d_cX4_addOp_10 rfl ?_
  refine G_imul d_cX4_addOp_11 (G_nam fun z19583 hz19583 => ?_)
  have ez19583 : z19583.toInt = 2 * p19576.toInt := by rw [gI_mul hz19583 (gBl (show Int32.toInt 2 = 2 by decide)) bp19576 (by decide) (by decide) (by decide), show Int32.toInt 2 = 2 from by decide]
  have bz19583 : gB z19583 0 26 := gB_mul hz19583 (gBl (show Int32.toInt 2 = 2 by decide)) bp19576 (by decide) (by decide) (by decide) (by decide)
  refine G_callVk (As := [.int z19583]) (wr := [(q19574, .inr (9, [.ref q19575, .int o19580])), (q19575, .inl (I .byte, 16384, .inl f19581))]) (gV_ok D I) (ct_12994_String_charAt l hl0 D I (D.2 1000 30) (D.2 1001 30) sb_30 z19583 (gx_sc 30 rfl rfl) (by omega) (by omega) (by omega)) d_cX4_addOp_12 ⟨w_6_170, w_1_21, w_3_70, by decide, rfl, (Nat.le_of_ble_eq_true rfl), (Nat.le_of_ble_eq_true rfl)⟩ w_3_68 w_3_69 (fun _ _ _ h => ((gx_sc 30 rfl rfl) _ _ _ h).1) [] [0, 1] rfl rfl rfl rfl (by decide) (Nat.le_of_ble_eq_true rfl) (Nat.le_of_ble_eq_true rfl) (Nat.le_of_ble_eq_true rfl) (fun r w hp => ?_) (fun _ _ _ z => z.elim)
  obtain ⟨o19584, rfl, rfl, bo19584⟩ := hp
  change G _ _ _ _ _ _ _ (.int o19584 :: _) _ _ _
  refine G_ws (ws' := [(q19574, .inr (9, [.ref q19575, .int o19580])), (q19575, .inl (I .byte, 16384, .inl f19581))]) (cs' := 0) (sl' := 0) rfl rfl rfl ?_
  refine G_callV (As := [.int o19584]) (wr := []) (gV_ok D I) (ct_16738_Listing_addByte l hl0 D I q19574 q19575 o19584 o19580 f19581 bo19584 (gB_w bo19580 (by decide) (by decide)) bf19581) d_cX4_addOp_15 ⟨w_6_171, w_1_13, w_6_174, by decide, rfl, (Nat.le_of_ble_eq_true rfl), (Nat.le_of_ble_eq_true rfl)⟩ w_6_173 w_p_66 0 rfl rfl [0, 1] [] rfl rfl rfl rfl (by decide) (Nat.le_of_ble_eq_true rfl) (Nat.le_of_ble_eq_true rfl) (Nat.le_of_ble_eq_true rfl) (fun r w hp => ?_) (fun _ _ _ z => z.elim)
  obtain ⟨o19585, f19586, rfl, rfl, bo19585, bf19586⟩ := hp
  change G _ _ _ _ _ _ _ _ _ _ _
  refine G_ws (ws' := [(q19574, .inr (9, [.ref q19575, .int o19585])), (q19575, .inl (I .byte, 16384, .inl f19586))]) (cs' := 0) (sl' := 0) rfl rfl rfl ?_
  refine G_ldcK (a := D.2 1000 30) d_cX4_addOp_18 (fun _ _ _ h => gx_vk 30 rfl rfl h) ?_
  have hl30_19586 : (sb_30.length : Int) = 28 := rfl
  refine G_iconst 2 d_cX4_addOp_20 (by decide +kernel) ?_
  refine G_iload_n 1 d_cX4_addOp_21 rfl ?_
  refine G_imul d_cX4_addOp_22 (G_nam fun z19588 hz19588 => ?_)
  have ez19588 : z19588.toInt = 2 * p19576.toInt := by rw [gI_mul hz19588 (gBl (show Int32.toInt 2 = 2 by decide)) bp19576 (by decide) (by decide) (by decide), show Int32.toInt 2 = 2 from by decide]
  have bz19588 : gB z19588 0 26 := gB_mul hz19588 (gBl (show Int32.toInt 2 = 2 by decide)) bp19576 (by decide) (by decide) (by decide) (by decide)
  refine G_iconst 1 d_cX4_addOp_23 (by decide +kernel) ?_
  refine G_iadd d_cX4_addOp_24 (G_nam fun z19589 hz19589 => ?_)
  have ez19589 : z19589.toInt = z19588.toInt + 1 := by rw [gI_add hz19589 bz19588 (gBl (show Int32.toInt 1 = 1 by decide)) (by decide) (by decide), show Int32.toInt 1 = 1 from by decide]
  have bz19589 : gB z19589 1 27 := gB_add (gI_add hz19589 bz19588 (gBl (show Int32.toInt 1 = 1 by decide)) (by decide) (by decide)) bz19588 (gBl (show Int32.toInt 1 = 1 by decide)) (by decide) (by decide)
  refine G_callVk (As := [.int z19589]) (wr := [(q19574, .inr (9, [.ref q19575, .int o19585])), (q19575, .inl (I .byte, 16384, .inl f19586))]) (gV_ok D I) (ct_12994_String_charAt l hl0 D I (D.2 1000 30) (D.2 1001 30) sb_30 z19589 (gx_sc 30 rfl rfl) (by omega) (by omega) (by omega)) d_cX4_addOp_25 ⟨w_6_170, w_1_21, w_3_70, by decide, rfl, (Nat.le_of_ble_eq_true rfl), (Nat.le_of_ble_eq_true rfl)⟩ w_3_68 w_3_69 (fun _ _ _ h => ((gx_sc 30 rfl rfl) _ _ _ h).1) [] [0, 1] rfl rfl rfl rfl (by decide) (Nat.le_of_ble_eq_true rfl) (Nat.le_of_ble_eq_true rfl) (Nat.le_of_ble_eq_true rfl) (fun r w hp => ?_) (fun _ _ _ z => z.elim)
  obtain ⟨o19590, rfl, rfl, bo19590⟩ := hp
  change G _ _ _ _ _ _ _ (.int o19590 :: _) _ _ _
  refine G_ws (ws' := [(q19574, .inr (9, [.ref q19575, .int o19585])), (q19575, .inl (I .byte, 16384, .inl f19586))]) (cs' := 0) (sl' := 0) rfl rfl rfl ?_
  refine G_bipush 32 d_cX4_addOp_28 (by decide +kernel) ?_
  refine G_icmp_eq 47 d_cX4_addOp_30 (by decide +kernel) (fun hc19591 => ?_) (fun hc19591 => ?_)
  · have r19592 : o19590.toInt = 32 := gj_eq hc19591 (show Int32.toInt 32 = 32 by decide)
    have bo19590' : gB o19590 32 32 := ⟨by omega, by omega⟩
    refine G_aload_n 0 d_cX4_addOp_47 rfl ?_
    refine G_bipush 32 d_cX4_addOp_48 (by decide +kernel) ?_
    refine G_callV (As := [.int 32]) (wr := []) (gV_ok D I) (ct_16738_Listing_addByte l hl0 D I q19574 q19575 32 o19585 f19586 (gB_w (gBl (show Int32.toInt 32 = 32 by decide)) (by decide) (by decide)) (gB_w bo19585 (by decide) (by decide)) bf19586) d_cX4_addOp_50 ⟨w_6_171, w_1_13, w_6_174, by decide, rfl, (Nat.le_of_ble_eq_true rfl), (Nat.le_of_ble_eq_true rfl)⟩ w_6_173 w_p_66 0 rfl rfl [0, 1] [] rfl rfl rfl rfl (by decide) (Nat.le_of_ble_eq_true rfl) (Nat.le_of_ble_eq_true rfl) (Nat.le_of_ble_eq_true rfl) (fun r w hp => ?_) (fun _ _ _ z => z.elim)
    obtain ⟨o19593, f19594, rfl, rfl, bo19593, bf19594⟩ := hp
    change G _ _ _ _ _ _ _ _ _ _ _
    refine G_ws (ws' := [(q19574, .inr (9, [.ref q19575, .int o19593])), (q19575, .inl (I .byte, 16384, .inl f19594))]) (cs' := 0) (sl' := 0) rfl rfl rfl ?_
    exact G_vret d_cX4_addOp_53 rfl (Nat.le_of_ble_eq_true rfl) (Nat.le_of_ble_eq_true rfl) ⟨o19593, f19594, rfl, rfl, bo19593, bf19594⟩
  · have r19595 : o19590.toInt ≠ 32 := gj_neq hc19591 (show Int32.toInt 32 = 32 by decide)
    refine G_aload_n 0 d_cX4_addOp_33 rfl ?_
    refine G_ldcK (a := D.2 1000 30) d_cX4_addOp_34 (fun _ _ _ h => gx_vk 30 rfl rfl h) ?_
    have hl30_19595 : (sb_30.length : Int) = 28 := rfl
    refine G_iconst 2 d_cX4_addOp_36 (by decide +kernel) ?_
    refine G_iload_n 1 d_cX4_addOp_37 rfl ?_
    refine G_imul d_cX4_addOp_38 (G_nam fun z19597 hz19597 => ?_)
    have ez19597 : z19597.toInt = 2 * p19576.toInt := by rw [gI_mul hz19597 (gBl (show Int32.toInt 2 = 2 by decide)) bp19576 (by decide) (by decide) (by decide), show Int32.toInt 2 = 2 from by decide]
    have bz19597 : gB z19597 0 26 := gB_mul hz19597 (gBl (show Int32.toInt 2 = 2 by decide)) bp19576 (by decide) (by decide) (by decide) (by decide)
    refine G_iconst 1 d_cX4_addOp_39 (by decide +kernel) ?_
    refine G_iadd d_cX4_addOp_40 (G_nam fun z19598 hz19598 => ?_)
    have ez19598 : z19598.toInt = z19597.toInt + 1 := by rw [gI_add hz19598 bz19597 (gBl (show Int32.toInt 1 = 1 by decide)) (by decide) (by decide), show Int32.toInt 1 = 1 from by decide]
    have bz19598 : gB z19598 1 27 := gB_add (gI_add hz19598 bz19597 (gBl (show Int32.toInt 1 = 1 by decide)) (by decide) (by decide)) bz19597 (gBl (show Int32.toInt 1 = 1 by decide)) (by decide) (by decide)
    refine G_callVk (As := [.int z19598]) (wr := [(q19574, .inr (9, [.ref q19575, .int o19585])), (q19575, .inl (I .byte, 16384, .inl f19586))]) (gV_ok D I) (ct_12994_String_charAt l hl0 D I (D.2 1000 30) (D.2 1001 30) sb_30 z19598 (gx_sc 30 rfl rfl) (by omega) (by omega) (by omega)) d_cX4_addOp_41 ⟨w_6_170, w_1_21, w_3_70, by decide, rfl, (Nat.le_of_ble_eq_true rfl), (Nat.le_of_ble_eq_true rfl)⟩ w_3_68 w_3_69 (fun _ _ _ h => ((gx_sc 30 rfl rfl) _ _ _ h).1) [] [0, 1] rfl rfl rfl rfl (by decide) (Nat.le_of_ble_eq_true rfl) (Nat.le_of_ble_eq_true rfl) (Nat.le_of_ble_eq_true rfl) (fun r w hp => ?_) (fun _ _ _ z => z.elim)
    obtain ⟨o19599, rfl, rfl, bo19599⟩ := hp
    change G _ _ _ _ _ _ _ (.int o19599 :: _) _ _ _
    refine G_ws (ws' := [(q19574, .inr (9, [.ref q19575, .int o19585])), (q19575, .inl (I .byte, 16384, .inl f19586))]) (cs' := 0) (sl' := 0) rfl rfl rfl ?_
    refine G_callV (As := [.int o19599]) (wr := []) (gV_ok D I) (ct_16738_Listing_addByte l hl0 D I q19574 q19575 o19599 o19585 f19586 bo19599 (gB_w bo19585 (by decide) (by decide)) bf19586) d_cX4_addOp_44 ⟨w_6_171, w_1_13, w_6_174, by decide, rfl, (Nat.le_of_ble_eq_true rfl), (Nat.le_of_ble_eq_true rfl)⟩ w_6_173 w_p_66 0 rfl rfl [0, 1] [] rfl rfl rfl rfl (by decide) (Nat.le_of_ble_eq_true rfl) (Nat.le_of_ble_eq_true rfl) (Nat.le_of_ble_eq_true rfl) (fun r w hp => ?_) (fun _ _ _ z => z.elim)
    obtain ⟨o19600, f19601, rfl, rfl, bo19600, bf19601⟩ := hp
    change G _ _ _ _ _ _ _ _ _ _ _
    refine G_ws (ws' := [(q19574, .inr (9, [.ref q19575, .int o19600])), (q19575, .inl (I .byte, 16384, .inl f19601))]) (cs' := 0) (sl' := 0) rfl rfl rfl ?_
    refine G_aload_n 0 d_cX4_addOp_47 rfl ?_
    refine G_bipush 32 d_cX4_addOp_48 (by decide +kernel) ?_
    refine G_callV (As := [.int 32]) (wr := []) (gV_ok D I) (ct_16738_Listing_addByte l hl0 D I q19574 q19575 32 o19600 f19601 (gB_w (gBl (show Int32.toInt 32 = 32 by decide)) (by decide) (by decide)) (gB_w bo19600 (by decide) (by decide)) bf19601) d_cX4_addOp_50 ⟨w_6_171, w_1_13, w_6_174, by decide, rfl, (Nat.le_of_ble_eq_true rfl), (Nat.le_of_ble_eq_true rfl)⟩ w_6_173 w_p_66 0 rfl rfl [0, 1] [] rfl rfl rfl rfl (by decide) (Nat.le_of_ble_eq_true rfl) (Nat.le_of_ble_eq_true rfl) (Nat.le_of_ble_eq_true rfl) (fun r w hp => ?_) (fun _ _ _ z => z.elim)
    obtain ⟨o19602, f19603, rfl, rfl, bo19602, bf19603⟩ := hp
    change G _ _ _ _ _ _ _ _ _ _ _
    refine G_ws (ws' := [(q19574, .inr (9, [.ref q19575, .int o19602])), (q19575, .inl (I .byte, 16384, .inl f19603))]) (cs' := 0) (sl' := 0) rfl rfl rfl ?_
    exact G_vret d_cX4_addOp_53 rfl (Nat.le_of_ble_eq_true rfl) (Nat.le_of_ble_eq_true rfl) ⟨o19602, f19603, rfl, rfl, bo19602, bf19603⟩
abbrev ky_19544_Listing_addSource : gKey := (cX4_addSource, 3, yX4_addSource.cls, none, [], yX4_addSource.name, fun _ _ => True)
abbrev po_19544_Listing_addSource (I : FieldType → ClassId) (q19517 : Nat) (q19518 : Nat) (q19519 : Nat) (q19520 : Nat) (q19521 : Nat) (q19522 : Nat) (q19523 : Nat) (q19524 : Nat) (q19525 : Nat) (q19526 : Nat) (q19527 : Nat) (q19528 : Nat) (p19529 : Int32) (p19530 : Int32) (p19531 : Int32) (p19532 : Int32) (p19533 : Int32) (f19534 : Nat → Int32) (f19535 : Nat → Int32) (f19536 : Nat → Int32) (f19537 : Nat → Int32) (f19538 : Nat → Int32) (f19539 : Nat → Int32) (f19540 : Nat → Int32) (f19541 : Nat → Int32) (f19542 : Nat → Int32) (f19543 : Nat → Int32) : Option Value → va_W → Prop := fun r w => ∃ (o19621 : Int32) (f19622 : Nat → Int32), r = none ∧ w = [(q19517, .inr (9, [.ref q19519, .int o19621])), (q19518, .inr (5, [.ref q19520, .ref q19521, .ref q19522, .ref q19523, .ref q19524, .ref q19525, .ref q19526, .ref q19527, .ref q19528, .int p19531, .int p19532, .int p19533])), (q19519, .inl (I .byte, 16384, .inl f19622)), (q19520, .inl (I .int, 40, .inl f19535)), (q19521, .inl (I .int, 40, .inl f19536)), (q19522, .inl (I .int, 40, .inl f19537)), (q19523, .inl (I .int, 200, .inl f19538)), (q19524, .inl (I .int, 200, .inl f19539)), (q19525, .inl (I .int, 200, .inl f19540)), (q19526, .inl (I .int, 200, .inl f19541)), (q19527, .inl (I .int, 200, .inl f19542)), (q19528, .inl (I .int, 200, .inl f19543))] ∧ gB o19621 0 16384 ∧ gF f19622 (-128) 127
set_option maxRecDepth 100000 in
set_option maxHeartbeats 4000000 in
theorem ct_19544_Listing_addSource (l : Launch) (hl0 : l.stackTraces = false) (D : va_G) (I : FieldType → ClassId) (q19517 : Nat) (q19518 : Nat) (q19519 : Nat) (q19520 : Nat) (q19521 : Nat) (q19522 : Nat) (q19523 : Nat) (q19524 : Nat) (q19525 : Nat) (q19526 : Nat) (q19527 : Nat) (q19528 : Nat) (p19529 : Int32) (p19530 : Int32) (p19531 : Int32) (p19532 : Int32) (p19533 : Int32) (f19534 : Nat → Int32) (f19535 : Nat → Int32) (f19536 : Nat → Int32) (f19537 : Nat → Int32) (f19538 : Nat → Int32) (f19539 : Nat → Int32) (f19540 : Nat → Int32) (f19541 : Nat → Int32) (f19542 : Nat → Int32) (f19543 : Nat → Int32) (bp19529 : gB p19529 0 199) (bp19530 : gB p19530 0 16384) (bp19531 : gB p19531 0 40) (bp19532 : gB p19532 0 200) (bp19533 : gB p19533 0 1) (bf19534 : gF f19534 (-128) 127) (bf19535 : gF f19535 0 200) (bf19538 : gF f19538 0 21) : Ct (gV D I) l yX4_addSource cX4_addSource 3 none 7 151 0 0 [.ref q19517, .ref q19518, .int p19529] [(q19517, .inr (9, [.ref q19519, .int p19530])), (q19518, .inr (5, [.ref q19520, .ref q19521, .ref q19522, .ref q19523, .ref q19524, .ref q19525, .ref q19526, .ref q19527, .ref q19528, .int p19531, .int p19532, .int p19533])), (q19519, .inl (I .byte, 16384, .inl f19534)), (q19520, .inl (I .int, 40, .inl f19535)), (q19521, .inl (I .int, 40, .inl f19536)), (q19522, .inl (I .int, 40, .inl f19537)), (q19523, .inl (I .int, 200, .inl f19538)), (q19524, .inl (I .int, 200, .inl f19539)), (q19525, .inl (I .int, 200, .inl f19540)), (q19526, .inl (I .int, 200, .inl f19541)), (q19527, .inl (I .int, 200, .inl f19542)), (q19528, .inl (I .int, 200, .inl f19543))] (po_19544_Listing_addSource I q19517 q19518 q19519 q19520 q19521 q19522 q19523 q19524 q19525 q19526 q19527 q19528 p19529 p19530 p19531 p19532 p19533 f19534 f19535 f19536 f19537 f19538 f19539 f19540 f19541 f19542 f19543) gN := by
  refine Ct_of hl0 (by decide) (Nat.le_of_ble_eq_true rfl) ?_
  refine G_aload_n 1 d_cX4_addSource_0 rfl ?_
  refine G_getfN 1 3 d_cX4_addSource_1 rfl (gk_X0 D I) (Nat.le_of_ble_eq_true rfl) (fun _ _ _ h => gn_w 15 rfl h) rfl ?_
  refine G_iload_n 2 d_cX4_addSource_4 rfl ?_
  refine G_iald 6 0 d_cX4_addSource_5 rfl rfl (gB_in bp19529 (by decide) (by decide)) (G_nam fun z19545 hz19545 => ?_)
  have bz19545 : gB z19545 0 21 := by rw [hz19545]; exact bf19538 _
  refine G_bipush 15 d_cX4_addSource_6 (by decide +kernel) ?_
  refine G_icmp_ne 20 d_cX4_addSource_8 (by decide +kernel) (fun hc19546 => ?_) (fun hc19546 => ?_)
  · have r19547 : z19545.toInt ≠ 15 := gj_neq hc19546 (show Int32.toInt 15 = 15 by decide)
    refine G_aload_n 1 d_cX4_addSource_20 rfl ?_
    refine G_getfN 1 3 d_cX4_addSource_21 rfl (gk_X0 D I) (Nat.le_of_ble_eq_true rfl) (fun _ _ _ h => gn_w 15 rfl h) rfl ?_
    refine G_iload_n 2 d_cX4_addSource_24 rfl ?_
    refine G_iald 6 0 d_cX4_addSource_25 rfl rfl (gB_in bp19529 (by decide) (by decide)) (G_eqi (y := z19545) hz19545.symm ?_)
    refine G_bipush 17 d_cX4_addSource_26 (by decide +kernel) ?_
    refine G_icmp_ne 46 d_cX4_addSource_28 (by decide +kernel) (fun hc19548 => ?_) (fun hc19548 => ?_)
    · have r19549 : z19545.toInt ≠ 17 := gj_neq hc19548 (show Int32.toInt 17 = 17 by decide)
      refine G_aload_n 0 d_cX4_addSource_46 rfl ?_
      refine G_aload_n 1 d_cX4_addSource_47 rfl ?_
      refine G_getfN 1 5 d_cX4_addSource_48 rfl (gk_X0 D I) (Nat.le_of_ble_eq_true rfl) (fun _ _ _ h => gn_w 23 rfl h) rfl ?_
      refine G_iload_n 2 d_cX4_addSource_51 rfl ?_
      refine G_iald 8 0 d_cX4_addSource_52 rfl rfl (gB_in bp19529 (by decide) (by decide)) (G_nam fun z19550 hz19550 => ?_)
      have bz19550 : gB z19550 (-2147483648) 2147483647 := gB_any z19550
      refine G_aload_n 1 d_cX4_addSource_53 rfl ?_
      refine G_getfN 1 6 d_cX4_addSource_54 rfl (gk_X0 D I) (Nat.le_of_ble_eq_true rfl) (fun _ _ _ h => gn_w 27 rfl h) rfl ?_
      refine G_iload_n 2 d_cX4_addSource_57 rfl ?_
      refine G_iald 9 0 d_cX4_addSource_58 rfl rfl (gB_in bp19529 (by decide) (by decide)) (G_nam fun z19551 hz19551 => ?_)
      have bz19551 : gB z19551 (-2147483648) 2147483647 := gB_any z19551
      refine G_callV (As := [.int z19550, .int z19551]) (wr := [(q19518, .inr (5, [.ref q19520, .ref q19521, .ref q19522, .ref q19523, .ref q19524, .ref q19525, .ref q19526, .ref q19527, .ref q19528, .int p19531, .int p19532, .int p19533])), (q19520, .inl (I .int, 40, .inl f19535)), (q19521, .inl (I .int, 40, .inl f19536)), (q19522, .inl (I .int, 40, .inl f19537)), (q19523, .inl (I .int, 200, .inl f19538)), (q19524, .inl (I .int, 200, .inl f19539)), (q19525, .inl (I .int, 200, .inl f19540)), (q19526, .inl (I .int, 200, .inl f19541)), (q19527, .inl (I .int, 200, .inl f19542)), (q19528, .inl (I .int, 200, .inl f19543))]) (gV_ok D I) (ct_19558_Listing_addOperand l hl0 D I q19517 q19519 z19550 z19551 p19530 f19534 bp19530 bf19534) d_cX4_addSource_59 ⟨w_6_191, w_1_13, w_6_194, by decide, rfl, (Nat.le_of_ble_eq_true rfl), (Nat.le_of_ble_eq_true rfl)⟩ w_6_193 w_p_69 0 rfl rfl [0, 2] [1, 3, 4, 5, 6, 7, 8, 9, 10, 11] rfl rfl rfl rfl (by decide) (Nat.le_of_ble_eq_true rfl) (Nat.le_of_ble_eq_true rfl) (Nat.le_of_ble_eq_true rfl) (fun r w hp => ?_) (fun _ _ _ z => z.elim)
      obtain ⟨o19569, f19570, rfl, rfl, bo19569, bf19570⟩ := hp
      change G _ _ _ _ _ _ _ _ _ _ _
      refine G_ws (ws' := [(q19518, .inr (5, [.ref q19520, .ref q19521, .ref q19522, .ref q19523, .ref q19524, .ref q19525, .ref q19526, .ref q19527, .ref q19528, .int p19531, .int p19532, .int p19533])), (q19520, .inl (I .int, 40, .inl f19535)), (q19521, .inl (I .int, 40, .inl f19536)), (q19522, .inl (I .int, 40, .inl f19537)), (q19523, .inl (I .int, 200, .inl f19538)), (q19524, .inl (I .int, 200, .inl f19539)), (q19525, .inl (I .int, 200, .inl f19540)), (q19526, .inl (I .int, 200, .inl f19541)), (q19527, .inl (I .int, 200, .inl f19542)), (q19528, .inl (I .int, 200, .inl f19543)), (q19517, .inr (9, [.ref q19519, .int o19569])), (q19519, .inl (I .byte, 16384, .inl f19570))]) (cs' := 0) (sl' := 0) rfl rfl rfl ?_
      refine G_aload_n 1 d_cX4_addSource_62 rfl ?_
      refine G_getfN 0 3 d_cX4_addSource_63 rfl (gk_X0 D I) (Nat.le_of_ble_eq_true rfl) (fun _ _ _ h => gn_w 15 rfl h) rfl ?_
      refine G_iload_n 2 d_cX4_addSource_66 rfl ?_
      refine G_iald 4 0 d_cX4_addSource_67 rfl rfl (gB_in bp19529 (by decide) (by decide)) (G_eqi (y := z19545) hz19545.symm ?_)
      refine G_bipush 14 d_cX4_addSource_68 (by decide +kernel) ?_
      refine G_icmp_ge 99 d_cX4_addSource_70 (by decide +kernel) (fun hc19571 => ?_) (fun hc19571 => ?_)
      · have r19572 : 14 ≤ z19545.toInt := gj_leL hc19571 (show Int32.toInt 14 = 14 by decide)
        have bz19545' : gB z19545 14 21 := ⟨by omega, by omega⟩
        refine G_sub (ws' := [(q19517, .inr (9, [.ref q19519, .int o19569])), (q19518, .inr (5, [.ref q19520, .ref q19521, .ref q19522, .ref q19523, .ref q19524, .ref q19525, .ref q19526, .ref q19527, .ref q19528, .int p19531, .int p19532, .int p19533])), (q19519, .inl (I .byte, 16384, .inl f19570)), (q19520, .inl (I .int, 40, .inl f19535)), (q19521, .inl (I .int, 40, .inl f19536)), (q19522, .inl (I .int, 40, .inl f19537)), (q19523, .inl (I .int, 200, .inl f19538)), (q19524, .inl (I .int, 200, .inl f19539)), (q19525, .inl (I .int, 200, .inl f19540)), (q19526, .inl (I .int, 200, .inl f19541)), (q19527, .inl (I .int, 200, .inl f19542)), (q19528, .inl (I .int, 200, .inl f19543))]) [10, 0, 11, 1, 2, 3, 4, 5, 6, 7, 8, 9] rfl rfl ?_
        exact G_vret d_cX4_addSource_99 rfl (Nat.le_of_ble_eq_true rfl) (Nat.le_of_ble_eq_true rfl) ⟨o19569, f19570, rfl, rfl, bo19569, bf19570⟩
      · have r19573 : z19545.toInt < 14 := gj_nleL hc19571 (show Int32.toInt 14 = 14 by decide)
        have bz19545' : gB z19545 0 13 := ⟨by omega, by omega⟩
        refine G_aload_n 0 d_cX4_addSource_73 rfl ?_
        refine G_aload_n 1 d_cX4_addSource_74 rfl ?_
        refine G_getfN 0 3 d_cX4_addSource_75 rfl (gk_X0 D I) (Nat.le_of_ble_eq_true rfl) (fun _ _ _ h => gn_w 15 rfl h) rfl ?_
        refine G_iload_n 2 d_cX4_addSource_78 rfl ?_
        refine G_iald 4 0 d_cX4_addSource_79 rfl rfl (gB_in bp19529 (by decide) (by decide)) (G_eqi (y := z19545) hz19545.symm ?_)
        refine G_callV (As := [.int z19545]) (wr := [(q19518, .inr (5, [.ref q19520, .ref q19521, .ref q19522, .ref q19523, .ref q19524, .ref q19525, .ref q19526, .ref q19527, .ref q19528, .int p19531, .int p19532, .int p19533])), (q19520, .inl (I .int, 40, .inl f19535)), (q19521, .inl (I .int, 40, .inl f19536)), (q19522, .inl (I .int, 40, .inl f19537)), (q19523, .inl (I .int, 200, .inl f19538)), (q19524, .inl (I .int, 200, .inl f19539)), (q19525, .inl (I .int, 200, .inl f19540)), (q19526, .inl (I .int, 200, .inl f19541)), (q19527, .inl (I .int, 200, .inl f19542)), (q19528, .inl (I .int, 200, .inl f19543))]) (gV_ok D I) (ct_19579_Listing_addOp l hl0 D I q19517 q19519 z19545 o19569 f19570 bz19545' bo19569 bf19570) d_cX4_addSource_80 ⟨w_6_212, w_1_13, w_6_215, by decide, rfl, (Nat.le_of_ble_eq_true rfl), (Nat.le_of_ble_eq_true rfl)⟩ w_6_214 w_p_72 10 rfl rfl [10, 11] [0, 1, 2, 3, 4, 5, 6, 7, 8, 9] rfl rfl rfl rfl (by decide) (Nat.le_of_ble_eq_true rfl) (Nat.le_of_ble_eq_true rfl) (Nat.le_of_ble_eq_true rfl) (fun r w hp => ?_) (fun _ _ _ z => z.elim)
        obtain ⟨o19606, f19607, rfl, rfl, bo19606, bf19607⟩ := hp
        change G _ _ _ _ _ _ _ _ _ _ _
        refine G_ws (ws' := [(q19518, .inr (5, [.ref q19520, .ref q19521, .ref q19522, .ref q19523, .ref q19524, .ref q19525, .ref q19526, .ref q19527, .ref q19528, .int p19531, .int p19532, .int p19533])), (q19520, .inl (I .int, 40, .inl f19535)), (q19521, .inl (I .int, 40, .inl f19536)), (q19522, .inl (I .int, 40, .inl f19537)), (q19523, .inl (I .int, 200, .inl f19538)), (q19524, .inl (I .int, 200, .inl f19539)), (q19525, .inl (I .int, 200, .inl f19540)), (q19526, .inl (I .int, 200, .inl f19541)), (q19527, .inl (I .int, 200, .inl f19542)), (q19528, .inl (I .int, 200, .inl f19543)), (q19517, .inr (9, [.ref q19519, .int o19606])), (q19519, .inl (I .byte, 16384, .inl f19607))]) (cs' := 0) (sl' := 0) rfl rfl rfl ?_
        refine G_aload_n 0 d_cX4_addSource_83 rfl ?_
        refine G_aload_n 1 d_cX4_addSource_84 rfl ?_
        refine G_getfN 0 7 d_cX4_addSource_85 rfl (gk_X0 D I) (Nat.le_of_ble_eq_true rfl) (fun _ _ _ h => gn_w 31 rfl h) rfl ?_
        refine G_iload_n 2 d_cX4_addSource_88 rfl ?_
        refine G_iald 8 0 d_cX4_addSource_89 rfl rfl (gB_in bp19529 (by decide) (by decide)) (G_nam fun z19608 hz19608 => ?_)
        have bz19608 : gB z19608 (-2147483648) 2147483647 := gB_any z19608
        refine G_aload_n 1 d_cX4_addSource_90 rfl ?_
        refine G_getfN 0 8 d_cX4_addSource_91 rfl (gk_X0 D I) (Nat.le_of_ble_eq_true rfl) (fun _ _ _ h => gn_w 34 rfl h) rfl ?_
        refine G_iload_n 2 d_cX4_addSource_94 rfl ?_
        refine G_iald 9 0 d_cX4_addSource_95 rfl rfl (gB_in bp19529 (by decide) (by decide)) (G_nam fun z19609 hz19609 => ?_)
        have bz19609 : gB z19609 (-2147483648) 2147483647 := gB_any z19609
        refine G_callV (As := [.int z19608, .int z19609]) (wr := [(q19518, .inr (5, [.ref q19520, .ref q19521, .ref q19522, .ref q19523, .ref q19524, .ref q19525, .ref q19526, .ref q19527, .ref q19528, .int p19531, .int p19532, .int p19533])), (q19520, .inl (I .int, 40, .inl f19535)), (q19521, .inl (I .int, 40, .inl f19536)), (q19522, .inl (I .int, 40, .inl f19537)), (q19523, .inl (I .int, 200, .inl f19538)), (q19524, .inl (I .int, 200, .inl f19539)), (q19525, .inl (I .int, 200, .inl f19540)), (q19526, .inl (I .int, 200, .inl f19541)), (q19527, .inl (I .int, 200, .inl f19542)), (q19528, .inl (I .int, 200, .inl f19543))]) (gV_ok D I) (ct_19558_Listing_addOperand l hl0 D I q19517 q19519 z19608 z19609 o19606 f19607 (gB_w bo19606 (by decide) (by decide)) bf19607) d_cX4_addSource_96 ⟨w_6_191, w_1_13, w_6_194, by decide, rfl, (Nat.le_of_ble_eq_true rfl), (Nat.le_of_ble_eq_true rfl)⟩ w_6_193 w_p_69 10 rfl rfl [10, 11] [0, 1, 2, 3, 4, 5, 6, 7, 8, 9] rfl rfl rfl rfl (by decide) (Nat.le_of_ble_eq_true rfl) (Nat.le_of_ble_eq_true rfl) (Nat.le_of_ble_eq_true rfl) (fun r w hp => ?_) (fun _ _ _ z => z.elim)
        obtain ⟨o19610, f19611, rfl, rfl, bo19610, bf19611⟩ := hp
        change G _ _ _ _ _ _ _ _ _ _ _
        refine G_ws (ws' := [(q19518, .inr (5, [.ref q19520, .ref q19521, .ref q19522, .ref q19523, .ref q19524, .ref q19525, .ref q19526, .ref q19527, .ref q19528, .int p19531, .int p19532, .int p19533])), (q19520, .inl (I .int, 40, .inl f19535)), (q19521, .inl (I .int, 40, .inl f19536)), (q19522, .inl (I .int, 40, .inl f19537)), (q19523, .inl (I .int, 200, .inl f19538)), (q19524, .inl (I .int, 200, .inl f19539)), (q19525, .inl (I .int, 200, .inl f19540)), (q19526, .inl (I .int, 200, .inl f19541)), (q19527, .inl (I .int, 200, .inl f19542)), (q19528, .inl (I .int, 200, .inl f19543)), (q19517, .inr (9, [.ref q19519, .int o19610])), (q19519, .inl (I .byte, 16384, .inl f19611))]) (cs' := 0) (sl' := 0) rfl rfl rfl ?_
        refine G_sub (ws' := [(q19517, .inr (9, [.ref q19519, .int o19610])), (q19518, .inr (5, [.ref q19520, .ref q19521, .ref q19522, .ref q19523, .ref q19524, .ref q19525, .ref q19526, .ref q19527, .ref q19528, .int p19531, .int p19532, .int p19533])), (q19519, .inl (I .byte, 16384, .inl f19611)), (q19520, .inl (I .int, 40, .inl f19535)), (q19521, .inl (I .int, 40, .inl f19536)), (q19522, .inl (I .int, 40, .inl f19537)), (q19523, .inl (I .int, 200, .inl f19538)), (q19524, .inl (I .int, 200, .inl f19539)), (q19525, .inl (I .int, 200, .inl f19540)), (q19526, .inl (I .int, 200, .inl f19541)), (q19527, .inl (I .int, 200, .inl f19542)), (q19528, .inl (I .int, 200, .inl f19543))]) [10, 0, 11, 1, 2, 3, 4, 5, 6, 7, 8, 9] rfl rfl ?_
        exact G_vret d_cX4_addSource_99 rfl (Nat.le_of_ble_eq_true rfl) (Nat.le_of_ble_eq_true rfl) ⟨o19610, f19611, rfl, rfl, bo19610, bf19611⟩
    · have r19612 : z19545.toInt = 17 := gj_eq hc19548 (show Int32.toInt 17 = 17 by decide)
      have bz19545' : gB z19545 17 17 := ⟨by omega, by omega⟩
      refine G_aload_n 0 d_cX4_addSource_31 rfl ?_
      refine G_ldcK (a := D.2 1000 26) d_cX4_addSource_32 (fun _ _ _ h => gx_vk 26 rfl rfl h) ?_
      have hl26_19612 : (sb_26.length : Int) = 5 := rfl
      refine G_aload_n 1 d_cX4_addSource_34 rfl ?_
      refine G_getfN 1 8 d_cX4_addSource_35 rfl (gk_X0 D I) (Nat.le_of_ble_eq_true rfl) (fun _ _ _ h => gn_w 34 rfl h) rfl ?_
      refine G_iload_n 2 d_cX4_addSource_38 rfl ?_
      refine G_iald 11 0 d_cX4_addSource_39 rfl rfl (gB_in bp19529 (by decide) (by decide)) (G_nam fun z19614 hz19614 => ?_)
      have bz19614 : gB z19614 (-2147483648) 2147483647 := gB_any z19614
      refine G_callV (As := [.ref (D.2 1000 26), .int z19614]) (wr := [(q19518, .inr (5, [.ref q19520, .ref q19521, .ref q19522, .ref q19523, .ref q19524, .ref q19525, .ref q19526, .ref q19527, .ref q19528, .int p19531, .int p19532, .int p19533])), (q19520, .inl (I .int, 40, .inl f19535)), (q19521, .inl (I .int, 40, .inl f19536)), (q19522, .inl (I .int, 40, .inl f19537)), (q19523, .inl (I .int, 200, .inl f19538)), (q19524, .inl (I .int, 200, .inl f19539)), (q19525, .inl (I .int, 200, .inl f19540)), (q19526, .inl (I .int, 200, .inl f19541)), (q19527, .inl (I .int, 200, .inl f19542)), (q19528, .inl (I .int, 200, .inl f19543))]) (gV_ok D I) (ct_16718_Listing_addNamed l hl0 D I q19517 q19519 (D.2 1000 26) (D.2 1001 26) sb_26 z19614 p19530 f19534 (gx_sc 26 rfl rfl) (by omega) bp19530 bf19534) d_cX4_addSource_40 ⟨w_6_161, w_1_13, w_6_164, by decide, rfl, (Nat.le_of_ble_eq_true rfl), (Nat.le_of_ble_eq_true rfl)⟩ w_6_163 w_p_64 0 rfl rfl [0, 2] [1, 3, 4, 5, 6, 7, 8, 9, 10, 11] rfl rfl rfl rfl (by decide) (Nat.le_of_ble_eq_true rfl) (Nat.le_of_ble_eq_true rfl) (Nat.le_of_ble_eq_true rfl) (fun r w hp => ?_) (fun _ _ _ z => z.elim)
      obtain ⟨o19615, f19616, rfl, rfl, bo19615, bf19616⟩ := hp
      change G _ _ _ _ _ _ _ _ _ _ _
      refine G_ws (ws' := [(q19518, .inr (5, [.ref q19520, .ref q19521, .ref q19522, .ref q19523, .ref q19524, .ref q19525, .ref q19526, .ref q19527, .ref q19528, .int p19531, .int p19532, .int p19533])), (q19520, .inl (I .int, 40, .inl f19535)), (q19521, .inl (I .int, 40, .inl f19536)), (q19522, .inl (I .int, 40, .inl f19537)), (q19523, .inl (I .int, 200, .inl f19538)), (q19524, .inl (I .int, 200, .inl f19539)), (q19525, .inl (I .int, 200, .inl f19540)), (q19526, .inl (I .int, 200, .inl f19541)), (q19527, .inl (I .int, 200, .inl f19542)), (q19528, .inl (I .int, 200, .inl f19543)), (q19517, .inr (9, [.ref q19519, .int o19615])), (q19519, .inl (I .byte, 16384, .inl f19616))]) (cs' := 0) (sl' := 0) rfl rfl rfl ?_
      refine G_goto 99 d_cX4_addSource_43 (by decide +kernel) ?_
      refine G_sub (ws' := [(q19517, .inr (9, [.ref q19519, .int o19615])), (q19518, .inr (5, [.ref q19520, .ref q19521, .ref q19522, .ref q19523, .ref q19524, .ref q19525, .ref q19526, .ref q19527, .ref q19528, .int p19531, .int p19532, .int p19533])), (q19519, .inl (I .byte, 16384, .inl f19616)), (q19520, .inl (I .int, 40, .inl f19535)), (q19521, .inl (I .int, 40, .inl f19536)), (q19522, .inl (I .int, 40, .inl f19537)), (q19523, .inl (I .int, 200, .inl f19538)), (q19524, .inl (I .int, 200, .inl f19539)), (q19525, .inl (I .int, 200, .inl f19540)), (q19526, .inl (I .int, 200, .inl f19541)), (q19527, .inl (I .int, 200, .inl f19542)), (q19528, .inl (I .int, 200, .inl f19543))]) [10, 0, 11, 1, 2, 3, 4, 5, 6, 7, 8, 9] rfl rfl ?_
      exact G_vret d_cX4_addSource_99 rfl (Nat.le_of_ble_eq_true rfl) (Nat.le_of_ble_eq_true rfl) ⟨o19615, f19616, rfl, rfl, bo19615, bf19616⟩
  · have r19617 : z19545.toInt = 15 := gj_eq hc19546 (show Int32.toInt 15 = 15 by decide)
    have bz19545' : gB z19545 15 15 := ⟨by omega, by omega⟩
    refine G_aload_n 0 d_cX4_addSource_11 rfl ?_
    refine G_ldcK (a := D.2 1000 29) d_cX4_addSource_12 (fun _ _ _ h => gx_vk 29 rfl rfl h) ?_
    have hl29_19617 : (sb_29.length : Int) = 2 := rfl
    refine G_callV (As := [.ref (D.2 1000 29)]) (wr := [(q19518, .inr (5, [.ref q19520, .ref q19521, .ref q19522, .ref q19523, .ref q19524, .ref q19525, .ref q19526, .ref q19527, .ref q19528, .int p19531, .int p19532, .int p19533])), (q19520, .inl (I .int, 40, .inl f19535)), (q19521, .inl (I .int, 40, .inl f19536)), (q19522, .inl (I .int, 40, .inl f19537)), (q19523, .inl (I .int, 200, .inl f19538)), (q19524, .inl (I .int, 200, .inl f19539)), (q19525, .inl (I .int, 200, .inl f19540)), (q19526, .inl (I .int, 200, .inl f19541)), (q19527, .inl (I .int, 200, .inl f19542)), (q19528, .inl (I .int, 200, .inl f19543))]) (gV_ok D I) (ct_16726_Listing_addText l hl0 D I q19517 q19519 (D.2 1000 29) (D.2 1001 29) sb_29 p19530 f19534 (gx_sc 29 rfl rfl) (by omega) bp19530 bf19534) d_cX4_addSource_14 ⟨w_6_165, w_1_13, w_6_168, by decide, rfl, (Nat.le_of_ble_eq_true rfl), (Nat.le_of_ble_eq_true rfl)⟩ w_6_167 w_p_65 0 rfl rfl [0, 2] [1, 3, 4, 5, 6, 7, 8, 9, 10, 11] rfl rfl rfl rfl (by decide) (Nat.le_of_ble_eq_true rfl) (Nat.le_of_ble_eq_true rfl) (Nat.le_of_ble_eq_true rfl) (fun r w hp => ?_) (fun _ _ _ z => z.elim)
    obtain ⟨o19619, f19620, rfl, rfl, bo19619, bf19620⟩ := hp
    change G _ _ _ _ _ _ _ _ _ _ _
    refine G_ws (ws' := [(q19518, .inr (5, [.ref q19520, .ref q19521, .ref q19522, .ref q19523, .ref q19524, .ref q19525, .ref q19526, .ref q19527, .ref q19528, .int p19531, .int p19532, .int p19533])), (q19520, .inl (I .int, 40, .inl f19535)), (q19521, .inl (I .int, 40, .inl f19536)), (q19522, .inl (I .int, 40, .inl f19537)), (q19523, .inl (I .int, 200, .inl f19538)), (q19524, .inl (I .int, 200, .inl f19539)), (q19525, .inl (I .int, 200, .inl f19540)), (q19526, .inl (I .int, 200, .inl f19541)), (q19527, .inl (I .int, 200, .inl f19542)), (q19528, .inl (I .int, 200, .inl f19543)), (q19517, .inr (9, [.ref q19519, .int o19619])), (q19519, .inl (I .byte, 16384, .inl f19620))]) (cs' := 0) (sl' := 0) rfl rfl rfl ?_
    refine G_goto 99 d_cX4_addSource_17 (by decide +kernel) ?_
    refine G_sub (ws' := [(q19517, .inr (9, [.ref q19519, .int o19619])), (q19518, .inr (5, [.ref q19520, .ref q19521, .ref q19522, .ref q19523, .ref q19524, .ref q19525, .ref q19526, .ref q19527, .ref q19528, .int p19531, .int p19532, .int p19533])), (q19519, .inl (I .byte, 16384, .inl f19620)), (q19520, .inl (I .int, 40, .inl f19535)), (q19521, .inl (I .int, 40, .inl f19536)), (q19522, .inl (I .int, 40, .inl f19537)), (q19523, .inl (I .int, 200, .inl f19538)), (q19524, .inl (I .int, 200, .inl f19539)), (q19525, .inl (I .int, 200, .inl f19540)), (q19526, .inl (I .int, 200, .inl f19541)), (q19527, .inl (I .int, 200, .inl f19542)), (q19528, .inl (I .int, 200, .inl f19543))]) [10, 0, 11, 1, 2, 3, 4, 5, 6, 7, 8, 9] rfl rfl ?_
    exact G_vret d_cX4_addSource_99 rfl (Nat.le_of_ble_eq_true rfl) (Nat.le_of_ble_eq_true rfl) ⟨o19619, f19620, rfl, rfl, bo19619, bf19620⟩
abbrev ky_19504_Listing_addRow : gKey := (cX4_addRow, 3, yX4_addRow.cls, none, [], yX4_addRow.name, fun _ _ => True)
abbrev po_19504_Listing_addRow (I : FieldType → ClassId) (q19477 : Nat) (q19478 : Nat) (q19479 : Nat) (q19480 : Nat) (q19481 : Nat) (q19482 : Nat) (q19483 : Nat) (q19484 : Nat) (q19485 : Nat) (q19486 : Nat) (q19487 : Nat) (q19488 : Nat) (p19489 : Int32) (p19490 : Int32) (p19491 : Int32) (p19492 : Int32) (p19493 : Int32) (f19494 : Nat → Int32) (f19495 : Nat → Int32) (f19496 : Nat → Int32) (f19497 : Nat → Int32) (f19498 : Nat → Int32) (f19499 : Nat → Int32) (f19500 : Nat → Int32) (f19501 : Nat → Int32) (f19502 : Nat → Int32) (f19503 : Nat → Int32) : Option Value → va_W → Prop := fun r w => ∃ (o19642 : Int32) (f19643 : Nat → Int32), r = none ∧ w = [(q19477, .inr (9, [.ref q19479, .int o19642])), (q19478, .inr (5, [.ref q19480, .ref q19481, .ref q19482, .ref q19483, .ref q19484, .ref q19485, .ref q19486, .ref q19487, .ref q19488, .int p19491, .int p19492, .int p19493])), (q19479, .inl (I .byte, 16384, .inl f19643)), (q19480, .inl (I .int, 40, .inl f19495)), (q19481, .inl (I .int, 40, .inl f19496)), (q19482, .inl (I .int, 40, .inl f19497)), (q19483, .inl (I .int, 200, .inl f19498)), (q19484, .inl (I .int, 200, .inl f19499)), (q19485, .inl (I .int, 200, .inl f19500)), (q19486, .inl (I .int, 200, .inl f19501)), (q19487, .inl (I .int, 200, .inl f19502)), (q19488, .inl (I .int, 200, .inl f19503))] ∧ gB o19642 0 16384 ∧ gF f19643 (-128) 127
set_option maxRecDepth 100000 in
set_option maxHeartbeats 4000000 in
theorem ct_19504_Listing_addRow (l : Launch) (hl0 : l.stackTraces = false) (D : va_G) (I : FieldType → ClassId) (q19477 : Nat) (q19478 : Nat) (q19479 : Nat) (q19480 : Nat) (q19481 : Nat) (q19482 : Nat) (q19483 : Nat) (q19484 : Nat) (q19485 : Nat) (q19486 : Nat) (q19487 : Nat) (q19488 : Nat) (p19489 : Int32) (p19490 : Int32) (p19491 : Int32) (p19492 : Int32) (p19493 : Int32) (f19494 : Nat → Int32) (f19495 : Nat → Int32) (f19496 : Nat → Int32) (f19497 : Nat → Int32) (f19498 : Nat → Int32) (f19499 : Nat → Int32) (f19500 : Nat → Int32) (f19501 : Nat → Int32) (f19502 : Nat → Int32) (f19503 : Nat → Int32) (bp19489 : gB p19489 0 199) (bp19490 : gB p19490 0 16384) (bp19491 : gB p19491 0 40) (bp19492 : gB p19492 0 200) (bp19493 : gB p19493 0 1) (bf19494 : gF f19494 (-128) 127) (bf19495 : gF f19495 0 200) (bf19498 : gF f19498 0 21) : Ct (gV D I) l yX4_addRow cX4_addRow 3 none 8 173 0 0 [.ref q19477, .ref q19478, .int p19489] [(q19477, .inr (9, [.ref q19479, .int p19490])), (q19478, .inr (5, [.ref q19480, .ref q19481, .ref q19482, .ref q19483, .ref q19484, .ref q19485, .ref q19486, .ref q19487, .ref q19488, .int p19491, .int p19492, .int p19493])), (q19479, .inl (I .byte, 16384, .inl f19494)), (q19480, .inl (I .int, 40, .inl f19495)), (q19481, .inl (I .int, 40, .inl f19496)), (q19482, .inl (I .int, 40, .inl f19497)), (q19483, .inl (I .int, 200, .inl f19498)), (q19484, .inl (I .int, 200, .inl f19499)), (q19485, .inl (I .int, 200, .inl f19500)), (q19486, .inl (I .int, 200, .inl f19501)), (q19487, .inl (I .int, 200, .inl f19502)), (q19488, .inl (I .int, 200, .inl f19503))] (po_19504_Listing_addRow I q19477 q19478 q19479 q19480 q19481 q19482 q19483 q19484 q19485 q19486 q19487 q19488 p19489 p19490 p19491 p19492 p19493 f19494 f19495 f19496 f19497 f19498 f19499 f19500 f19501 f19502 f19503) gN := by
  refine Ct_of hl0 (by decide) (Nat.le_of_ble_eq_true rfl) ?_
  refine G_aload_n 1 d_cX4_addRow_0 rfl ?_
  refine G_getfN 1 3 d_cX4_addRow_1 rfl (gk_X0 D I) (Nat.le_of_ble_eq_true rfl) (fun _ _ _ h => gn_w 15 rfl h) rfl ?_
  refine G_iload_n 2 d_cX4_addRow_4 rfl ?_
  refine G_iald 6 0 d_cX4_addRow_5 rfl rfl (gB_in bp19489 (by decide) (by decide)) (G_nam fun z19505 hz19505 => ?_)
  have bz19505 : gB z19505 0 21 := by rw [hz19505]; exact bf19498 _
  refine G_bipush 16 d_cX4_addRow_6 (by decide +kernel) ?_
  refine G_icmp_ne 36 d_cX4_addRow_8 (by decide +kernel) (fun hc19506 => ?_) (fun hc19506 => ?_)
  · have r19507 : z19505.toInt ≠ 16 := gj_neq hc19506 (show Int32.toInt 16 = 16 by decide)
    refine G_aload_n 1 d_cX4_addRow_36 rfl ?_
    refine G_getfN 1 3 d_cX4_addRow_37 rfl (gk_X0 D I) (Nat.le_of_ble_eq_true rfl) (fun _ _ _ h => gn_w 15 rfl h) rfl ?_
    refine G_iload_n 2 d_cX4_addRow_40 rfl ?_
    refine G_iald 6 0 d_cX4_addRow_41 rfl rfl (gB_in bp19489 (by decide) (by decide)) (G_eqi (y := z19505) hz19505.symm ?_)
    refine G_bipush 18 d_cX4_addRow_42 (by decide +kernel) ?_
    refine G_icmp_ne 74 d_cX4_addRow_44 (by decide +kernel) (fun hc19508 => ?_) (fun hc19508 => ?_)
    · have r19509 : z19505.toInt ≠ 18 := gj_neq hc19508 (show Int32.toInt 18 = 18 by decide)
      refine G_aload_n 0 d_cX4_addRow_74 rfl ?_
      refine G_ldcK (a := D.2 1000 21) d_cX4_addRow_75 (fun _ _ _ h => gx_vk 21 rfl rfl h) ?_
      have hl21_19509 : (sb_21.length : Int) = 1 := rfl
      refine G_aload_n 1 d_cX4_addRow_77 rfl ?_
      refine G_getfN 1 4 d_cX4_addRow_78 rfl (gk_X0 D I) (Nat.le_of_ble_eq_true rfl) (fun _ _ _ h => gn_w 19 rfl h) rfl ?_
      refine G_iload_n 2 d_cX4_addRow_81 rfl ?_
      refine G_iald 7 0 d_cX4_addRow_82 rfl rfl (gB_in bp19489 (by decide) (by decide)) (G_nam fun z19511 hz19511 => ?_)
      have bz19511 : gB z19511 (-2147483648) 2147483647 := gB_any z19511
      refine G_callV (As := [.ref (D.2 1000 21), .int z19511]) (wr := [(q19478, .inr (5, [.ref q19480, .ref q19481, .ref q19482, .ref q19483, .ref q19484, .ref q19485, .ref q19486, .ref q19487, .ref q19488, .int p19491, .int p19492, .int p19493])), (q19480, .inl (I .int, 40, .inl f19495)), (q19481, .inl (I .int, 40, .inl f19496)), (q19482, .inl (I .int, 40, .inl f19497)), (q19483, .inl (I .int, 200, .inl f19498)), (q19484, .inl (I .int, 200, .inl f19499)), (q19485, .inl (I .int, 200, .inl f19500)), (q19486, .inl (I .int, 200, .inl f19501)), (q19487, .inl (I .int, 200, .inl f19502)), (q19488, .inl (I .int, 200, .inl f19503))]) (gV_ok D I) (ct_16718_Listing_addNamed l hl0 D I q19477 q19479 (D.2 1000 21) (D.2 1001 21) sb_21 z19511 p19490 f19494 (gx_sc 21 rfl rfl) (by omega) bp19490 bf19494) d_cX4_addRow_83 ⟨w_6_161, w_1_13, w_6_164, by decide, rfl, (Nat.le_of_ble_eq_true rfl), (Nat.le_of_ble_eq_true rfl)⟩ w_6_163 w_p_64 0 rfl rfl [0, 2] [1, 3, 4, 5, 6, 7, 8, 9, 10, 11] rfl rfl rfl rfl (by decide) (Nat.le_of_ble_eq_true rfl) (Nat.le_of_ble_eq_true rfl) (Nat.le_of_ble_eq_true rfl) (fun r w hp => ?_) (fun _ _ _ z => z.elim)
      obtain ⟨o19512, f19513, rfl, rfl, bo19512, bf19513⟩ := hp
      change G _ _ _ _ _ _ _ _ _ _ _
      refine G_ws (ws' := [(q19478, .inr (5, [.ref q19480, .ref q19481, .ref q19482, .ref q19483, .ref q19484, .ref q19485, .ref q19486, .ref q19487, .ref q19488, .int p19491, .int p19492, .int p19493])), (q19480, .inl (I .int, 40, .inl f19495)), (q19481, .inl (I .int, 40, .inl f19496)), (q19482, .inl (I .int, 40, .inl f19497)), (q19483, .inl (I .int, 200, .inl f19498)), (q19484, .inl (I .int, 200, .inl f19499)), (q19485, .inl (I .int, 200, .inl f19500)), (q19486, .inl (I .int, 200, .inl f19501)), (q19487, .inl (I .int, 200, .inl f19502)), (q19488, .inl (I .int, 200, .inl f19503)), (q19477, .inr (9, [.ref q19479, .int o19512])), (q19479, .inl (I .byte, 16384, .inl f19513))]) (cs' := 0) (sl' := 0) rfl rfl rfl ?_
      refine G_aload_n 0 d_cX4_addRow_86 rfl ?_
      refine G_ldcK (a := D.2 1000 28) d_cX4_addRow_87 (fun _ _ _ h => gx_vk 28 rfl rfl h) ?_
      have hl28_19513 : (sb_28.length : Int) = 3 := rfl
      refine G_callV (As := [.ref (D.2 1000 28)]) (wr := [(q19478, .inr (5, [.ref q19480, .ref q19481, .ref q19482, .ref q19483, .ref q19484, .ref q19485, .ref q19486, .ref q19487, .ref q19488, .int p19491, .int p19492, .int p19493])), (q19480, .inl (I .int, 40, .inl f19495)), (q19481, .inl (I .int, 40, .inl f19496)), (q19482, .inl (I .int, 40, .inl f19497)), (q19483, .inl (I .int, 200, .inl f19498)), (q19484, .inl (I .int, 200, .inl f19499)), (q19485, .inl (I .int, 200, .inl f19500)), (q19486, .inl (I .int, 200, .inl f19501)), (q19487, .inl (I .int, 200, .inl f19502)), (q19488, .inl (I .int, 200, .inl f19503))]) (gV_ok D I) (ct_16726_Listing_addText l hl0 D I q19477 q19479 (D.2 1000 28) (D.2 1001 28) sb_28 o19512 f19513 (gx_sc 28 rfl rfl) (by omega) bo19512 bf19513) d_cX4_addRow_89 ⟨w_6_165, w_1_13, w_6_168, by decide, rfl, (Nat.le_of_ble_eq_true rfl), (Nat.le_of_ble_eq_true rfl)⟩ w_6_167 w_p_65 10 rfl rfl [10, 11] [0, 1, 2, 3, 4, 5, 6, 7, 8, 9] rfl rfl rfl rfl (by decide) (Nat.le_of_ble_eq_true rfl) (Nat.le_of_ble_eq_true rfl) (Nat.le_of_ble_eq_true rfl) (fun r w hp => ?_) (fun _ _ _ z => z.elim)
      obtain ⟨o19515, f19516, rfl, rfl, bo19515, bf19516⟩ := hp
      change G _ _ _ _ _ _ _ _ _ _ _
      refine G_ws (ws' := [(q19478, .inr (5, [.ref q19480, .ref q19481, .ref q19482, .ref q19483, .ref q19484, .ref q19485, .ref q19486, .ref q19487, .ref q19488, .int p19491, .int p19492, .int p19493])), (q19480, .inl (I .int, 40, .inl f19495)), (q19481, .inl (I .int, 40, .inl f19496)), (q19482, .inl (I .int, 40, .inl f19497)), (q19483, .inl (I .int, 200, .inl f19498)), (q19484, .inl (I .int, 200, .inl f19499)), (q19485, .inl (I .int, 200, .inl f19500)), (q19486, .inl (I .int, 200, .inl f19501)), (q19487, .inl (I .int, 200, .inl f19502)), (q19488, .inl (I .int, 200, .inl f19503)), (q19477, .inr (9, [.ref q19479, .int o19515])), (q19479, .inl (I .byte, 16384, .inl f19516))]) (cs' := 0) (sl' := 0) rfl rfl rfl ?_
      refine G_aload_n 0 d_cX4_addRow_92 rfl ?_
      refine G_aload_n 1 d_cX4_addRow_93 rfl ?_
      refine G_iload_n 2 d_cX4_addRow_94 rfl ?_
      refine G_callV (As := [.ref q19478, .int p19489]) (wr := []) (gV_ok D I) (ct_19544_Listing_addSource l hl0 D I q19477 q19478 q19479 q19480 q19481 q19482 q19483 q19484 q19485 q19486 q19487 q19488 p19489 o19515 p19491 p19492 p19493 f19516 f19495 f19496 f19497 f19498 f19499 f19500 f19501 f19502 f19503 bp19489 bo19515 bp19491 bp19492 bp19493 bf19516 bf19495 bf19498) d_cX4_addRow_95 ⟨w_6_207, w_1_13, w_6_210, by decide, rfl, (Nat.le_of_ble_eq_true rfl), (Nat.le_of_ble_eq_true rfl)⟩ w_6_209 w_p_71 10 rfl rfl [10, 0, 11, 1, 2, 3, 4, 5, 6, 7, 8, 9] [] rfl rfl rfl rfl (by decide) (Nat.le_of_ble_eq_true rfl) (Nat.le_of_ble_eq_true rfl) (Nat.le_of_ble_eq_true rfl) (fun r w hp => ?_) (fun _ _ _ z => z.elim)
      obtain ⟨o19623, f19624, rfl, rfl, bo19623, bf19624⟩ := hp
      change G _ _ _ _ _ _ _ _ _ _ _
      refine G_ws (ws' := [(q19477, .inr (9, [.ref q19479, .int o19623])), (q19478, .inr (5, [.ref q19480, .ref q19481, .ref q19482, .ref q19483, .ref q19484, .ref q19485, .ref q19486, .ref q19487, .ref q19488, .int p19491, .int p19492, .int p19493])), (q19479, .inl (I .byte, 16384, .inl f19624)), (q19480, .inl (I .int, 40, .inl f19495)), (q19481, .inl (I .int, 40, .inl f19496)), (q19482, .inl (I .int, 40, .inl f19497)), (q19483, .inl (I .int, 200, .inl f19498)), (q19484, .inl (I .int, 200, .inl f19499)), (q19485, .inl (I .int, 200, .inl f19500)), (q19486, .inl (I .int, 200, .inl f19501)), (q19487, .inl (I .int, 200, .inl f19502)), (q19488, .inl (I .int, 200, .inl f19503))]) (cs' := 0) (sl' := 0) rfl rfl rfl ?_
      exact G_vret d_cX4_addRow_98 rfl (Nat.le_of_ble_eq_true rfl) (Nat.le_of_ble_eq_true rfl) ⟨o19623, f19624, rfl, rfl, bo19623, bf19624⟩
    · have r19625 : z19505.toInt = 18 := gj_eq hc19508 (show Int32.toInt 18 = 18 by decide)
      have bz19505' : gB z19505 18 18 := ⟨by omega, by omega⟩
      refine G_aload_n 0 d_cX4_addRow_47 rfl ?_
      refine G_ldcK (a := D.2 1000 26) d_cX4_addRow_48 (fun _ _ _ h => gx_vk 26 rfl rfl h) ?_
      have hl26_19625 : (sb_26.length : Int) = 5 := rfl
      refine G_aload_n 1 d_cX4_addRow_50 rfl ?_
      refine G_getfN 1 8 d_cX4_addRow_51 rfl (gk_X0 D I) (Nat.le_of_ble_eq_true rfl) (fun _ _ _ h => gn_w 34 rfl h) rfl ?_
      refine G_iload_n 2 d_cX4_addRow_54 rfl ?_
      refine G_iald 11 0 d_cX4_addRow_55 rfl rfl (gB_in bp19489 (by decide) (by decide)) (G_nam fun z19627 hz19627 => ?_)
      have bz19627 : gB z19627 (-2147483648) 2147483647 := gB_any z19627
      refine G_callV (As := [.ref (D.2 1000 26), .int z19627]) (wr := [(q19478, .inr (5, [.ref q19480, .ref q19481, .ref q19482, .ref q19483, .ref q19484, .ref q19485, .ref q19486, .ref q19487, .ref q19488, .int p19491, .int p19492, .int p19493])), (q19480, .inl (I .int, 40, .inl f19495)), (q19481, .inl (I .int, 40, .inl f19496)), (q19482, .inl (I .int, 40, .inl f19497)), (q19483, .inl (I .int, 200, .inl f19498)), (q19484, .inl (I .int, 200, .inl f19499)), (q19485, .inl (I .int, 200, .inl f19500)), (q19486, .inl (I .int, 200, .inl f19501)), (q19487, .inl (I .int, 200, .inl f19502)), (q19488, .inl (I .int, 200, .inl f19503))]) (gV_ok D I) (ct_16718_Listing_addNamed l hl0 D I q19477 q19479 (D.2 1000 26) (D.2 1001 26) sb_26 z19627 p19490 f19494 (gx_sc 26 rfl rfl) (by omega) bp19490 bf19494) d_cX4_addRow_56 ⟨w_6_161, w_1_13, w_6_164, by decide, rfl, (Nat.le_of_ble_eq_true rfl), (Nat.le_of_ble_eq_true rfl)⟩ w_6_163 w_p_64 0 rfl rfl [0, 2] [1, 3, 4, 5, 6, 7, 8, 9, 10, 11] rfl rfl rfl rfl (by decide) (Nat.le_of_ble_eq_true rfl) (Nat.le_of_ble_eq_true rfl) (Nat.le_of_ble_eq_true rfl) (fun r w hp => ?_) (fun _ _ _ z => z.elim)
      obtain ⟨o19628, f19629, rfl, rfl, bo19628, bf19629⟩ := hp
      change G _ _ _ _ _ _ _ _ _ _ _
      refine G_ws (ws' := [(q19478, .inr (5, [.ref q19480, .ref q19481, .ref q19482, .ref q19483, .ref q19484, .ref q19485, .ref q19486, .ref q19487, .ref q19488, .int p19491, .int p19492, .int p19493])), (q19480, .inl (I .int, 40, .inl f19495)), (q19481, .inl (I .int, 40, .inl f19496)), (q19482, .inl (I .int, 40, .inl f19497)), (q19483, .inl (I .int, 200, .inl f19498)), (q19484, .inl (I .int, 200, .inl f19499)), (q19485, .inl (I .int, 200, .inl f19500)), (q19486, .inl (I .int, 200, .inl f19501)), (q19487, .inl (I .int, 200, .inl f19502)), (q19488, .inl (I .int, 200, .inl f19503)), (q19477, .inr (9, [.ref q19479, .int o19628])), (q19479, .inl (I .byte, 16384, .inl f19629))]) (cs' := 0) (sl' := 0) rfl rfl rfl ?_
      refine G_aload_n 0 d_cX4_addRow_59 rfl ?_
      refine G_ldcK (a := D.2 1000 27) d_cX4_addRow_60 (fun _ _ _ h => gx_vk 27 rfl rfl h) ?_
      have hl27_19629 : (sb_27.length : Int) = 4 := rfl
      refine G_aload_n 1 d_cX4_addRow_62 rfl ?_
      refine G_getfN 0 5 d_cX4_addRow_63 rfl (gk_X0 D I) (Nat.le_of_ble_eq_true rfl) (fun _ _ _ h => gn_w 23 rfl h) rfl ?_
      refine G_iload_n 2 d_cX4_addRow_66 rfl ?_
      refine G_iald 6 0 d_cX4_addRow_67 rfl rfl (gB_in bp19489 (by decide) (by decide)) (G_nam fun z19631 hz19631 => ?_)
      have bz19631 : gB z19631 (-2147483648) 2147483647 := gB_any z19631
      refine G_callV (As := [.ref (D.2 1000 27), .int z19631]) (wr := [(q19478, .inr (5, [.ref q19480, .ref q19481, .ref q19482, .ref q19483, .ref q19484, .ref q19485, .ref q19486, .ref q19487, .ref q19488, .int p19491, .int p19492, .int p19493])), (q19480, .inl (I .int, 40, .inl f19495)), (q19481, .inl (I .int, 40, .inl f19496)), (q19482, .inl (I .int, 40, .inl f19497)), (q19483, .inl (I .int, 200, .inl f19498)), (q19484, .inl (I .int, 200, .inl f19499)), (q19485, .inl (I .int, 200, .inl f19500)), (q19486, .inl (I .int, 200, .inl f19501)), (q19487, .inl (I .int, 200, .inl f19502)), (q19488, .inl (I .int, 200, .inl f19503))]) (gV_ok D I) (ct_16718_Listing_addNamed l hl0 D I q19477 q19479 (D.2 1000 27) (D.2 1001 27) sb_27 z19631 o19628 f19629 (gx_sc 27 rfl rfl) (by omega) bo19628 bf19629) d_cX4_addRow_68 ⟨w_6_161, w_1_13, w_6_164, by decide, rfl, (Nat.le_of_ble_eq_true rfl), (Nat.le_of_ble_eq_true rfl)⟩ w_6_163 w_p_64 10 rfl rfl [10, 11] [0, 1, 2, 3, 4, 5, 6, 7, 8, 9] rfl rfl rfl rfl (by decide) (Nat.le_of_ble_eq_true rfl) (Nat.le_of_ble_eq_true rfl) (Nat.le_of_ble_eq_true rfl) (fun r w hp => ?_) (fun _ _ _ z => z.elim)
      obtain ⟨o19632, f19633, rfl, rfl, bo19632, bf19633⟩ := hp
      change G _ _ _ _ _ _ _ _ _ _ _
      refine G_ws (ws' := [(q19478, .inr (5, [.ref q19480, .ref q19481, .ref q19482, .ref q19483, .ref q19484, .ref q19485, .ref q19486, .ref q19487, .ref q19488, .int p19491, .int p19492, .int p19493])), (q19480, .inl (I .int, 40, .inl f19495)), (q19481, .inl (I .int, 40, .inl f19496)), (q19482, .inl (I .int, 40, .inl f19497)), (q19483, .inl (I .int, 200, .inl f19498)), (q19484, .inl (I .int, 200, .inl f19499)), (q19485, .inl (I .int, 200, .inl f19500)), (q19486, .inl (I .int, 200, .inl f19501)), (q19487, .inl (I .int, 200, .inl f19502)), (q19488, .inl (I .int, 200, .inl f19503)), (q19477, .inr (9, [.ref q19479, .int o19632])), (q19479, .inl (I .byte, 16384, .inl f19633))]) (cs' := 0) (sl' := 0) rfl rfl rfl ?_
      refine G_goto 98 d_cX4_addRow_71 (by decide +kernel) ?_
      refine G_sub (ws' := [(q19477, .inr (9, [.ref q19479, .int o19632])), (q19478, .inr (5, [.ref q19480, .ref q19481, .ref q19482, .ref q19483, .ref q19484, .ref q19485, .ref q19486, .ref q19487, .ref q19488, .int p19491, .int p19492, .int p19493])), (q19479, .inl (I .byte, 16384, .inl f19633)), (q19480, .inl (I .int, 40, .inl f19495)), (q19481, .inl (I .int, 40, .inl f19496)), (q19482, .inl (I .int, 40, .inl f19497)), (q19483, .inl (I .int, 200, .inl f19498)), (q19484, .inl (I .int, 200, .inl f19499)), (q19485, .inl (I .int, 200, .inl f19500)), (q19486, .inl (I .int, 200, .inl f19501)), (q19487, .inl (I .int, 200, .inl f19502)), (q19488, .inl (I .int, 200, .inl f19503))]) [10, 0, 11, 1, 2, 3, 4, 5, 6, 7, 8, 9] rfl rfl ?_
      exact G_vret d_cX4_addRow_98 rfl (Nat.le_of_ble_eq_true rfl) (Nat.le_of_ble_eq_true rfl) ⟨o19632, f19633, rfl, rfl, bo19632, bf19633⟩
  · have r19634 : z19505.toInt = 16 := gj_eq hc19506 (show Int32.toInt 16 = 16 by decide)
    have bz19505' : gB z19505 16 16 := ⟨by omega, by omega⟩
    refine G_aload_n 0 d_cX4_addRow_11 rfl ?_
    refine G_ldcK (a := D.2 1000 25) d_cX4_addRow_12 (fun _ _ _ h => gx_vk 25 rfl rfl h) ?_
    have hl25_19634 : (sb_25.length : Int) = 5 := rfl
    refine G_callV (As := [.ref (D.2 1000 25)]) (wr := [(q19478, .inr (5, [.ref q19480, .ref q19481, .ref q19482, .ref q19483, .ref q19484, .ref q19485, .ref q19486, .ref q19487, .ref q19488, .int p19491, .int p19492, .int p19493])), (q19480, .inl (I .int, 40, .inl f19495)), (q19481, .inl (I .int, 40, .inl f19496)), (q19482, .inl (I .int, 40, .inl f19497)), (q19483, .inl (I .int, 200, .inl f19498)), (q19484, .inl (I .int, 200, .inl f19499)), (q19485, .inl (I .int, 200, .inl f19500)), (q19486, .inl (I .int, 200, .inl f19501)), (q19487, .inl (I .int, 200, .inl f19502)), (q19488, .inl (I .int, 200, .inl f19503))]) (gV_ok D I) (ct_16726_Listing_addText l hl0 D I q19477 q19479 (D.2 1000 25) (D.2 1001 25) sb_25 p19490 f19494 (gx_sc 25 rfl rfl) (by omega) bp19490 bf19494) d_cX4_addRow_14 ⟨w_6_165, w_1_13, w_6_168, by decide, rfl, (Nat.le_of_ble_eq_true rfl), (Nat.le_of_ble_eq_true rfl)⟩ w_6_167 w_p_65 0 rfl rfl [0, 2] [1, 3, 4, 5, 6, 7, 8, 9, 10, 11] rfl rfl rfl rfl (by decide) (Nat.le_of_ble_eq_true rfl) (Nat.le_of_ble_eq_true rfl) (Nat.le_of_ble_eq_true rfl) (fun r w hp => ?_) (fun _ _ _ z => z.elim)
    obtain ⟨o19636, f19637, rfl, rfl, bo19636, bf19637⟩ := hp
    change G _ _ _ _ _ _ _ _ _ _ _
    refine G_ws (ws' := [(q19478, .inr (5, [.ref q19480, .ref q19481, .ref q19482, .ref q19483, .ref q19484, .ref q19485, .ref q19486, .ref q19487, .ref q19488, .int p19491, .int p19492, .int p19493])), (q19480, .inl (I .int, 40, .inl f19495)), (q19481, .inl (I .int, 40, .inl f19496)), (q19482, .inl (I .int, 40, .inl f19497)), (q19483, .inl (I .int, 200, .inl f19498)), (q19484, .inl (I .int, 200, .inl f19499)), (q19485, .inl (I .int, 200, .inl f19500)), (q19486, .inl (I .int, 200, .inl f19501)), (q19487, .inl (I .int, 200, .inl f19502)), (q19488, .inl (I .int, 200, .inl f19503)), (q19477, .inr (9, [.ref q19479, .int o19636])), (q19479, .inl (I .byte, 16384, .inl f19637))]) (cs' := 0) (sl' := 0) rfl rfl rfl ?_
    refine G_aload_n 0 d_cX4_addRow_17 rfl ?_
    refine G_aload_n 1 d_cX4_addRow_18 rfl ?_
    refine G_getfN 0 5 d_cX4_addRow_19 rfl (gk_X0 D I) (Nat.le_of_ble_eq_true rfl) (fun _ _ _ h => gn_w 23 rfl h) rfl ?_
    refine G_iload_n 2 d_cX4_addRow_22 rfl ?_
    refine G_iald 6 0 d_cX4_addRow_23 rfl rfl (gB_in bp19489 (by decide) (by decide)) (G_nam fun z19638 hz19638 => ?_)
    have bz19638 : gB z19638 (-2147483648) 2147483647 := gB_any z19638
    refine G_aload_n 1 d_cX4_addRow_24 rfl ?_
    refine G_getfN 0 6 d_cX4_addRow_25 rfl (gk_X0 D I) (Nat.le_of_ble_eq_true rfl) (fun _ _ _ h => gn_w 27 rfl h) rfl ?_
    refine G_iload_n 2 d_cX4_addRow_28 rfl ?_
    refine G_iald 7 0 d_cX4_addRow_29 rfl rfl (gB_in bp19489 (by decide) (by decide)) (G_nam fun z19639 hz19639 => ?_)
    have bz19639 : gB z19639 (-2147483648) 2147483647 := gB_any z19639
    refine G_callV (As := [.int z19638, .int z19639]) (wr := [(q19478, .inr (5, [.ref q19480, .ref q19481, .ref q19482, .ref q19483, .ref q19484, .ref q19485, .ref q19486, .ref q19487, .ref q19488, .int p19491, .int p19492, .int p19493])), (q19480, .inl (I .int, 40, .inl f19495)), (q19481, .inl (I .int, 40, .inl f19496)), (q19482, .inl (I .int, 40, .inl f19497)), (q19483, .inl (I .int, 200, .inl f19498)), (q19484, .inl (I .int, 200, .inl f19499)), (q19485, .inl (I .int, 200, .inl f19500)), (q19486, .inl (I .int, 200, .inl f19501)), (q19487, .inl (I .int, 200, .inl f19502)), (q19488, .inl (I .int, 200, .inl f19503))]) (gV_ok D I) (ct_19558_Listing_addOperand l hl0 D I q19477 q19479 z19638 z19639 o19636 f19637 bo19636 bf19637) d_cX4_addRow_30 ⟨w_6_191, w_1_13, w_6_194, by decide, rfl, (Nat.le_of_ble_eq_true rfl), (Nat.le_of_ble_eq_true rfl)⟩ w_6_193 w_p_69 10 rfl rfl [10, 11] [0, 1, 2, 3, 4, 5, 6, 7, 8, 9] rfl rfl rfl rfl (by decide) (Nat.le_of_ble_eq_true rfl) (Nat.le_of_ble_eq_true rfl) (Nat.le_of_ble_eq_true rfl) (fun r w hp => ?_) (fun _ _ _ z => z.elim)
    obtain ⟨o19640, f19641, rfl, rfl, bo19640, bf19641⟩ := hp
    change G _ _ _ _ _ _ _ _ _ _ _
    refine G_ws (ws' := [(q19478, .inr (5, [.ref q19480, .ref q19481, .ref q19482, .ref q19483, .ref q19484, .ref q19485, .ref q19486, .ref q19487, .ref q19488, .int p19491, .int p19492, .int p19493])), (q19480, .inl (I .int, 40, .inl f19495)), (q19481, .inl (I .int, 40, .inl f19496)), (q19482, .inl (I .int, 40, .inl f19497)), (q19483, .inl (I .int, 200, .inl f19498)), (q19484, .inl (I .int, 200, .inl f19499)), (q19485, .inl (I .int, 200, .inl f19500)), (q19486, .inl (I .int, 200, .inl f19501)), (q19487, .inl (I .int, 200, .inl f19502)), (q19488, .inl (I .int, 200, .inl f19503)), (q19477, .inr (9, [.ref q19479, .int o19640])), (q19479, .inl (I .byte, 16384, .inl f19641))]) (cs' := 0) (sl' := 0) rfl rfl rfl ?_
    refine G_goto 98 d_cX4_addRow_33 (by decide +kernel) ?_
    refine G_sub (ws' := [(q19477, .inr (9, [.ref q19479, .int o19640])), (q19478, .inr (5, [.ref q19480, .ref q19481, .ref q19482, .ref q19483, .ref q19484, .ref q19485, .ref q19486, .ref q19487, .ref q19488, .int p19491, .int p19492, .int p19493])), (q19479, .inl (I .byte, 16384, .inl f19641)), (q19480, .inl (I .int, 40, .inl f19495)), (q19481, .inl (I .int, 40, .inl f19496)), (q19482, .inl (I .int, 40, .inl f19497)), (q19483, .inl (I .int, 200, .inl f19498)), (q19484, .inl (I .int, 200, .inl f19499)), (q19485, .inl (I .int, 200, .inl f19500)), (q19486, .inl (I .int, 200, .inl f19501)), (q19487, .inl (I .int, 200, .inl f19502)), (q19488, .inl (I .int, 200, .inl f19503))]) [10, 0, 11, 1, 2, 3, 4, 5, 6, 7, 8, 9] rfl rfl ?_
    exact G_vret d_cX4_addRow_98 rfl (Nat.le_of_ble_eq_true rfl) (Nat.le_of_ble_eq_true rfl) ⟨o19640, f19641, rfl, rfl, bo19640, bf19641⟩
