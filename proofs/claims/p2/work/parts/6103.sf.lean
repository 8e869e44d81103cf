abbrev ky_2194_Code_renameSlots : gKey := (cX0_renameSlots, 3, yX0_renameSlots.cls, none, [], yX0_renameSlots.name, fun _ _ => True)
abbrev po_2194_Code_renameSlots (I : FieldType → ClassId) (q2170 : Nat) (q2171 : Nat) (q2172 : Nat) (q2173 : Nat) (q2174 : Nat) (q2175 : Nat) (q2176 : Nat) (q2177 : Nat) (q2178 : Nat) (q2179 : Nat) (q2180 : Nat) (p2181 : Int32) (p2182 : Int32) (p2183 : Int32) (f2184 : Nat → Int32) (f2185 : Nat → Int32) (f2186 : Nat → Int32) (f2187 : Nat → Int32) (f2188 : Nat → Int32) (f2189 : Nat → Int32) (f2190 : Nat → Int32) (f2191 : Nat → Int32) (f2192 : Nat → Int32) (f2193 : Nat → Int32) : Option Value → va_W → Prop := fun r w => ∃ (f2473 : Nat → Int32), r = none ∧ w = [(q2170, .inr (5, [.ref q2172, .ref q2173, .ref q2174, .ref q2175, .ref q2176, .ref q2177, .ref q2178, .ref q2179, .ref q2180, .int p2181, .int p2182, .int p2183])), (q2171, .inl (I .int, 720, .inl f2184)), (q2172, .inl (I .int, 40, .inl f2185)), (q2173, .inl (I .int, 40, .inl f2186)), (q2174, .inl (I .int, 40, .inl f2187)), (q2175, .inl (I .int, 200, .inl f2188)), (q2176, .inl (I .int, 200, .inl f2189)), (q2177, .inl (I .int, 200, .inl f2190)), (q2178, .inl (I .int, 200, .inl f2191)), (q2179, .inl (I .int, 200, .inl f2192)), (q2180, .inl (I .int, 200, .inl f2473))] ∧ gF f2473 (-2147483648) 2147483647
set_option maxRecDepth 100000 in
set_option maxHeartbeats 4000000 in
theorem ct_2194_Code_renameSlots (l : Launch) (hl0 : l.stackTraces = false) (D : va_G) (I : FieldType → ClassId) (q2170 : Nat) (q2171 : Nat) (q2172 : Nat) (q2173 : Nat) (q2174 : Nat) (q2175 : Nat) (q2176 : Nat) (q2177 : Nat) (q2178 : Nat) (q2179 : Nat) (q2180 : Nat) (p2181 : Int32) (p2182 : Int32) (p2183 : Int32) (f2184 : Nat → Int32) (f2185 : Nat → Int32) (f2186 : Nat → Int32) (f2187 : Nat → Int32) (f2188 : Nat → Int32) (f2189 : Nat → Int32) (f2190 : Nat → Int32) (f2191 : Nat → Int32) (f2192 : Nat → Int32) (f2193 : Nat → Int32) (bp2181 : gB p2181 0 40) (bp2182 : gB p2182 0 200) (bp2183 : gB p2183 0 1) (bf2185 : gF f2185 0 200) : Ct (gV D I) l yX0_renameSlots cX0_renameSlots 3 none 1 21 0 0 [.ref q2170, .ref q2171] [(q2170, .inr (5, [.ref q2172, .ref q2173, .ref q2174, .ref q2175, .ref q2176, .ref q2177, .ref q2178, .ref q2179, .ref q2180, .int p2181, .int p2182, .int p2183])), (q2171, .inl (I .int, 720, .inl f2184)), (q2172, .inl (I .int, 40, .inl f2185)), (q2173, .inl (I .int, 40, .inl f2186)), (q2174, .inl (I .int, 40, .inl f2187)), (q2175, .inl (I .int, 200, .inl f2188)), (q2176, .inl (I .int, 200, .inl f2189)), (q2177, .inl (I .int, 200, .inl f2190)), (q2178, .inl (I .int, 200, .inl f2191)), (q2179, .inl (I .int, 200, .inl f2192)), (q2180, .inl (I .int, 200, .inl f2193))] (po_2194_Code_renameSlots I q2170 q2171 q2172 q2173 q2174 q2175 q2176 q2177 q2178 q2179 q2180 p2181 p2182 p2183 f2184 f2185 f2186 f2187 f2188 f2189 f2190 f2191 f2192 f2193) gN := by
  refine Ct_of hl0 (by decide) (Nat.le_of_ble_eq_true rfl) ?_
  refine G_iconst 0 d_cX0_renameSlots_0 (by decide +kernel) ?_
  refine G_istore_n (L' := [(2, .int 0), (0, .ref q2170), (1, .ref q2171)]) d_cX0_renameSlots_1 (Nat.le_of_ble_eq_true rfl) rfl ?_
  have hlp2_2433 : ∀ (n2_2433 : Nat) (g2432 : Int32) (f2433 : Nat → Int32), gB g2432 0 200 → gF f2433 (-2147483648) 2147483647 → ((201 : Int) - g2432.toInt).toNat < n2_2433 → G (gV D I) l (gRm 1 21 0 0) (gM (gV D I) (po_2194_Code_renameSlots I q2170 q2171 q2172 q2173 q2174 q2175 q2176 q2177 q2178 q2179 q2180 p2181 p2182 p2183 f2184 f2185 f2186 f2187 f2188 f2189 f2190 f2191 f2192 f2193) gN 0 0) ky_2194_Code_renameSlots 2 [(2, .int g2432), (0, .ref q2170), (1, .ref q2171)] [] [(q2170, .inr (5, [.ref q2172, .ref q2173, .ref q2174, .ref q2175, .ref q2176, .ref q2177, .ref q2178, .ref q2179, .ref q2180, .int p2181, .int p2182, .int p2183])), (q2171, .inl (I .int, 720, .inl f2184)), (q2172, .inl (I .int, 40, .inl f2185)), (q2173, .inl (I .int, 40, .inl f2186)), (q2174, .inl (I .int, 40, .inl f2187)), (q2175, .inl (I .int, 200, .inl f2188)), (q2176, .inl (I .int, 200, .inl f2189)), (q2177, .inl (I .int, 200, .inl f2190)), (q2178, .inl (I .int, 200, .inl f2191)), (q2179, .inl (I .int, 200, .inl f2192)), (q2180, .inl (I .int, 200, .inl f2433))] 0 0 := by
    intro n2_2433
    induction n2_2433 with
    | zero => intro g2432 f2433 bg2432 bf2433 hm2_2433; exact absurd hm2_2433 (Nat.not_lt_zero _)
    | succ n2_2433 ih2_2433 =>
      intro g2432 f2433 bg2432 bf2433 hm2_2433
      refine G_iload_n 0 d_cX0_renameSlots_2 rfl ?_
      refine G_aload_n 1 d_cX0_renameSlots_3 rfl ?_
      refine G_getf 0 10 d_cX0_renameSlots_4 rfl (gk_X0 D I) (Nat.le_of_ble_eq_true rfl) w_1_197 rfl ?_
      refine G_icmp_ge 54 d_cX0_renameSlots_7 (by decide +kernel) (fun hc2434 => ?_) (fun hc2434 => ?_)
      · have r2435 : p2182.toInt ≤ g2432.toInt := gC_le hc2434
        exact G_vret d_cX0_renameSlots_54 rfl (Nat.le_of_ble_eq_true rfl) (Nat.le_of_ble_eq_true rfl) ⟨f2433, rfl, rfl, bf2433⟩
      · have r2436 : g2432.toInt < p2182.toInt := gC_nle hc2434
        have bg2432' : gB g2432 0 199 := ⟨by omega, by omega⟩
        have bp2182' : gB p2182 1 200 := ⟨by omega, by omega⟩
        refine G_aload_n 1 d_cX0_renameSlots_10 rfl ?_
        refine G_getf 0 3 d_cX0_renameSlots_11 rfl (gk_X0 D I) (Nat.le_of_ble_eq_true rfl) w_1_159 rfl ?_
        refine G_iload_n 0 d_cX0_renameSlots_14 rfl ?_
        refine G_iald 5 0 d_cX0_renameSlots_15 rfl rfl (gB_in bg2432' (by decide) (by decide)) (G_nam fun z2437 hz2437 => ?_)
        have bz2437 : gB z2437 (-2147483648) 2147483647 := gB_any z2437
        refine G_bipush 17 d_cX0_renameSlots_16 (by decide +kernel) ?_
        refine G_icmp_eq 32 d_cX0_renameSlots_18 (by decide +kernel) (fun hc2438 => ?_) (fun hc2438 => ?_)
        · have r2439 : z2437.toInt = 17 := gj_eq hc2438 (show Int32.toInt 17 = 17 by decide)
          have bz2437' : gB z2437 17 17 := ⟨by omega, by omega⟩
          refine G_aload_n 1 d_cX0_renameSlots_32 rfl ?_
          refine G_getf 0 8 d_cX0_renameSlots_33 rfl (gk_X0 D I) (Nat.le_of_ble_eq_true rfl) w_1_183 rfl ?_
          refine G_iload_n 0 d_cX0_renameSlots_36 rfl ?_
          refine G_aload_n 2 d_cX0_renameSlots_37 rfl ?_
          refine G_aload_n 1 d_cX0_renameSlots_38 rfl ?_
          refine G_getf 0 8 d_cX0_renameSlots_39 rfl (gk_X0 D I) (Nat.le_of_ble_eq_true rfl) w_1_183 rfl ?_
          refine G_iload_n 0 d_cX0_renameSlots_42 rfl ?_
          refine G_iald 10 0 d_cX0_renameSlots_43 rfl rfl (gB_in bg2432' (by decide) (by decide)) (G_nam fun z2440 hz2440 => ?_)
          have bz2440 : gB z2440 (-2147483648) 2147483647 := by rw [hz2440]; exact bf2433 _
          refine G_callS (As := [.ref q2171, .int z2440]) (wr := [(q2170, .inr (5, [.ref q2172, .ref q2173, .ref q2174, .ref q2175, .ref q2176, .ref q2177, .ref q2178, .ref q2179, .ref q2180, .int p2181, .int p2182, .int p2183])), (q2172, .inl (I .int, 40, .inl f2185)), (q2173, .inl (I .int, 40, .inl f2186)), (q2174, .inl (I .int, 40, .inl f2187)), (q2175, .inl (I .int, 200, .inl f2188)), (q2176, .inl (I .int, 200, .inl f2189)), (q2177, .inl (I .int, 200, .inl f2190)), (q2178, .inl (I .int, 200, .inl f2191)), (q2179, .inl (I .int, 200, .inl f2192)), (q2180, .inl (I .int, 200, .inl f2433))]) (gV_ok D I) (ct_955_Code_nameIn l hl0 D I q2171 z2440 f2184 ) d_cX0_renameSlots_44 ⟨w_5_154, w_1_5, w_5_156, by decide, rfl, (Nat.le_of_ble_eq_true rfl), (Nat.le_of_ble_eq_true rfl)⟩ w_5_155 [1] [0, 2, 3, 4, 5, 6, 7, 8, 9, 10] rfl rfl rfl rfl (by decide) (Nat.le_of_ble_eq_true rfl) (Nat.le_of_ble_eq_true rfl) (Nat.le_of_ble_eq_true rfl) (fun r w hp => ?_) (fun _ _ _ z => z.elim)
          rcases hp with ⟨rfl, rfl, r2441⟩ | ⟨rfl, rfl, r2442, r2443⟩ | ⟨z2444, rfl, rfl, r2445, r2446, r2447⟩
          · have bz2440' : gB z2440 (-2147483648) (-1) := ⟨by omega, by omega⟩
            change G _ _ _ _ _ _ _ (.int z2440 :: _) _ _ _
            refine G_ws (ws' := [(q2170, .inr (5, [.ref q2172, .ref q2173, .ref q2174, .ref q2175, .ref q2176, .ref q2177, .ref q2178, .ref q2179, .ref q2180, .int p2181, .int p2182, .int p2183])), (q2172, .inl (I .int, 40, .inl f2185)), (q2173, .inl (I .int, 40, .inl f2186)), (q2174, .inl (I .int, 40, .inl f2187)), (q2175, .inl (I .int, 200, .inl f2188)), (q2176, .inl (I .int, 200, .inl f2189)), (q2177, .inl (I .int, 200, .inl f2190)), (q2178, .inl (I .int, 200, .inl f2191)), (q2179, .inl (I .int, 200, .inl f2192)), (q2180, .inl (I .int, 200, .inl f2433)), (q2171, .inl (I .int, 720, .inl f2184))]) (cs' := 0) (sl' := 0) rfl rfl rfl ?_
            refine G_iastN 9 0 d_cX0_renameSlots_47 rfl rfl (gB_in bg2432' (by decide) (by decide)) (fun f2448 hf2448 => ?_)
            refine G_ws (ws' := [(q2170, .inr (5, [.ref q2172, .ref q2173, .ref q2174, .ref q2175, .ref q2176, .ref q2177, .ref q2178, .ref q2179, .ref q2180, .int p2181, .int p2182, .int p2183])), (q2172, .inl (I .int, 40, .inl f2185)), (q2173, .inl (I .int, 40, .inl f2186)), (q2174, .inl (I .int, 40, .inl f2187)), (q2175, .inl (I .int, 200, .inl f2188)), (q2176, .inl (I .int, 200, .inl f2189)), (q2177, .inl (I .int, 200, .inl f2190)), (q2178, .inl (I .int, 200, .inl f2191)), (q2179, .inl (I .int, 200, .inl f2192)), (q2180, .inl (I .int, 200, .inl f2448)), (q2171, .inl (I .int, 720, .inl f2184))]) (cs' := 0) (sl' := 0) rfl rfl rfl ?_
            obtain ⟨z2449, hz2449⟩ : ∃ z : Int32, z = g2432 + Int32.ofInt 1 := ⟨_, rfl⟩
            have ez2449 : z2449.toInt = g2432.toInt + 1 := gI_inc hz2449 (by decide) bg2432' (by decide) (by decide)
            have bz2449 : gB z2449 1 200 := ⟨by omega, by omega⟩
            refine G_iinc (L' := [(2, .int z2449), (0, .ref q2170), (1, .ref q2171)]) z2449 0 d_cX0_renameSlots_48 rfl hz2449.symm (Nat.le_of_ble_eq_true rfl) rfl ?_
            refine G_goto 2 d_cX0_renameSlots_51 (by decide +kernel) ?_
            refine G_sub (ws' := [(q2170, .inr (5, [.ref q2172, .ref q2173, .ref q2174, .ref q2175, .ref q2176, .ref q2177, .ref q2178, .ref q2179, .ref q2180, .int p2181, .int p2182, .int p2183])), (q2171, .inl (I .int, 720, .inl f2184)), (q2172, .inl (I .int, 40, .inl f2185)), (q2173, .inl (I .int, 40, .inl f2186)), (q2174, .inl (I .int, 40, .inl f2187)), (q2175, .inl (I .int, 200, .inl f2188)), (q2176, .inl (I .int, 200, .inl f2189)), (q2177, .inl (I .int, 200, .inl f2190)), (q2178, .inl (I .int, 200, .inl f2191)), (q2179, .inl (I .int, 200, .inl f2192)), (q2180, .inl (I .int, 200, .inl f2448))]) [0, 10, 1, 2, 3, 4, 5, 6, 7, 8, 9] rfl rfl ?_
            exact ih2_2433 z2449 f2448 (gB_w bz2449 (by decide) (by decide)) (gF_any f2448) (by omega)
          · have bz2440' : gB z2440 0 2147483647 := ⟨by omega, by omega⟩
            have bz2440'' : gB z2440 720 2147483647 := ⟨by omega, by omega⟩
            change G _ _ _ _ _ _ _ (.int z2440 :: _) _ _ _
            refine G_ws (ws' := [(q2170, .inr (5, [.ref q2172, .ref q2173, .ref q2174, .ref q2175, .ref q2176, .ref q2177, .ref q2178, .ref q2179, .ref q2180, .int p2181, .int p2182, .int p2183])), (q2172, .inl (I .int, 40, .inl f2185)), (q2173, .inl (I .int, 40, .inl f2186)), (q2174, .inl (I .int, 40, .inl f2187)), (q2175, .inl (I .int, 200, .inl f2188)), (q2176, .inl (I .int, 200, .inl f2189)), (q2177, .inl (I .int, 200, .inl f2190)), (q2178, .inl (I .int, 200, .inl f2191)), (q2179, .inl (I .int, 200, .inl f2192)), (q2180, .inl (I .int, 200, .inl f2433)), (q2171, .inl (I .int, 720, .inl f2184))]) (cs' := 0) (sl' := 0) rfl rfl rfl ?_
            refine G_iastN 9 0 d_cX0_renameSlots_47 rfl rfl (gB_in bg2432' (by decide) (by decide)) (fun f2450 hf2450 => ?_)
            refine G_ws (ws' := [(q2170, .inr (5, [.ref q2172, .ref q2173, .ref q2174, .ref q2175, .ref q2176, .ref q2177, .ref q2178, .ref q2179, .ref q2180, .int p2181, .int p2182, .int p2183])), (q2172, .inl (I .int, 40, .inl f2185)), (q2173, .inl (I .int, 40, .inl f2186)), (q2174, .inl (I .int, 40, .inl f2187)), (q2175, .inl (I .int, 200, .inl f2188)), (q2176, .inl (I .int, 200, .inl f2189)), (q2177, .inl (I .int, 200, .inl f2190)), (q2178, .inl (I .int, 200, .inl f2191)), (q2179, .inl (I .int, 200, .inl f2192)), (q2180, .inl (I .int, 200, .inl f2450)), (q2171, .inl (I .int, 720, .inl f2184))]) (cs' := 0) (sl' := 0) rfl rfl rfl ?_
            obtain ⟨z2451, hz2451⟩ : ∃ z : Int32, z = g2432 + Int32.ofInt 1 := ⟨_, rfl⟩
            have ez2451 : z2451.toInt = g2432.toInt + 1 := gI_inc hz2451 (by decide) bg2432' (by decide) (by decide)
            have bz2451 : gB z2451 1 200 := ⟨by omega, by omega⟩
            refine G_iinc (L' := [(2, .int z2451), (0, .ref q2170), (1, .ref q2171)]) z2451 0 d_cX0_renameSlots_48 rfl hz2451.symm (Nat.le_of_ble_eq_true rfl) rfl ?_
            refine G_goto 2 d_cX0_renameSlots_51 (by decide +kernel) ?_
            refine G_sub (ws' := [(q2170, .inr (5, [.ref q2172, .ref q2173, .ref q2174, .ref q2175, .ref q2176, .ref q2177, .ref q2178, .ref q2179, .ref q2180, .int p2181, .int p2182, .int p2183])), (q2171, .inl (I .int, 720, .inl f2184)), (q2172, .inl (I .int, 40, .inl f2185)), (q2173, .inl (I .int, 40, .inl f2186)), (q2174, .inl (I .int, 40, .inl f2187)), (q2175, .inl (I .int, 200, .inl f2188)), (q2176, .inl (I .int, 200, .inl f2189)), (q2177, .inl (I .int, 200, .inl f2190)), (q2178, .inl (I .int, 200, .inl f2191)), (q2179, .inl (I .int, 200, .inl f2192)), (q2180, .inl (I .int, 200, .inl f2450))]) [0, 10, 1, 2, 3, 4, 5, 6, 7, 8, 9] rfl rfl ?_
            exact ih2_2433 z2451 f2450 (gB_w bz2451 (by decide) (by decide)) (gF_any f2450) (by omega)
          · have bz2440' : gB z2440 0 2147483647 := ⟨by omega, by omega⟩
            have bz2440'' : gB z2440 0 719 := ⟨by omega, by omega⟩
            change G _ _ _ _ _ _ _ (.int z2444 :: _) _ _ _
            refine G_ws (ws' := [(q2170, .inr (5, [.ref q2172, .ref q2173, .ref q2174, .ref q2175, .ref q2176, .ref q2177, .ref q2178, .ref q2179, .ref q2180, .int p2181, .int p2182, .int p2183])), (q2172, .inl (I .int, 40, .inl f2185)), (q2173, .inl (I .int, 40, .inl f2186)), (q2174, .inl (I .int, 40, .inl f2187)), (q2175, .inl (I .int, 200, .inl f2188)), (q2176, .inl (I .int, 200, .inl f2189)), (q2177, .inl (I .int, 200, .inl f2190)), (q2178, .inl (I .int, 200, .inl f2191)), (q2179, .inl (I .int, 200, .inl f2192)), (q2180, .inl (I .int, 200, .inl f2433)), (q2171, .inl (I .int, 720, .inl f2184))]) (cs' := 0) (sl' := 0) rfl rfl rfl ?_
            refine G_iastN 9 0 d_cX0_renameSlots_47 rfl rfl (gB_in bg2432' (by decide) (by decide)) (fun f2452 hf2452 => ?_)
            refine G_ws (ws' := [(q2170, .inr (5, [.ref q2172, .ref q2173, .ref q2174, .ref q2175, .ref q2176, .ref q2177, .ref q2178, .ref q2179, .ref q2180, .int p2181, .int p2182, .int p2183])), (q2172, .inl (I .int, 40, .inl f2185)), (q2173, .inl (I .int, 40, .inl f2186)), (q2174, .inl (I .int, 40, .inl f2187)), (q2175, .inl (I .int, 200, .inl f2188)), (q2176, .inl (I .int, 200, .inl f2189)), (q2177, .inl (I .int, 200, .inl f2190)), (q2178, .inl (I .int, 200, .inl f2191)), (q2179, .inl (I .int, 200, .inl f2192)), (q2180, .inl (I .int, 200, .inl f2452)), (q2171, .inl (I .int, 720, .inl f2184))]) (cs' := 0) (sl' := 0) rfl rfl rfl ?_
            obtain ⟨z2453, hz2453⟩ : ∃ z : Int32, z = g2432 + Int32.ofInt 1 := ⟨_, rfl⟩
            have ez2453 : z2453.toInt = g2432.toInt + 1 := gI_inc hz2453 (by decide) bg2432' (by decide) (by decide)
            have bz2453 : gB z2453 1 200 := ⟨by omega, by omega⟩
            refine G_iinc (L' := [(2, .int z2453), (0, .ref q2170), (1, .ref q2171)]) z2453 0 d_cX0_renameSlots_48 rfl hz2453.symm (Nat.le_of_ble_eq_true rfl) rfl ?_
            refine G_goto 2 d_cX0_renameSlots_51 (by decide +kernel) ?_
            refine G_sub (ws' := [(q2170, .inr (5, [.ref q2172, .ref q2173, .ref q2174, .ref q2175, .ref q2176, .ref q2177, .ref q2178, .ref q2179, .ref q2180, .int p2181, .int p2182, .int p2183])), (q2171, .inl (I .int, 720, .inl f2184)), (q2172, .inl (I .int, 40, .inl f2185)), (q2173, .inl (I .int, 40, .inl f2186)), (q2174, .inl (I .int, 40, .inl f2187)), (q2175, .inl (I .int, 200, .inl f2188)), (q2176, .inl (I .int, 200, .inl f2189)), (q2177, .inl (I .int, 200, .inl f2190)), (q2178, .inl (I .int, 200, .inl f2191)), (q2179, .inl (I .int, 200, .inl f2192)), (q2180, .inl (I .int, 200, .inl f2452))]) [0, 10, 1, 2, 3, 4, 5, 6, 7, 8, 9] rfl rfl ?_
            exact ih2_2433 z2453 f2452 (gB_w bz2453 (by decide) (by decide)) (gF_any f2452) (by omega)
        · have r2454 : z2437.toInt ≠ 17 := gj_neq hc2438 (show Int32.toInt 17 = 17 by decide)
          refine G_aload_n 1 d_cX0_renameSlots_21 rfl ?_
          refine G_getf 0 3 d_cX0_renameSlots_22 rfl (gk_X0 D I) (Nat.le_of_ble_eq_true rfl) w_1_159 rfl ?_
          refine G_iload_n 0 d_cX0_renameSlots_25 rfl ?_
          refine G_iald 5 0 d_cX0_renameSlots_26 rfl rfl (gB_in bg2432' (by decide) (by decide)) (G_eqi (y := z2437) hz2437.symm ?_)
          refine G_bipush 18 d_cX0_renameSlots_27 (by decide +kernel) ?_
          refine G_icmp_ne 48 d_cX0_renameSlots_29 (by decide +kernel) (fun hc2455 => ?_) (fun hc2455 => ?_)
          · have r2456 : z2437.toInt ≠ 18 := gj_neq hc2455 (show Int32.toInt 18 = 18 by decide)
            obtain ⟨z2457, hz2457⟩ : ∃ z : Int32, z = g2432 + Int32.ofInt 1 := ⟨_, rfl⟩
            have ez2457 : z2457.toInt = g2432.toInt + 1 := gI_inc hz2457 (by decide) bg2432' (by decide) (by decide)
            have bz2457 : gB z2457 1 200 := ⟨by omega, by omega⟩
            refine G_iinc (L' := [(2, .int z2457), (0, .ref q2170), (1, .ref q2171)]) z2457 0 d_cX0_renameSlots_48 rfl hz2457.symm (Nat.le_of_ble_eq_true rfl) rfl ?_
            refine G_goto 2 d_cX0_renameSlots_51 (by decide +kernel) ?_
            exact ih2_2433 z2457 f2433 (gB_w bz2457 (by decide) (by decide)) bf2433 (by omega)
          · have r2458 : z2437.toInt = 18 := gj_eq hc2455 (show Int32.toInt 18 = 18 by decide)
            have bz2437' : gB z2437 18 18 := ⟨by omega, by omega⟩
            refine G_aload_n 1 d_cX0_renameSlots_32 rfl ?_
            refine G_getf 0 8 d_cX0_renameSlots_33 rfl (gk_X0 D I) (Nat.le_of_ble_eq_true rfl) w_1_183 rfl ?_
            refine G_iload_n 0 d_cX0_renameSlots_36 rfl ?_
            refine G_aload_n 2 d_cX0_renameSlots_37 rfl ?_
            refine G_aload_n 1 d_cX0_renameSlots_38 rfl ?_
            refine G_getf 0 8 d_cX0_renameSlots_39 rfl (gk_X0 D I) (Nat.le_of_ble_eq_true rfl) w_1_183 rfl ?_
            refine G_iload_n 0 d_cX0_renameSlots_42 rfl ?_
            refine G_iald 10 0 d_cX0_renameSlots_43 rfl rfl (gB_in bg2432' (by decide) (by decide)) (G_nam fun z2459 hz2459 => ?_)
            have bz2459 : gB z2459 (-2147483648) 2147483647 := by rw [hz2459]; exact bf2433 _
            refine G_callS (As := [.ref q2171, .int z2459]) (wr := [(q2170, .inr (5, [.ref q2172, .ref q2173, .ref q2174, .ref q2175, .ref q2176, .ref q2177, .ref q2178, .ref q2179, .ref q2180, .int p2181, .int p2182, .int p2183])), (q2172, .inl (I .int, 40, .inl f2185)), (q2173, .inl (I .int, 40, .inl f2186)), (q2174, .inl (I .int, 40, .inl f2187)), (q2175, .inl (I .int, 200, .inl f2188)), (q2176, .inl (I .int, 200, .inl f2189)), (q2177, .inl (I .int, 200, .inl f2190)), (q2178, .inl (I .int, 200, .inl f2191)), (q2179, .inl (I .int, 200, .inl f2192)), (q2180, .inl (I .int, 200, .inl f2433))]) (gV_ok D I) (ct_955_Code_nameIn l hl0 D I q2171 z2459 f2184 ) d_cX0_renameSlots_44 ⟨w_5_154, w_1_5, w_5_156, by decide, rfl, (Nat.le_of_ble_eq_true rfl), (Nat.le_of_ble_eq_true rfl)⟩ w_5_155 [1] [0, 2, 3, 4, 5, 6, 7, 8, 9, 10] rfl rfl rfl rfl (by decide) (Nat.le_of_ble_eq_true rfl) (Nat.le_of_ble_eq_true rfl) (Nat.le_of_ble_eq_true rfl) (fun r w hp => ?_) (fun _ _ _ z => z.elim)
            rcases hp with ⟨rfl, rfl, r2460⟩ | ⟨rfl, rfl, r2461, r2462⟩ | ⟨z2463, rfl, rfl, r2464, r2465, r2466⟩
            · have bz2459' : gB z2459 (-2147483648) (-1) := ⟨by omega, by omega⟩
              change G _ _ _ _ _ _ _ (.int z2459 :: _) _ _ _
              refine G_ws (ws' := [(q2170, .inr (5, [.ref q2172, .ref q2173, .ref q2174, .ref q2175, .ref q2176, .ref q2177, .ref q2178, .ref q2179, .ref q2180, .int p2181, .int p2182, .int p2183])), (q2172, .inl (I .int, 40, .inl f2185)), (q2173, .inl (I .int, 40, .inl f2186)), (q2174, .inl (I .int, 40, .inl f2187)), (q2175, .inl (I .int, 200, .inl f2188)), (q2176, .inl (I .int, 200, .inl f2189)), (q2177, .inl (I .int, 200, .inl f2190)), (q2178, .inl (I .int, 200, .inl f2191)), (q2179, .inl (I .int, 200, .inl f2192)), (q2180, .inl (I .int, 200, .inl f2433)), (q2171, .inl (I .int, 720, .inl f2184))]) (cs' := 0) (sl' := 0) rfl rfl rfl ?_
              refine G_iastN 9 0 d_cX0_renameSlots_47 rfl rfl (gB_in bg2432' (by decide) (by decide)) (fun f2467 hf2467 => ?_)
              refine G_ws (ws' := [(q2170, .inr (5, [.ref q2172, .ref q2173, .ref q2174, .ref q2175, .ref q2176, .ref q2177, .ref q2178, .ref q2179, .ref q2180, .int p2181, .int p2182, .int p2183])), (q2172, .inl (I .int, 40, .inl f2185)), (q2173, .inl (I .int, 40, .inl f2186)), (q2174, .inl (I .int, 40, .inl f2187)), (q2175, .inl (I .int, 200, .inl f2188)), (q2176, .inl (I .int, 200, .inl f2189)), (q2177, .inl (I .int, 200, .inl f2190)), (q2178, .inl (I .int, 200, .inl f2191)), (q2179, .inl (I .int, 200, .inl f2192)), (q2180, .inl (I .int, 200, .inl f2467)), (q2171, .inl (I .int, 720, .inl f2184))]) (cs' := 0) (sl' := 0) rfl rfl rfl ?_
              obtain ⟨z2468, hz2468⟩ : ∃ z : Int32, z = g2432 + Int32.ofInt 1 := ⟨_, rfl⟩
              have ez2468 : z2468.toInt = g2432.toInt + 1 := gI_inc hz2468 (by decide) bg2432' (by decide) (by decide)
              have bz2468 : gB z2468 1 200 := ⟨by omega, by omega⟩
              refine G_iinc (L' := [(2, .int z2468), (0, .ref q2170), (1, .ref q2171)]) z2468 0 d_cX0_renameSlots_48 rfl hz2468.symm (Nat.le_of_ble_eq_true rfl) rfl ?_
              refine G_goto 2 d_cX0_renameSlots_51 (by decide +kernel) ?_
              refine G_sub (ws' := [(q2170, .inr (5, [.ref q2172, .ref q2173, .ref q2174, .ref q2175, .ref q2176, .ref q2177, .ref q2178, .ref q2179, .ref q2180, .int p2181, .int p2182, .int p2183])), (q2171, .inl (I .int, 720, .inl f2184)), (q2172, .inl (I .int, 40, .inl f2185)), (q2173, .inl (I .int, 40, .inl f2186)), (q2174, .inl (I .int, 40, .inl f2187)), (q2175, .inl (I .int, 200, .inl f2188)), (q2176, .inl (I .int, 200, .inl f2189)), (q2177, .inl (I .int, 200, .inl f2190)), (q2178, .inl (I .int, 200, .inl f2191)), (q2179, .inl (I .int, 200, .inl f2192)), (q2180, .inl (I .int, 200, .inl f2467))]) [0, 10, 1, 2, 3, 4, 5, 6, 7, 8, 9] rfl rfl ?_
              exact ih2_2433 z2468 f2467 (gB_w bz2468 (by decide) (by decide)) (gF_any f2467) (by omega)
            · have bz2459' : gB z2459 0 2147483647 := ⟨by omega, by omega⟩
              have bz2459'' : gB z2459 720 2147483647 := ⟨by omega, by omega⟩
              change G _ _ _ _ _ _ _ (.int z2459 :: _) _ _ _
              refine G_ws (ws' := [(q2170, .inr (5, [.ref q2172, .ref q2173, .ref q2174, .ref q2175, .ref q2176, .ref q2177, .ref q2178, .ref q2179, .ref q2180, .int p2181, .int p2182, .int p2183])), (q2172, .inl (I .int, 40, .inl f2185)), (q2173, .inl (I .int, 40, .inl f2186)), (q2174, .inl (I .int, 40, .inl f2187)), (q2175, .inl (I .int, 200, .inl f2188)), (q2176, .inl (I .int, 200, .inl f2189)), (q2177, .inl (I .int, 200, .inl f2190)), (q2178, .inl (I .int, 200, .inl f2191)), (q2179, .inl (I .int, 200, .inl f2192)), (q2180, .inl (I .int, 200, .inl f2433)), (q2171, .inl (I .int, 720, .inl f2184))]) (cs' := 0) (sl' := 0) rfl rfl rfl ?_
              refine G_iastN 9 0 d_cX0_renameSlots_47 rfl rfl (gB_in bg2432' (by decide) (by decide)) (fun f2469 hf2469 => ?_)
              refine G_ws (ws' := [(q2170, .inr (5, [.ref q2172, .ref q2173, .ref q2174, .ref q2175, .ref q2176, .ref q2177, .ref q2178, .ref q2179, .ref q2180, .int p2181, .int p2182, .int p2183])), (q2172, .inl (I .int, 40, .inl f2185)), (q2173, .inl (I .int, 40, .inl f2186)), (q2174, .inl (I .int, 40, .inl f2187)), (q2175, .inl (I .int, 200, .inl f2188)), (q2176, .inl (I .int, 200, .inl f2189)), (q2177, .inl (I .int, 200, .inl f2190)), (q2178, .inl (I .int, 200, .inl f2191)), (q2179, .inl (I .int, 200, .inl f2192)), (q2180, .inl (I .int, 200, .inl f2469)), (q2171, .inl (I .int, 720, .inl f2184))]) (cs' := 0) (sl' := 0) rfl rfl rfl ?_
              obtain ⟨z2470, hz2470⟩ : ∃ z : Int32, z = g2432 + Int32.ofInt 1 := ⟨_, rfl⟩
              have ez2470 : z2470.toInt = g2432.toInt + 1 := gI_inc hz2470 (by decide) bg2432' (by decide) (by decide)
              have bz2470 : gB z2470 1 200 := ⟨by omega, by omega⟩
              refine G_iinc (L' := [(2, .int z2470), (0, .ref q2170), (1, .ref q2171)]) z2470 0 d_cX0_renameSlots_48 rfl hz2470.symm (Nat.le_of_ble_eq_true rfl) rfl ?_
              refine G_goto 2 d_cX0_renameSlots_51 (by decide +kernel) ?_
              refine G_sub (ws' := [(q2170, .inr (5, [.ref q2172, .ref q2173, .ref q2174, .ref q2175, .ref q2176, .ref q2177, .ref q2178, .ref q2179, .ref q2180, .int p2181, .int p2182, .int p2183])), (q2171, .inl (I .int, 720, .inl f2184)), (q2172, .inl (I .int, 40, .inl f2185)), (q2173, .inl (I .int, 40, .inl f2186)), (q2174, .inl (I .int, 40, .inl f2187)), (q2175, .inl (I .int, 200, .inl f2188)), (q2176, .inl (I .int, 200, .inl f2189)), (q2177, .inl (I .int, 200, .inl f2190)), (q2178, .inl (I .int, 200, .inl f2191)), (q2179, .inl (I .int, 200, .inl f2192)), (q2180, .inl (I .int, 200, .inl f2469))]) [0, 10, 1, 2, 3, 4, 5, 6, 7, 8, 9] rfl rfl ?_
              exact ih2_2433 z2470 f2469 (gB_w bz2470 (by decide) (by decide)) (gF_any f2469) (by omega)
            · have bz2459' : gB z2459 0 2147483647 := ⟨by omega, by omega⟩
              have bz2459'' : gB z2459 0 719 := ⟨by omega, by omega⟩
              change G _ _ _ _ _ _ _ (.int z2463 :: _) _ _ _
              refine G_ws (ws' := [(q2170, .inr (5, [.ref q2172, .ref q2173, .ref q2174, .ref q2175, .ref q2176, .ref q2177, .ref q2178, .ref q2179, .ref q2180, .int p2181, .int p2182, .int p2183])), (q2172, .inl (I .int, 40, .inl f2185)), (q2173, .inl (I .int, 40, .inl f2186)), (q2174, .inl (I .int, 40, .inl f2187)), (q2175, .inl (I .int, 200, .inl f2188)), (q2176, .inl (I .int, 200, .inl f2189)), (q2177, .inl (I .int, 200, .inl f2190)), (q2178, .inl (I .int, 200, .inl f2191)), (q2179, .inl (I .int, 200, .inl f2192)), (q2180, .inl (I .int, 200, .inl f2433)), (q2171, .inl (I .int, 720, .inl f2184))]) (cs' := 0) (sl' := 0) rfl rfl rfl ?_
              refine G_iastN 9 0 d_cX0_renameSlots_47 rfl rfl (gB_in bg2432' (by decide) (by decide)) (fun f2471 hf2471 => ?_)
              refine G_ws (ws' := [(q2170, .inr (5, [.ref q2172, .ref q2173, .ref q2174, .ref q2175, .ref q2176, .ref q2177, .ref q2178, .ref q2179, .ref q2180, .int p2181, .int p2182, .int p2183])), (q2172, .inl (I .int, 40, .inl f2185)), (q2173, .inl (I .int, 40, .inl f2186)), (q2174, .inl (I .int, 40, .inl f2187)), (q2175, .inl (I .int, 200, .inl f2188)), (q2176, .inl (I .int, 200, .inl f2189)), (q2177, .inl (I .int, 200, .inl f2190)), (q2178, .inl (I .int, 200, .inl f2191)), (q2179, .inl (I .int, 200, .inl f2192)), (q2180, .inl (I .int, 200, .inl f2471)), (q2171, .inl (I .int, 720, .inl f2184))]) (cs' := 0) (sl' := 0) rfl rfl rfl ?_
              obtain ⟨z2472, hz2472⟩ : ∃ z : Int32, z = g2432 + Int32.ofInt 1 := ⟨_, rfl⟩
              have ez2472 : z2472.toInt = g2432.toInt + 1 := gI_inc hz2472 (by decide) bg2432' (by decide) (by decide)
              have bz2472 : gB z2472 1 200 := ⟨by omega, by omega⟩
              refine G_iinc (L' := [(2, .int z2472), (0, .ref q2170), (1, .ref q2171)]) z2472 0 d_cX0_renameSlots_48 rfl hz2472.symm (Nat.le_of_ble_eq_true rfl) rfl ?_
              refine G_goto 2 d_cX0_renameSlots_51 (by decide +kernel) ?_
              refine G_sub (ws' := [(q2170, .inr (5, [.ref q2172, .ref q2173, .ref q2174, .ref q2175, .ref q2176, .ref q2177, .ref q2178, .ref q2179, .ref q2180, .int p2181, .int p2182, .int p2183])), (q2171, .inl (I .int, 720, .inl f2184)), (q2172, .inl (I .int, 40, .inl f2185)), (q2173, .inl (I .int, 40, .inl f2186)), (q2174, .inl (I .int, 40, .inl f2187)), (q2175, .inl (I .int, 200, .inl f2188)), (q2176, .inl (I .int, 200, .inl f2189)), (q2177, .inl (I .int, 200, .inl f2190)), (q2178, .inl (I .int, 200, .inl f2191)), (q2179, .inl (I .int, 200, .inl f2192)), (q2180, .inl (I .int, 200, .inl f2471))]) [0, 10, 1, 2, 3, 4, 5, 6, 7, 8, 9] rfl rfl ?_
              exact ih2_2433 z2472 f2471 (gB_w bz2472 (by decide) (by decide)) (gF_any f2471) (by omega)
  exact hlp2_2433 (((201 : Int) - 0).toNat + 1) 0 f2193 (gB_w (gBl (show Int32.toInt 0 = 0 by decide)) (by decide) (by decide)) (gF_any f2193) (Nat.lt_succ_self _)
abbrev ky_2498_Code_replace : gKey := (cX0_replace, 4, yX0_replace.cls, none, [], yX0_replace.name, fun _ _ => True)
abbrev po_2498_Code_replace (I : FieldType → ClassId) (q2474 : Nat) (q2475 : Nat) (q2476 : Nat) (q2477 : Nat) (q2478 : Nat) (q2479 : Nat) (q2480 : Nat) (q2481 : Nat) (q2482 : Nat) (q2483 : Nat) (p2484 : Int32) (p2485 : Int32) (p2486 : Int32) (p2487 : Int32) (p2488 : Int32) (f2489 : Nat → Int32) (f2490 : Nat → Int32) (f2491 : Nat → Int32) (f2492 : Nat → Int32) (f2493 : Nat → Int32) (f2494 : Nat → Int32) (f2495 : Nat → Int32) (f2496 : Nat → Int32) (f2497 : Nat → Int32) : Option Value → va_W → Prop := fun r w => ∃ (f2886 : Nat → Int32) (f2887 : Nat → Int32) (f2888 : Nat → Int32), r = none ∧ w = [(q2474, .inr (5, [.ref q2475, .ref q2476, .ref q2477, .ref q2478, .ref q2479, .ref q2480, .ref q2481, .ref q2482, .ref q2483, .int p2486, .int p2487, .int p2488])), (q2475, .inl (I .int, 40, .inl f2489)), (q2476, .inl (I .int, 40, .inl f2490)), (q2477, .inl (I .int, 40, .inl f2491)), (q2478, .inl (I .int, 200, .inl f2492)), (q2479, .inl (I .int, 200, .inl f2886)), (q2480, .inl (I .int, 200, .inl f2887)), (q2481, .inl (I .int, 200, .inl f2495)), (q2482, .inl (I .int, 200, .inl f2888)), (q2483, .inl (I .int, 200, .inl f2497))] ∧ gF f2886 (-2147483648) 2147483647 ∧ gF f2887 (-2147483648) 2147483647 ∧ gF f2888 (-2147483648) 2147483647
set_option maxRecDepth 100000 in
set_option maxHeartbeats 4000000 in
theorem ct_2498_Code_replace (l : Launch) (hl0 : l.stackTraces = false) (D : va_G) (I : FieldType → ClassId) (q2474 : Nat) (q2475 : Nat) (q2476 : Nat) (q2477 : Nat) (q2478 : Nat) (q2479 : Nat) (q2480 : Nat) (q2481 : Nat) (q2482 : Nat) (q2483 : Nat) (p2484 : Int32) (p2485 : Int32) (p2486 : Int32) (p2487 : Int32) (p2488 : Int32) (f2489 : Nat → Int32) (f2490 : Nat → Int32) (f2491 : Nat → Int32) (f2492 : Nat → Int32) (f2493 : Nat → Int32) (f2494 : Nat → Int32) (f2495 : Nat → Int32) (f2496 : Nat → Int32) (f2497 : Nat → Int32) (bp2486 : gB p2486 0 40) (bp2487 : gB p2487 0 200) (bp2488 : gB p2488 0 1) (bf2489 : gF f2489 0 200) : Ct (gV D I) l yX0_replace cX0_replace 4 none 0 0 0 0 [.ref q2474, .int p2484, .int p2485] [(q2474, .inr (5, [.ref q2475, .ref q2476, .ref q2477, .ref q2478, .ref q2479, .ref q2480, .ref q2481, .ref q2482, .ref q2483, .int p2486, .int p2487, .int p2488])), (q2475, .inl (I .int, 40, .inl f2489)), (q2476, .inl (I .int, 40, .inl f2490)), (q2477, .inl (I .int, 40, .inl f2491)), (q2478, .inl (I .int, 200, .inl f2492)), (q2479, .inl (I .int, 200, .inl f2493)), (q2480, .inl (I .int, 200, .inl f2494)), (q2481, .inl (I .int, 200, .inl f2495)), (q2482, .inl (I .int, 200, .inl f2496)), (q2483, .inl (I .int, 200, .inl f2497))] (po_2498_Code_replace I q2474 q2475 q2476 q2477 q2478 q2479 q2480 q2481 q2482 q2483 p2484 p2485 p2486 p2487 p2488 f2489 f2490 f2491 f2492 f2493 f2494 f2495 f2496 f2497) gN := by
  refine Ct_of hl0 (by decide) (Nat.le_of_ble_eq_true rfl) ?_
  have bp2484 := gB_any p2484
  have bp2485 := gB_any p2485
  refine G_iconst 0 d_cX0_replace_0 (by decide +kernel) ?_
  refine G_istore_n (L' := [(3, .int 0), (0, .ref q2474), (1, .int p2484), (2, .int p2485)]) d_cX0_replace_1 (Nat.le_of_ble_eq_true rfl) rfl ?_
  have hlp2_2832 : ∀ (n2_2832 : Nat) (g2829 : Int32) (f2830 : Nat → Int32) (f2831 : Nat → Int32) (f2832 : Nat → Int32), gB g2829 0 200 → gF f2830 (-2147483648) 2147483647 → gF f2831 (-2147483648) 2147483647 → gF f2832 (-2147483648) 2147483647 → ((201 : Int) - g2829.toInt).toNat < n2_2832 → G (gV D I) l (gRm 0 0 0 0) (gM (gV D I) (po_2498_Code_replace I q2474 q2475 q2476 q2477 q2478 q2479 q2480 q2481 q2482 q2483 p2484 p2485 p2486 p2487 p2488 f2489 f2490 f2491 f2492 f2493 f2494 f2495 f2496 f2497) gN 0 0) ky_2498_Code_replace 2 [(3, .int g2829), (0, .ref q2474), (1, .int p2484), (2, .int p2485)] [] [(q2474, .inr (5, [.ref q2475, .ref q2476, .ref q2477, .ref q2478, .ref q2479, .ref q2480, .ref q2481, .ref q2482, .ref q2483, .int p2486, .int p2487, .int p2488])), (q2475, .inl (I .int, 40, .inl f2489)), (q2476, .inl (I .int, 40, .inl f2490)), (q2477, .inl (I .int, 40, .inl f2491)), (q2478, .inl (I .int, 200, .inl f2492)), (q2479, .inl (I .int, 200, .inl f2830)), (q2480, .inl (I .int, 200, .inl f2831)), (q2481, .inl (I .int, 200, .inl f2495)), (q2482, .inl (I .int, 200, .inl f2832)), (q2483, .inl (I .int, 200, .inl f2497))] 0 0 := by
    intro n2_2832
    induction n2_2832 with
    | zero => intro g2829 f2830 f2831 f2832 bg2829 bf2830 bf2831 bf2832 hm2_2832; exact absurd hm2_2832 (Nat.not_lt_zero _)
    | succ n2_2832 ih2_2832 =>
      intro g2829 f2830 f2831 f2832 bg2829 bf2830 bf2831 bf2832 hm2_2832
      refine G_iload_n 0 d_cX0_replace_2 rfl ?_
      refine G_aload_n 1 d_cX0_replace_3 rfl ?_
      refine G_getf 0 10 d_cX0_replace_4 rfl (gk_X0 D I) (Nat.le_of_ble_eq_true rfl) w_1_197 rfl ?_
      refine G_icmp_ge 94 d_cX0_replace_7 (by decide +kernel) (fun hc2833 => ?_) (fun hc2833 => ?_)
      · have r2834 : p2487.toInt ≤ g2829.toInt := gC_le hc2833
        exact G_vret d_cX0_replace_94 rfl (Nat.le_of_ble_eq_true rfl) (Nat.le_of_ble_eq_true rfl) ⟨f2830, f2831, f2832, rfl, rfl, bf2830, bf2831, bf2832⟩
      · have r2835 : g2829.toInt < p2487.toInt := gC_nle hc2833
        have bg2829' : gB g2829 0 199 := ⟨by omega, by omega⟩
        have bp2487' : gB p2487 1 200 := ⟨by omega, by omega⟩
        refine G_aload_n 1 d_cX0_replace_10 rfl ?_
        refine G_getf 0 4 d_cX0_replace_11 rfl (gk_X0 D I) (Nat.le_of_ble_eq_true rfl) w_1_163 rfl ?_
        refine G_iload_n 0 d_cX0_replace_14 rfl ?_
        refine G_aload_n 1 d_cX0_replace_15 rfl ?_
        refine G_getf 0 4 d_cX0_replace_16 rfl (gk_X0 D I) (Nat.le_of_ble_eq_true rfl) w_1_163 rfl ?_
        refine G_iload_n 0 d_cX0_replace_19 rfl ?_
        refine G_iald 5 0 d_cX0_replace_20 rfl rfl (gB_in bg2829' (by decide) (by decide)) (G_nam fun z2836 hz2836 => ?_)
        have bz2836 : gB z2836 (-2147483648) 2147483647 := by rw [hz2836]; exact bf2830 _
        refine G_iload_n 2 d_cX0_replace_21 rfl ?_
        refine G_icmp_ne 29 d_cX0_replace_22 (by decide +kernel) (fun hc2837 => ?_) (fun hc2837 => ?_)
        · have r2838 : z2836.toInt ≠ p2484.toInt := gC_ne hc2837
          refine G_aload_n 1 d_cX0_replace_29 rfl ?_
          refine G_getf 0 4 d_cX0_replace_30 rfl (gk_X0 D I) (Nat.le_of_ble_eq_true rfl) w_1_163 rfl ?_
          refine G_iload_n 0 d_cX0_replace_33 rfl ?_
          refine G_iald 5 0 d_cX0_replace_34 rfl rfl (gB_in bg2829' (by decide) (by decide)) (G_eqi (y := z2836) hz2836.symm ?_)
          refine G_iastN 5 0 d_cX0_replace_35 rfl rfl (gB_in bg2829' (by decide) (by decide)) (fun f2839 hf2839 => ?_)
          refine G_ws (ws' := [(q2474, .inr (5, [.ref q2475, .ref q2476, .ref q2477, .ref q2478, .ref q2479, .ref q2480, .ref q2481, .ref q2482, .ref q2483, .int p2486, .int p2487, .int p2488])), (q2475, .inl (I .int, 40, .inl f2489)), (q2476, .inl (I .int, 40, .inl f2490)), (q2477, .inl (I .int, 40, .inl f2491)), (q2478, .inl (I .int, 200, .inl f2492)), (q2479, .inl (I .int, 200, .inl f2839)), (q2480, .inl (I .int, 200, .inl f2831)), (q2481, .inl (I .int, 200, .inl f2495)), (q2482, .inl (I .int, 200, .inl f2832)), (q2483, .inl (I .int, 200, .inl f2497))]) (cs' := 0) (sl' := 0) rfl rfl rfl ?_
          refine G_aload_n 1 d_cX0_replace_36 rfl ?_
          refine G_getf 0 5 d_cX0_replace_37 rfl (gk_X0 D I) (Nat.le_of_ble_eq_true rfl) w_1_168 rfl ?_
          refine G_iload_n 0 d_cX0_replace_40 rfl ?_
          refine G_aload_n 1 d_cX0_replace_41 rfl ?_
          refine G_getf 0 5 d_cX0_replace_42 rfl (gk_X0 D I) (Nat.le_of_ble_eq_true rfl) w_1_168 rfl ?_
          refine G_iload_n 0 d_cX0_replace_45 rfl ?_
          refine G_iald 6 0 d_cX0_replace_46 rfl rfl (gB_in bg2829' (by decide) (by decide)) (G_nam fun z2840 hz2840 => ?_)
          have bz2840 : gB z2840 (-2147483648) 2147483647 := by rw [hz2840]; exact bf2831 _
          refine G_iload_n 2 d_cX0_replace_47 rfl ?_
          refine G_icmp_ne 55 d_cX0_replace_48 (by decide +kernel) (fun hc2841 => ?_) (fun hc2841 => ?_)
          · have r2842 : z2840.toInt ≠ p2484.toInt := gC_ne hc2841
            refine G_aload_n 1 d_cX0_replace_55 rfl ?_
            refine G_getf 0 5 d_cX0_replace_56 rfl (gk_X0 D I) (Nat.le_of_ble_eq_true rfl) w_1_168 rfl ?_
            refine G_iload_n 0 d_cX0_replace_59 rfl ?_
            refine G_iald 6 0 d_cX0_replace_60 rfl rfl (gB_in bg2829' (by decide) (by decide)) (G_eqi (y := z2840) hz2840.symm ?_)
            refine G_iastN 6 0 d_cX0_replace_61 rfl rfl (gB_in bg2829' (by decide) (by decide)) (fun f2843 hf2843 => ?_)
            refine G_ws (ws' := [(q2474, .inr (5, [.ref q2475, .ref q2476, .ref q2477, .ref q2478, .ref q2479, .ref q2480, .ref q2481, .ref q2482, .ref q2483, .int p2486, .int p2487, .int p2488])), (q2475, .inl (I .int, 40, .inl f2489)), (q2476, .inl (I .int, 40, .inl f2490)), (q2477, .inl (I .int, 40, .inl f2491)), (q2478, .inl (I .int, 200, .inl f2492)), (q2479, .inl (I .int, 200, .inl f2839)), (q2480, .inl (I .int, 200, .inl f2843)), (q2481, .inl (I .int, 200, .inl f2495)), (q2482, .inl (I .int, 200, .inl f2832)), (q2483, .inl (I .int, 200, .inl f2497))]) (cs' := 0) (sl' := 0) rfl rfl rfl ?_
            refine G_aload_n 1 d_cX0_replace_62 rfl ?_
            refine G_getf 0 7 d_cX0_replace_63 rfl (gk_X0 D I) (Nat.le_of_ble_eq_true rfl) w_1_178 rfl ?_
            refine G_iload_n 0 d_cX0_replace_66 rfl ?_
            refine G_aload_n 1 d_cX0_replace_67 rfl ?_
            refine G_getf 0 7 d_cX0_replace_68 rfl (gk_X0 D I) (Nat.le_of_ble_eq_true rfl) w_1_178 rfl ?_
            refine G_iload_n 0 d_cX0_replace_71 rfl ?_
            refine G_iald 8 0 d_cX0_replace_72 rfl rfl (gB_in bg2829' (by decide) (by decide)) (G_nam fun z2844 hz2844 => ?_)
            have bz2844 : gB z2844 (-2147483648) 2147483647 := by rw [hz2844]; exact bf2832 _
            refine G_iload_n 2 d_cX0_replace_73 rfl ?_
            refine G_icmp_ne 81 d_cX0_replace_74 (by decide +kernel) (fun hc2845 => ?_) (fun hc2845 => ?_)
            · have r2846 : z2844.toInt ≠ p2484.toInt := gC_ne hc2845
              refine G_aload_n 1 d_cX0_replace_81 rfl ?_
              refine G_getf 0 7 d_cX0_replace_82 rfl (gk_X0 D I) (Nat.le_of_ble_eq_true rfl) w_1_178 rfl ?_
              refine G_iload_n 0 d_cX0_replace_85 rfl ?_
              refine G_iald 8 0 d_cX0_replace_86 rfl rfl (gB_in bg2829' (by decide) (by decide)) (G_eqi (y := z2844) hz2844.symm ?_)
              refine G_iastN 8 0 d_cX0_replace_87 rfl rfl (gB_in bg2829' (by decide) (by decide)) (fun f2847 hf2847 => ?_)
              refine G_ws (ws' := [(q2474, .inr (5, [.ref q2475, .ref q2476, .ref q2477, .ref q2478, .ref q2479, .ref q2480, .ref q2481, .ref q2482, .ref q2483, .int p2486, .int p2487, .int p2488])), (q2475, .inl (I .int, 40, .inl f2489)), (q2476, .inl (I .int, 40, .inl f2490)), (q2477, .inl (I .int, 40, .inl f2491)), (q2478, .inl (I .int, 200, .inl f2492)), (q2479, .inl (I .int, 200, .inl f2839)), (q2480, .inl (I .int, 200, .inl f2843)), (q2481, .inl (I .int, 200, .inl f2495)), (q2482, .inl (I .int, 200, .inl f2847)), (q2483, .inl (I .int, 200, .inl f2497))]) (cs' := 0) (sl' := 0) rfl rfl rfl ?_
              obtain ⟨z2848, hz2848⟩ : ∃ z : Int32, z = g2829 + Int32.ofInt 1 := ⟨_, rfl⟩
              have ez2848 : z2848.toInt = g2829.toInt + 1 := gI_inc hz2848 (by decide) bg2829' (by decide) (by decide)
              have bz2848 : gB z2848 1 200 := ⟨by omega, by omega⟩
              refine G_iinc (L' := [(3, .int z2848), (0, .ref q2474), (1, .int p2484), (2, .int p2485)]) z2848 0 d_cX0_replace_88 rfl hz2848.symm (Nat.le_of_ble_eq_true rfl) rfl ?_
              refine G_goto 2 d_cX0_replace_91 (by decide +kernel) ?_
              exact ih2_2832 z2848 f2839 f2843 f2847 (gB_w bz2848 (by decide) (by decide)) (gF_any f2839) (gF_any f2843) (gF_any f2847) (by omega)
            · have r2849 : z2844.toInt = p2484.toInt := gC_eq hc2845
              refine G_iload_n 3 d_cX0_replace_77 rfl ?_
              refine G_goto 87 d_cX0_replace_78 (by decide +kernel) ?_
              refine G_iastN 8 0 d_cX0_replace_87 rfl rfl (gB_in bg2829' (by decide) (by decide)) (fun f2850 hf2850 => ?_)
              refine G_ws (ws' := [(q2474, .inr (5, [.ref q2475, .ref q2476, .ref q2477, .ref q2478, .ref q2479, .ref q2480, .ref q2481, .ref q2482, .ref q2483, .int p2486, .int p2487, .int p2488])), (q2475, .inl (I .int, 40, .inl f2489)), (q2476, .inl (I .int, 40, .inl f2490)), (q2477, .inl (I .int, 40, .inl f2491)), (q2478, .inl (I .int, 200, .inl f2492)), (q2479, .inl (I .int, 200, .inl f2839)), (q2480, .inl (I .int, 200, .inl f2843)), (q2481, .inl (I .int, 200, .inl f2495)), (q2482, .inl (I .int, 200, .inl f2850)), (q2483, .inl (I .int, 200, .inl f2497))]) (cs' := 0) (sl' := 0) rfl rfl rfl ?_
              obtain ⟨z2851, hz2851⟩ : ∃ z : Int32, z = g2829 + Int32.ofInt 1 := ⟨_, rfl⟩
              have ez2851 : z2851.toInt = g2829.toInt + 1 := gI_inc hz2851 (by decide) bg2829' (by decide) (by decide)
              have bz2851 : gB z2851 1 200 := ⟨by omega, by omega⟩
              refine G_iinc (L' := [(3, .int z2851), (0, .ref q2474), (1, .int p2484), (2, .int p2485)]) z2851 0 d_cX0_replace_88 rfl hz2851.symm (Nat.le_of_ble_eq_true rfl) rfl ?_
              refine G_goto 2 d_cX0_replace_91 (by decide +kernel) ?_
              exact ih2_2832 z2851 f2839 f2843 f2850 (gB_w bz2851 (by decide) (by decide)) (gF_any f2839) (gF_any f2843) (gF_any f2850) (by omega)
          · have r2852 : z2840.toInt = p2484.toInt := gC_eq hc2841
            refine G_iload_n 3 d_cX0_replace_51 rfl ?_
            refine G_goto 61 d_cX0_replace_52 (by decide +kernel) ?_
            refine G_iastN 6 0 d_cX0_replace_61 rfl rfl (gB_in bg2829' (by decide) (by decide)) (fun f2853 hf2853 => ?_)
            refine G_ws (ws' := [(q2474, .inr (5, [.ref q2475, .ref q2476, .ref q2477, .ref q2478, .ref q2479, .ref q2480, .ref q2481, .ref q2482, .ref q2483, .int p2486, .int p2487, .int p2488])), (q2475, .inl (I .int, 40, .inl f2489)), (q2476, .inl (I .int, 40, .inl f2490)), (q2477, .inl (I .int, 40, .inl f2491)), (q2478, .inl (I .int, 200, .inl f2492)), (q2479, .inl (I .int, 200, .inl f2839)), (q2480, .inl (I .int, 200, .inl f2853)), (q2481, .inl (I .int, 200, .inl f2495)), (q2482, .inl (I .int, 200, .inl f2832)), (q2483, .inl (I .int, 200, .inl f2497))]) (cs' := 0) (sl' := 0) rfl rfl rfl ?_
            refine G_aload_n 1 d_cX0_replace_62 rfl ?_
            refine G_getf 0 7 d_cX0_replace_63 rfl (gk_X0 D I) (Nat.le_of_ble_eq_true rfl) w_1_178 rfl ?_
            refine G_iload_n 0 d_cX0_replace_66 rfl ?_
            refine G_aload_n 1 d_cX0_replace_67 rfl ?_
            refine G_getf 0 7 d_cX0_replace_68 rfl (gk_X0 D I) (Nat.le_of_ble_eq_true rfl) w_1_178 rfl ?_
            refine G_iload_n 0 d_cX0_replace_71 rfl ?_
            refine G_iald 8 0 d_cX0_replace_72 rfl rfl (gB_in bg2829' (by decide) (by decide)) (G_nam fun z2854 hz2854 => ?_)
            have bz2854 : gB z2854 (-2147483648) 2147483647 := by rw [hz2854]; exact bf2832 _
            refine G_iload_n 2 d_cX0_replace_73 rfl ?_
            refine G_icmp_ne 81 d_cX0_replace_74 (by decide +kernel) (fun hc2855 => ?_) (fun hc2855 => ?_)
            · have r2856 : z2854.toInt ≠ p2484.toInt := gC_ne hc2855
              refine G_aload_n 1 d_cX0_replace_81 rfl ?_
              refine G_getf 0 7 d_cX0_replace_82 rfl (gk_X0 D I) (Nat.le_of_ble_eq_true rfl) w_1_178 rfl ?_
              refine G_iload_n 0 d_cX0_replace_85 rfl ?_
              refine G_iald 8 0 d_cX0_replace_86 rfl rfl (gB_in bg2829' (by decide) (by decide)) (G_eqi (y := z2854) hz2854.symm ?_)
              refine G_iastN 8 0 d_cX0_replace_87 rfl rfl (gB_in bg2829' (by decide) (by decide)) (fun f2857 hf2857 => ?_)
              refine G_ws (ws' := [(q2474, .inr (5, [.ref q2475, .ref q2476, .ref q2477, .ref q2478, .ref q2479, .ref q2480, .ref q2481, .ref q2482, .ref q2483, .int p2486, .int p2487, .int p2488])), (q2475, .inl (I .int, 40, .inl f2489)), (q2476, .inl (I .int, 40, .inl f2490)), (q2477, .inl (I .int, 40, .inl f2491)), (q2478, .inl (I .int, 200, .inl f2492)), (q2479, .inl (I .int, 200, .inl f2839)), (q2480, .inl (I .int, 200, .inl f2853)), (q2481, .inl (I .int, 200, .inl f2495)), (q2482, .inl (I .int, 200, .inl f2857)), (q2483, .inl (I .int, 200, .inl f2497))]) (cs' := 0) (sl' := 0) rfl rfl rfl ?_
              obtain ⟨z2858, hz2858⟩ : ∃ z : Int32, z = g2829 + Int32.ofInt 1 := ⟨_, rfl⟩
              have ez2858 : z2858.toInt = g2829.toInt + 1 := gI_inc hz2858 (by decide) bg2829' (by decide) (by decide)
              have bz2858 : gB z2858 1 200 := ⟨by omega, by omega⟩
              refine G_iinc (L' := [(3, .int z2858), (0, .ref q2474), (1, .int p2484), (2, .int p2485)]) z2858 0 d_cX0_replace_88 rfl hz2858.symm (Nat.le_of_ble_eq_true rfl) rfl ?_
              refine G_goto 2 d_cX0_replace_91 (by decide +kernel) ?_
              exact ih2_2832 z2858 f2839 f2853 f2857 (gB_w bz2858 (by decide) (by decide)) (gF_any f2839) (gF_any f2853) (gF_any f2857) (by omega)
            · have r2859 : z2854.toInt = p2484.toInt := gC_eq hc2855
              refine G_iload_n 3 d_cX0_replace_77 rfl ?_
              refine G_goto 87 d_cX0_replace_78 (by decide +kernel) ?_
              refine G_iastN 8 0 d_cX0_replace_87 rfl rfl (gB_in bg2829' (by decide) (by decide)) (fun f2860 hf2860 => ?_)
              refine G_ws (ws' := [(q2474, .inr (5, [.ref q2475, .ref q2476, .ref q2477, .ref q2478, .ref q2479, .ref q2480, .ref q2481, .ref q2482, .ref q2483, .int p2486, .int p2487, .int p2488])), (q2475, .inl (I .int, 40, .inl f2489)), (q2476, .inl (I .int, 40, .inl f2490)), (q2477, .inl (I .int, 40, .inl f2491)), (q2478, .inl (I .int, 200, .inl f2492)), (q2479, .inl (I .int, 200, .inl f2839)), (q2480, .inl (I .int, 200, .inl f2853)), (q2481, .inl (I .int, 200, .inl f2495)), (q2482, .inl (I .int, 200, .inl f2860)), (q2483, .inl (I .int, 200, .inl f2497))]) (cs' := 0) (sl' := 0) rfl rfl rfl ?_
              obtain ⟨z2861, hz2861⟩ : ∃ z : Int32, z = g2829 + Int32.ofInt 1 := ⟨_, rfl⟩
              have ez2861 : z2861.toInt = g2829.toInt + 1 := gI_inc hz2861 (by decide) bg2829' (by decide) (by decide)
              have bz2861 : gB z2861 1 200 := ⟨by omega, by omega⟩
              refine G_iinc (L' := [(3, .int z2861), (0, .ref q2474), (1, .int p2484), (2, .int p2485)]) z2861 0 d_cX0_replace_88 rfl hz2861.symm (Nat.le_of_ble_eq_true rfl) rfl ?_
              refine G_goto 2 d_cX0_replace_91 (by decide +kernel) ?_
              exact ih2_2832 z2861 f2839 f2853 f2860 (gB_w bz2861 (by decide) (by decide)) (gF_any f2839) (gF_any f2853) (gF_any f2860) (by omega)
        · have r2862 : z2836.toInt = p2484.toInt := gC_eq hc2837
          refine G_iload_n 3 d_cX0_replace_25 rfl ?_
          refine G_goto 35 d_cX0_replace_26 (by decide +kernel) ?_
          refine G_iastN 5 0 d_cX0_replace_35 rfl rfl (gB_in bg2829' (by decide) (by decide)) (fun f2863 hf2863 => ?_)
          refine G_ws (ws' := [(q2474, .inr (5, [.ref q2475, .ref q2476, .ref q2477, .ref q2478, .ref q2479, .ref q2480, .ref q2481, .ref q2482, .ref q2483, .int p2486, .int p2487, .int p2488])), (q2475, .inl (I .int, 40, .inl f2489)), (q2476, .inl (I .int, 40, .inl f2490)), (q2477, .inl (I .int, 40, .inl f2491)), (q2478, .inl (I .int, 200, .inl f2492)), (q2479, .inl (I .int, 200, .inl f2863)), (q2480, .inl (I .int, 200, .inl f2831)), (q2481, .inl (I .int, 200, .inl f2495)), (q2482, .inl (I .int, 200, .inl f2832)), (q2483, .inl (I .int, 200, .inl f2497))]) (cs' := 0) (sl' := 0) rfl rfl rfl ?_
          refine G_aload_n 1 d_cX0_replace_36 rfl ?_
          refine G_getf 0 5 d_cX0_replace_37 rfl (gk_X0 D I) (Nat.le_of_ble_eq_true rfl) w_1_168 rfl ?_
          refine G_iload_n 0 d_cX0_replace_40 rfl ?_
          refine G_aload_n 1 d_cX0_replace_41 rfl ?_
          refine G_getf 0 5 d_cX0_replace_42 rfl (gk_X0 D I) (Nat.le_of_ble_eq_true rfl) w_1_168 rfl ?_
          refine G_iload_n 0 d_cX0_replace_45 rfl ?_
          refine G_iald 6 0 d_cX0_replace_46 rfl rfl (gB_in bg2829' (by decide) (by decide)) (G_nam fun z2864 hz2864 => ?_)
          have bz2864 : gB z2864 (-2147483648) 2147483647 := by rw [hz2864]; exact bf2831 _
          refine G_iload_n 2 d_cX0_replace_47 rfl ?_
          refine G_icmp_ne 55 d_cX0_replace_48 (by decide +kernel) (fun hc2865 => ?_) (fun hc2865 => ?_)
          · have r2866 : z2864.toInt ≠ p2484.toInt := gC_ne hc2865
            refine G_aload_n 1 d_cX0_replace_55 rfl ?_
            refine G_getf 0 5 d_cX0_replace_56 rfl (gk_X0 D I) (Nat.le_of_ble_eq_true rfl) w_1_168 rfl ?_
            refine G_iload_n 0 d_cX0_replace_59 rfl ?_
            refine G_iald 6 0 d_cX0_replace_60 rfl rfl (gB_in bg2829' (by decide) (by decide)) (G_eqi (y := z2864) hz2864.symm ?_)
            refine G_iastN 6 0 d_cX0_replace_61 rfl rfl (gB_in bg2829' (by decide) (by decide)) (fun f2867 hf2867 => ?_)
            refine G_ws (ws' := [(q2474, .inr (5, [.ref q2475, .ref q2476, .ref q2477, .ref q2478, .ref q2479, .ref q2480, .ref q2481, .ref q2482, .ref q2483, .int p2486, .int p2487, .int p2488])), (q2475, .inl (I .int, 40, .inl f2489)), (q2476, .inl (I .int, 40, .inl f2490)), (q2477, .inl (I .int, 40, .inl f2491)), (q2478, .inl (I .int, 200, .inl f2492)), (q2479, .inl (I .int, 200, .inl f2863)), (q2480, .inl (I .int, 200, .inl f2867)), (q2481, .inl (I .int, 200, .inl f2495)), (q2482, .inl (I .int, 200, .inl f2832)), (q2483, .inl (I .int, 200, .inl f2497))]) (cs' := 0) (sl' := 0) rfl rfl rfl ?_
            refine G_aload_n 1 d_cX0_replace_62 rfl ?_
            refine G_getf 0 7 d_cX0_replace_63 rfl (gk_X0 D I) (Nat.le_of_ble_eq_true rfl) w_1_178 rfl ?_
            refine G_iload_n 0 d_cX0_replace_66 rfl ?_
            refine G_aload_n 1 d_cX0_replace_67 rfl ?_
            refine G_getf 0 7 d_cX0_replace_68 rfl (gk_X0 D I) (Nat.le_of_ble_eq_true rfl) w_1_178 rfl ?_
            refine G_iload_n 0 d_cX0_replace_71 rfl ?_
            refine G_iald 8 0 d_cX0_replace_72 rfl rfl (gB_in bg2829' (by decide) (by decide)) (G_nam fun z2868 hz2868 => ?_)
            have bz2868 : gB z2868 (-2147483648) 2147483647 := by rw [hz2868]; exact bf2832 _
            refine G_iload_n 2 d_cX0_replace_73 rfl ?_
            refine G_icmp_ne 81 d_cX0_replace_74 (by decide +kernel) (fun hc2869 => ?_) (fun hc2869 => ?_)
            · have r2870 : z2868.toInt ≠ p2484.toInt := gC_ne hc2869
              refine G_aload_n 1 d_cX0_replace_81 rfl ?_
              refine G_getf 0 7 d_cX0_replace_82 rfl (gk_X0 D I) (Nat.le_of_ble_eq_true rfl) w_1_178 rfl ?_
              refine G_iload_n 0 d_cX0_replace_85 rfl ?_
              refine G_iald 8 0 d_cX0_replace_86 rfl rfl (gB_in bg2829' (by decide) (by decide)) (G_eqi (y := z2868) hz2868.symm ?_)
              refine G_iastN 8 0 d_cX0_replace_87 rfl rfl (gB_in bg2829' (by decide) (by decide)) (fun f2871 hf2871 => ?_)
              refine G_ws (ws' := [(q2474, .inr (5, [.ref q2475, .ref q2476, .ref q2477, .ref q2478, .ref q2479, .ref q2480, .ref q2481, .ref q2482, .ref q2483, .int p2486, .int p2487, .int p2488])), (q2475, .inl (I .int, 40, .inl f2489)), (q2476, .inl (I .int, 40, .inl f2490)), (q2477, .inl (I .int, 40, .inl f2491)), (q2478, .inl (I .int, 200, .inl f2492)), (q2479, .inl (I .int, 200, .inl f2863)), (q2480, .inl (I .int, 200, .inl f2867)), (q2481, .inl (I .int, 200, .inl f2495)), (q2482, .inl (I .int, 200, .inl f2871)), (q2483, .inl (I .int, 200, .inl f2497))]) (cs' := 0) (sl' := 0) rfl rfl rfl ?_
              obtain ⟨z2872, hz2872⟩ : ∃ z : Int32, z = g2829 + Int32.ofInt 1 := ⟨_, rfl⟩
              have ez2872 : z2872.toInt = g2829.toInt + 1 := gI_inc hz2872 (by decide) bg2829' (by decide) (by decide)
              have bz2872 : gB z2872 1 200 := ⟨by omega, by omega⟩
              refine G_iinc (L' := [(3, .int z2872), (0, .ref q2474), (1, .int p2484), (2, .int p2485)]) z2872 0 d_cX0_replace_88 rfl hz2872.symm (Nat.le_of_ble_eq_true rfl) rfl ?_
              refine G_goto 2 d_cX0_replace_91 (by decide +kernel) ?_
              exact ih2_2832 z2872 f2863 f2867 f2871 (gB_w bz2872 (by decide) (by decide)) (gF_any f2863) (gF_any f2867) (gF_any f2871) (by omega)
            · have r2873 : z2868.toInt = p2484.toInt := gC_eq hc2869
              refine G_iload_n 3 d_cX0_replace_77 rfl ?_
              refine G_goto 87 d_cX0_replace_78 (by decide +kernel) ?_
              refine G_iastN 8 0 d_cX0_replace_87 rfl rfl (gB_in bg2829' (by decide) (by decide)) (fun f2874 hf2874 => ?_)
              refine G_ws (ws' := [(q2474, .inr (5, [.ref q2475, .ref q2476, .ref q2477, .ref q2478, .ref q2479, .ref q2480, .ref q2481, .ref q2482, .ref q2483, .int p2486, .int p2487, .int p2488])), (q2475, .inl (I .int, 40, .inl f2489)), (q2476, .inl (I .int, 40, .inl f2490)), (q2477, .inl (I .int, 40, .inl f2491)), (q2478, .inl (I .int, 200, .inl f2492)), (q2479, .inl (I .int, 200, .inl f2863)), (q2480, .inl (I .int, 200, .inl f2867)), (q2481, .inl (I .int, 200, .inl f2495)), (q2482, .inl (I .int, 200, .inl f2874)), (q2483, .inl (I .int, 200, .inl f2497))]) (cs' := 0) (sl' := 0) rfl rfl rfl ?_
              obtain ⟨z2875, hz2875⟩ : ∃ z : Int32, z = g2829 + Int32.ofInt 1 := ⟨_, rfl⟩
              have ez2875 : z2875.toInt = g2829.toInt + 1 := gI_inc hz2875 (by decide) bg2829' (by decide) (by decide)
              have bz2875 : gB z2875 1 200 := ⟨by omega, by omega⟩
              refine G_iinc (L' := [(3, .int z2875), (0, .ref q2474), (1, .int p2484), (2, .int p2485)]) z2875 0 d_cX0_replace_88 rfl hz2875.symm (Nat.le_of_ble_eq_true rfl) rfl ?_
              refine G_goto 2 d_cX0_replace_91 (by decide +kernel) ?_
              exact ih2_2832 z2875 f2863 f2867 f2874 (gB_w bz2875 (by decide) (by decide)) (gF_any f2863) (gF_any f2867) (gF_any f2874) (by omega)
          · have r2876 : z2864.toInt = p2484.toInt := gC_eq hc2865
            refine G_iload_n 3 d_cX0_replace_51 rfl ?_
            refine G_goto 61 d_cX0_replace_52 (by decide +kernel) ?_
            refine G_iastN 6 0 d_cX0_replace_61 rfl rfl (gB_in bg2829' (by decide) (by decide)) (fun f2877 hf2877 => ?_)
            refine G_ws (ws' := [(q2474, .inr (5, [.ref q2475, .ref q2476, .ref q2477, .ref q2478, .ref q2479, .ref q2480, .ref q2481, .ref q2482, .ref q2483, .int p2486, .int p2487, .int p2488])), (q2475, .inl (I .int, 40, .inl f2489)), (q2476, .inl (I .int, 40, .inl f2490)), (q2477, .inl (I .int, 40, .inl f2491)), (q2478, .inl (I .int, 200, .inl f2492)), (q2479, .inl (I .int, 200, .inl f2863)), (q2480, .inl (I .int, 200, .inl f2877)), (q2481, .inl (I .int, 200, .inl f2495)), (q2482, .inl (I .int, 200, .inl f2832)), (q2483, .inl (I .int, 200, .inl f2497))]) (cs' := 0) (sl' := 0) rfl rfl rfl ?_
            refine G_aload_n 1 d_cX0_replace_62 rfl ?_
            refine G_getf 0 7 d_cX0_replace_63 rfl (gk_X0 D I) (Nat.le_of_ble_eq_true rfl) w_1_178 rfl ?_
            refine G_iload_n 0 d_cX0_replace_66 rfl ?_
            refine G_aload_n 1 d_cX0_replace_67 rfl ?_
            refine G_getf 0 7 d_cX0_replace_68 rfl (gk_X0 D I) (Nat.le_of_ble_eq_true rfl) w_1_178 rfl ?_
            refine G_iload_n 0 d_cX0_replace_71 rfl ?_
            refine G_iald 8 0 d_cX0_replace_72 rfl rfl (gB_in bg2829' (by decide) (by decide)) (G_nam fun z2878 hz2878 => ?_)
            have bz2878 : gB z2878 (-2147483648) 2147483647 := by rw [hz2878]; exact bf2832 _
            refine G_iload_n 2 d_cX0_replace_73 rfl ?_
            refine G_icmp_ne 81 d_cX0_replace_74 (by decide +kernel) (fun hc2879 => ?_) (fun hc2879 => ?_)
            · have r2880 : z2878.toInt ≠ p2484.toInt := gC_ne hc2879
              refine G_aload_n 1 d_cX0_replace_81 rfl ?_
              refine G_getf 0 7 d_cX0_replace_82 rfl (gk_X0 D I) (Nat.le_of_ble_eq_true rfl) w_1_178 rfl ?_
              refine G_iload_n 0 d_cX0_replace_85 rfl ?_
              refine G_iald 8 0 d_cX0_replace_86 rfl rfl (gB_in bg2829' (by decide) (by decide)) (G_eqi (y := z2878) hz2878.symm ?_)
              refine G_iastN 8 0 d_cX0_replace_87 rfl rfl (gB_in bg2829' (by decide) (by decide)) (fun f2881 hf2881 => ?_)
              refine G_ws (ws' := [(q2474, .inr (5, [.ref q2475, .ref q2476, .ref q2477, .ref q2478, .ref q2479, .ref q2480, .ref q2481, .ref q2482, .ref q2483, .int p2486, .int p2487, .int p2488])), (q2475, .inl (I .int, 40, .inl f2489)), (q2476, .inl (I .int, 40, .inl f2490)), (q2477, .inl (I .int, 40, .inl f2491)), (q2478, .inl (I .int, 200, .inl f2492)), (q2479, .inl (I .int, 200, .inl f2863)), (q2480, .inl (I .int, 200, .inl f2877)), (q2481, .inl (I .int, 200, .inl f2495)), (q2482, .inl (I .int, 200, .inl f2881)), (q2483, .inl (I .int, 200, .inl f2497))]) (cs' := 0) (sl' := 0) rfl rfl rfl ?_
              obtain ⟨z2882, hz2882⟩ : ∃ z : Int32, z = g2829 + Int32.ofInt 1 := ⟨_, rfl⟩
              have ez2882 : z2882.toInt = g2829.toInt + 1 := gI_inc hz2882 (by decide) bg2829' (by decide) (by decide)
              have bz2882 : gB z2882 1 200 := ⟨by omega, by omega⟩
              refine G_iinc (L' := [(3, .int z2882), (0, .ref q2474), (1, .int p2484), (2, .int p2485)]) z2882 0 d_cX0_replace_88 rfl hz2882.symm (Nat.le_of_ble_eq_true rfl) rfl ?_
              refine G_goto 2 d_cX0_replace_91 (by decide +kernel) ?_
              exact ih2_2832 z2882 f2863 f2877 f2881 (gB_w bz2882 (by decide) (by decide)) (gF_any f2863) (gF_any f2877) (gF_any f2881) (by omega)
            · have r2883 : z2878.toInt = p2484.toInt := gC_eq hc2879
              refine G_iload_n 3 d_cX0_replace_77 rfl ?_
              refine G_goto 87 d_cX0_replace_78 (by decide +kernel) ?_
              refine G_iastN 8 0 d_cX0_replace_87 rfl rfl (gB_in bg2829' (by decide) (by decide)) (fun f2884 hf2884 => ?_)
              refine G_ws (ws' := [(q2474, .inr (5, [.ref q2475, .ref q2476, .ref q2477, .ref q2478, .ref q2479, .ref q2480, .ref q2481, .ref q2482, .ref q2483, .int p2486, .int p2487, .int p2488])), (q2475, .inl (I .int, 40, .inl f2489)), (q2476, .inl (I .int, 40, .inl f2490)), (q2477, .inl (I .int, 40, .inl f2491)), (q2478, .inl (I .int, 200, .inl f2492)), (q2479, .inl (I .int, 200, .inl f2863)), (q2480, .inl (I .int, 200, .inl f2877)), (q2481, .inl (I .int, 200, .inl f2495)), (q2482, .inl (I .int, 200, .inl f2884)), (q2483, .inl (I .int, 200, .inl f2497))]) (cs' := 0) (sl' := 0) rfl rfl rfl ?_
              obtain ⟨z2885, hz2885⟩ : ∃ z : Int32, z = g2829 + Int32.ofInt 1 := ⟨_, rfl⟩
              have ez2885 : z2885.toInt = g2829.toInt + 1 := gI_inc hz2885 (by decide) bg2829' (by decide) (by decide)
              have bz2885 : gB z2885 1 200 := ⟨by omega, by omega⟩
              refine G_iinc (L' := [(3, .int z2885), (0, .ref q2474), (1, .int p2484), (2, .int p2485)]) z2885 0 d_cX0_replace_88 rfl hz2885.symm (Nat.le_of_ble_eq_true rfl) rfl ?_
              refine G_goto 2 d_cX0_replace_91 (by decide +kernel) ?_
              exact ih2_2832 z2885 f2863 f2877 f2884 (gB_w bz2885 (by decide) (by decide)) (gF_any f2863) (gF_any f2877) (gF_any f2884) (by omega)
  exact hlp2_2832 (((201 : Int) - 0).toNat + 1) 0 f2493 f2494 f2496 (gB_w (gBl (show Int32.toInt 0 = 0 by decide)) (by decide) (by decide)) (gF_any f2493) (gF_any f2494) (gF_any f2496) (Nat.lt_succ_self _)
abbrev ky_2912_Code_linesThat : gKey := (cX0_linesThat, 4, yX0_linesThat.cls, (some FieldType.int), [], yX0_linesThat.name, fun _ _ => True)
abbrev po_2912_Code_linesThat (I : FieldType → ClassId) (q2889 : Nat) (q2890 : Nat) (q2891 : Nat) (q2892 : Nat) (q2893 : Nat) (q2894 : Nat) (q2895 : Nat) (q2896 : Nat) (q2897 : Nat) (q2898 : Nat) (p2899 : Int32) (p2900 : Int32) (p2901 : Int32) (p2902 : Int32) (f2903 : Nat → Int32) (f2904 : Nat → Int32) (f2905 : Nat → Int32) (f2906 : Nat → Int32) (f2907 : Nat → Int32) (f2908 : Nat → Int32) (f2909 : Nat → Int32) (f2910 : Nat → Int32) (f2911 : Nat → Int32) : Option Value → va_W → Prop := fun r w => ∃ (o3011 : Int32), r = some (.int o3011) ∧ w = [(q2889, .inr (5, [.ref q2890, .ref q2891, .ref q2892, .ref q2893, .ref q2894, .ref q2895, .ref q2896, .ref q2897, .ref q2898, .int p2900, .int p2901, .int p2902])), (q2890, .inl (I .int, 40, .inl f2903)), (q2891, .inl (I .int, 40, .inl f2904)), (q2892, .inl (I .int, 40, .inl f2905)), (q2893, .inl (I .int, 200, .inl f2906)), (q2894, .inl (I .int, 200, .inl f2907)), (q2895, .inl (I .int, 200, .inl f2908)), (q2896, .inl (I .int, 200, .inl f2909)), (q2897, .inl (I .int, 200, .inl f2910)), (q2898, .inl (I .int, 200, .inl f2911))] ∧ gB o3011 (-2147483648) 2147483647
set_option maxRecDepth 100000 in
set_option maxHeartbeats 4000000 in
theorem ct_2912_Code_linesThat (l : Launch) (hl0 : l.stackTraces = false) (D : va_G) (I : FieldType → ClassId) (q2889 : Nat) (q2890 : Nat) (q2891 : Nat) (q2892 : Nat) (q2893 : Nat) (q2894 : Nat) (q2895 : Nat) (q2896 : Nat) (q2897 : Nat) (q2898 : Nat) (p2899 : Int32) (p2900 : Int32) (p2901 : Int32) (p2902 : Int32) (f2903 : Nat → Int32) (f2904 : Nat → Int32) (f2905 : Nat → Int32) (f2906 : Nat → Int32) (f2907 : Nat → Int32) (f2908 : Nat → Int32) (f2909 : Nat → Int32) (f2910 : Nat → Int32) (f2911 : Nat → Int32) (bp2900 : gB p2900 0 40) (bp2901 : gB p2901 0 200) (bp2902 : gB p2902 0 1) (bf2903 : gF f2903 0 200) : Ct (gV D I) l yX0_linesThat cX0_linesThat 4 (some FieldType.int) 0 0 0 0 [.ref q2889, .int p2899] [(q2889, .inr (5, [.ref q2890, .ref q2891, .ref q2892, .ref q2893, .ref q2894, .ref q2895, .ref q2896, .ref q2897, .ref q2898, .int p2900, .int p2901, .int p2902])), (q2890, .inl (I .int, 40, .inl f2903)), (q2891, .inl (I .int, 40, .inl f2904)), (q2892, .inl (I .int, 40, .inl f2905)), (q2893, .inl (I .int, 200, .inl f2906)), (q2894, .inl (I .int, 200, .inl f2907)), (q2895, .inl (I .int, 200, .inl f2908)), (q2896, .inl (I .int, 200, .inl f2909)), (q2897, .inl (I .int, 200, .inl f2910)), (q2898, .inl (I .int, 200, .inl f2911))] (po_2912_Code_linesThat I q2889 q2890 q2891 q2892 q2893 q2894 q2895 q2896 q2897 q2898 p2899 p2900 p2901 p2902 f2903 f2904 f2905 f2906 f2907 f2908 f2909 f2910 f2911) gN := by
  refine Ct_of hl0 (by decide) (Nat.le_of_ble_eq_true rfl) ?_
  have bp2899 := gB_any p2899
  refine G_iconst 0 d_cX0_linesThat_0 (by decide +kernel) ?_
  refine G_istore_n (L' := [(2, .int 0), (0, .ref q2889), (1, .int p2899)]) d_cX0_linesThat_1 (Nat.le_of_ble_eq_true rfl) rfl ?_
  refine G_iconst 0 d_cX0_linesThat_2 (by decide +kernel) ?_
  refine G_istore_n (L' := [(3, .int 0), (2, .int 0), (0, .ref q2889), (1, .int p2899)]) d_cX0_linesThat_3 (Nat.le_of_ble_eq_true rfl) rfl ?_
  have hlp4_2999 : ∀ (n4_2999 : Nat) (g2998 : Int32) (g2999 : Int32), gB g2998 0 200 → gB g2999 (-2147483648) 2147483647 → ((201 : Int) - g2998.toInt).toNat < n4_2999 → G (gV D I) l (gRm 0 0 0 0) (gM (gV D I) (po_2912_Code_linesThat I q2889 q2890 q2891 q2892 q2893 q2894 q2895 q2896 q2897 q2898 p2899 p2900 p2901 p2902 f2903 f2904 f2905 f2906 f2907 f2908 f2909 f2910 f2911) gN 0 0) ky_2912_Code_linesThat 4 [(3, .int g2998), (2, .int g2999), (0, .ref q2889), (1, .int p2899)] [] [(q2889, .inr (5, [.ref q2890, .ref q2891, .ref q2892, .ref q2893, .ref q2894, .ref q2895, .ref q2896, .ref q2897, .ref q2898, .int p2900, .int p2901, .int p2902])), (q2890, .inl (I .int, 40, .inl f2903)), (q2891, .inl (I .int, 40, .inl f2904)), (q2892, .inl (I .int, 40, .inl f2905)), (q2893, .inl (I .int, 200, .inl f2906)), (q2894, .inl (I .int, 200, .inl f2907)), (q2895, .inl (I .int, 200, .inl f2908)), (q2896, .inl (I .int, 200, .inl f2909)), (q2897, .inl (I .int, 200, .inl f2910)), (q2898, .inl (I .int, 200, .inl f2911))] 0 0 := by
    intro n4_2999
    induction n4_2999 with
    | zero => intro g2998 g2999 bg2998 bg2999 hm4_2999; exact absurd hm4_2999 (Nat.not_lt_zero _)
    | succ n4_2999 ih4_2999 =>
      intro g2998 g2999 bg2998 bg2999 hm4_2999
      refine G_iload_n 0 d_cX0_linesThat_4 rfl ?_
      refine G_aload_n 2 d_cX0_linesThat_5 rfl ?_
      refine G_getf 0 10 d_cX0_linesThat_6 rfl (gk_X0 D I) (Nat.le_of_ble_eq_true rfl) w_1_197 rfl ?_
      refine G_icmp_ge 36 d_cX0_linesThat_9 (by decide +kernel) (fun hc3000 => ?_) (fun hc3000 => ?_)
      · have r3001 : p2901.toInt ≤ g2998.toInt := gC_le hc3000
        refine G_iload_n 1 d_cX0_linesThat_36 rfl ?_
        exact G_iret d_cX0_linesThat_37 rfl (Nat.le_of_ble_eq_true rfl) (Nat.le_of_ble_eq_true rfl) ⟨g2999, rfl, rfl, bg2999⟩
      · have r3002 : g2998.toInt < p2901.toInt := gC_nle hc3000
        have bg2998' : gB g2998 0 199 := ⟨by omega, by omega⟩
        have bp2901' : gB p2901 1 200 := ⟨by omega, by omega⟩
        refine G_iload_n 1 d_cX0_linesThat_12 rfl ?_
        refine G_aload_n 2 d_cX0_linesThat_13 rfl ?_
        refine G_getf 0 3 d_cX0_linesThat_14 rfl (gk_X0 D I) (Nat.le_of_ble_eq_true rfl) w_1_159 rfl ?_
        refine G_iload_n 0 d_cX0_linesThat_17 rfl ?_
        refine G_iald 4 0 d_cX0_linesThat_18 rfl rfl (gB_in bg2998' (by decide) (by decide)) (G_nam fun z3003 hz3003 => ?_)
        have bz3003 : gB z3003 (-2147483648) 2147483647 := gB_any z3003
        refine G_iload_n 3 d_cX0_linesThat_19 rfl ?_
        refine G_icmp_ne 27 d_cX0_linesThat_20 (by decide +kernel) (fun hc3004 => ?_) (fun hc3004 => ?_)
        · have r3005 : z3003.toInt ≠ p2899.toInt := gC_ne hc3004
          refine G_iconst 0 d_cX0_linesThat_27 (by decide +kernel) ?_
          refine G_iadd d_cX0_linesThat_28 (G_nam fun z3006 hz3006 => ?_)
          have ez3006 : z3006.toInt = g2999.toInt + 0 := by rw [gI_add hz3006 bg2999 (gBl (show Int32.toInt 0 = 0 by decide)) (by decide) (by decide), show Int32.toInt 0 = 0 from by decide]
          have bz3006 : gB z3006 (-2147483648) 2147483647 := gB_add (gI_add hz3006 bg2999 (gBl (show Int32.toInt 0 = 0 by decide)) (by decide) (by decide)) bg2999 (gBl (show Int32.toInt 0 = 0 by decide)) (by decide) (by decide)
          refine G_istore_n (L' := [(2, .int z3006), (3, .int g2998), (0, .ref q2889), (1, .int p2899)]) d_cX0_linesThat_29 (Nat.le_of_ble_eq_true rfl) rfl ?_
          obtain ⟨z3007, hz3007⟩ : ∃ z : Int32, z = g2998 + Int32.ofInt 1 := ⟨_, rfl⟩
          have ez3007 : z3007.toInt = g2998.toInt + 1 := gI_inc hz3007 (by decide) bg2998' (by decide) (by decide)
          have bz3007 : gB z3007 1 200 := ⟨by omega, by omega⟩
          refine G_iinc (L' := [(3, .int z3007), (2, .int z3006), (0, .ref q2889), (1, .int p2899)]) z3007 1 d_cX0_linesThat_30 rfl hz3007.symm (Nat.le_of_ble_eq_true rfl) rfl ?_
          refine G_goto 4 d_cX0_linesThat_33 (by decide +kernel) ?_
          exact ih4_2999 z3007 z3006 (gB_w bz3007 (by decide) (by decide)) bz3006 (by omega)
        · have r3008 : z3003.toInt = p2899.toInt := gC_eq hc3004
          refine G_iconst 1 d_cX0_linesThat_23 (by decide +kernel) ?_
          refine G_goto 28 d_cX0_linesThat_24 (by decide +kernel) ?_
          refine G_iadd d_cX0_linesThat_28 (G_nam fun z3009 hz3009 => ?_)
          have bz3009 : gB z3009 (-2147483648) 2147483647 := gB_any z3009
          refine G_istore_n (L' := [(2, .int z3009), (3, .int g2998), (0, .ref q2889), (1, .int p2899)]) d_cX0_linesThat_29 (Nat.le_of_ble_eq_true rfl) rfl ?_
          obtain ⟨z3010, hz3010⟩ : ∃ z : Int32, z = g2998 + Int32.ofInt 1 := ⟨_, rfl⟩
          have ez3010 : z3010.toInt = g2998.toInt + 1 := gI_inc hz3010 (by decide) bg2998' (by decide) (by decide)
          have bz3010 : gB z3010 1 200 := ⟨by omega, by omega⟩
          refine G_iinc (L' := [(3, .int z3010), (2, .int z3009), (0, .ref q2889), (1, .int p2899)]) z3010 1 d_cX0_linesThat_30 rfl hz3010.symm (Nat.le_of_ble_eq_true rfl) rfl ?_
          refine G_goto 4 d_cX0_linesThat_33 (by decide +kernel) ?_
          exact ih4_2999 z3010 z3009 (gB_w bz3010 (by decide) (by decide)) bz3009 (by omega)
  exact hlp4_2999 (((201 : Int) - 0).toNat + 1) 0 0 (gB_w (gBl (show Int32.toInt 0 = 0 by decide)) (by decide) (by decide)) (gB_w (gBl (show Int32.toInt 0 = 0 by decide)) (by decide) (by decide)) (Nat.lt_succ_self _)
abbrev ky_3035_Code_copiesRegister : gKey := (cX0_copiesRegister, 2, yX0_copiesRegister.cls, (some FieldType.boolean), [], yX0_copiesRegister.name, fun _ _ => True)
abbrev po_3035_Code_copiesRegister (I : FieldType → ClassId) (q3012 : Nat) (q3013 : Nat) (q3014 : Nat) (q3015 : Nat) (q3016 : Nat) (q3017 : Nat) (q3018 : Nat) (q3019 : Nat) (q3020 : Nat) (q3021 : Nat) (p3022 : Int32) (p3023 : Int32) (p3024 : Int32) (p3025 : Int32) (f3026 : Nat → Int32) (f3027 : Nat → Int32) (f3028 : Nat → Int32) (f3029 : Nat → Int32) (f3030 : Nat → Int32) (f3031 : Nat → Int32) (f3032 : Nat → Int32) (f3033 : Nat → Int32) (f3034 : Nat → Int32) : Option Value → va_W → Prop := fun r w => (∃ (z3036 : Int32), r = some (.int 0) ∧ w = [(q3012, .inr (5, [.ref q3013, .ref q3014, .ref q3015, .ref q3016, .ref q3017, .ref q3018, .ref q3019, .ref q3020, .ref q3021, .int p3023, .int p3024, .int p3025])), (q3013, .inl (I .int, 40, .inl f3026)), (q3014, .inl (I .int, 40, .inl f3027)), (q3015, .inl (I .int, 40, .inl f3028)), (q3016, .inl (I .int, 200, .inl f3029)), (q3017, .inl (I .int, 200, .inl f3030)), (q3018, .inl (I .int, 200, .inl f3031)), (q3019, .inl (I .int, 200, .inl f3032)), (q3020, .inl (I .int, 200, .inl f3033)), (q3021, .inl (I .int, 200, .inl f3034))] ∧ z3036.toInt ≠ 14 ∧ gB z3036 (-2147483648) 2147483647) ∨ (∃ (z3036 : Int32) (z3040 : Int32), r = some (.int 0) ∧ w = [(q3012, .inr (5, [.ref q3013, .ref q3014, .ref q3015, .ref q3016, .ref q3017, .ref q3018, .ref q3019, .ref q3020, .ref q3021, .int p3023, .int p3024, .int p3025])), (q3013, .inl (I .int, 40, .inl f3026)), (q3014, .inl (I .int, 40, .inl f3027)), (q3015, .inl (I .int, 40, .inl f3028)), (q3016, .inl (I .int, 200, .inl f3029)), (q3017, .inl (I .int, 200, .inl f3030)), (q3018, .inl (I .int, 200, .inl f3031)), (q3019, .inl (I .int, 200, .inl f3032)), (q3020, .inl (I .int, 200, .inl f3033)), (q3021, .inl (I .int, 200, .inl f3034))] ∧ z3036.toInt = 14 ∧ z3040.toInt < 0 ∧ gB z3036 14 14 ∧ gB z3040 (-2147483648) (-1)) ∨ (∃ (z3036 : Int32) (z3040 : Int32) (z3044 : Int32), r = some (.int 0) ∧ w = [(q3012, .inr (5, [.ref q3013, .ref q3014, .ref q3015, .ref q3016, .ref q3017, .ref q3018, .ref q3019, .ref q3020, .ref q3021, .int p3023, .int p3024, .int p3025])), (q3013, .inl (I .int, 40, .inl f3026)), (q3014, .inl (I .int, 40, .inl f3027)), (q3015, .inl (I .int, 40, .inl f3028)), (q3016, .inl (I .int, 200, .inl f3029)), (q3017, .inl (I .int, 200, .inl f3030)), (q3018, .inl (I .int, 200, .inl f3031)), (q3019, .inl (I .int, 200, .inl f3032)), (q3020, .inl (I .int, 200, .inl f3033)), (q3021, .inl (I .int, 200, .inl f3034))] ∧ z3036.toInt = 14 ∧ 0 ≤ z3040.toInt ∧ z3044.toInt < 0 ∧ gB z3036 14 14 ∧ gB z3040 0 2147483647 ∧ gB z3044 (-2147483648) (-1)) ∨ (∃ (z3036 : Int32) (z3040 : Int32) (z3044 : Int32), r = some (.int 1) ∧ w = [(q3012, .inr (5, [.ref q3013, .ref q3014, .ref q3015, .ref q3016, .ref q3017, .ref q3018, .ref q3019, .ref q3020, .ref q3021, .int p3023, .int p3024, .int p3025])), (q3013, .inl (I .int, 40, .inl f3026)), (q3014, .inl (I .int, 40, .inl f3027)), (q3015, .inl (I .int, 40, .inl f3028)), (q3016, .inl (I .int, 200, .inl f3029)), (q3017, .inl (I .int, 200, .inl f3030)), (q3018, .inl (I .int, 200, .inl f3031)), (q3019, .inl (I .int, 200, .inl f3032)), (q3020, .inl (I .int, 200, .inl f3033)), (q3021, .inl (I .int, 200, .inl f3034))] ∧ z3036.toInt = 14 ∧ 0 ≤ z3040.toInt ∧ 0 ≤ z3044.toInt ∧ gB z3036 14 14 ∧ gB z3040 0 2147483647 ∧ gB z3044 0 2147483647)
set_option maxRecDepth 100000 in
set_option maxHeartbeats 4000000 in
theorem ct_3035_Code_copiesRegister (l : Launch) (hl0 : l.stackTraces = false) (D : va_G) (I : FieldType → ClassId) (q3012 : Nat) (q3013 : Nat) (q3014 : Nat) (q3015 : Nat) (q3016 : Nat) (q3017 : Nat) (q3018 : Nat) (q3019 : Nat) (q3020 : Nat) (q3021 : Nat) (p3022 : Int32) (p3023 : Int32) (p3024 : Int32) (p3025 : Int32) (f3026 : Nat → Int32) (f3027 : Nat → Int32) (f3028 : Nat → Int32) (f3029 : Nat → Int32) (f3030 : Nat → Int32) (f3031 : Nat → Int32) (f3032 : Nat → Int32) (f3033 : Nat → Int32) (f3034 : Nat → Int32) (bp3022 : gB p3022 0 199) (bp3023 : gB p3023 0 40) (bp3024 : gB p3024 0 200) (bp3025 : gB p3025 0 1) (bf3026 : gF f3026 0 200) : Ct (gV D I) l yX0_copiesRegister cX0_copiesRegister 2 (some FieldType.boolean) 0 0 0 0 [.ref q3012, .int p3022] [(q3012, .inr (5, [.ref q3013, .ref q3014, .ref q3015, .ref q3016, .ref q3017, .ref q3018, .ref q3019, .ref q3020, .ref q3021, .int p3023, .int p3024, .int p3025])), (q3013, .inl (I .int, 40, .inl f3026)), (q3014, .inl (I .int, 40, .inl f3027)), (q3015, .inl (I .int, 40, .inl f3028)), (q3016, .inl (I .int, 200, .inl f3029)), (q3017, .inl (I .int, 200, .inl f3030)), (q3018, .inl (I .int, 200, .inl f3031)), (q3019, .inl (I .int, 200, .inl f3032)), (q3020, .inl (I .int, 200, .inl f3033)), (q3021, .inl (I .int, 200, .inl f3034))] (po_3035_Code_copiesRegister I q3012 q3013 q3014 q3015 q3016 q3017 q3018 q3019 q3020 q3021 p3022 p3023 p3024 p3025 f3026 f3027 f3028 f3029 f3030 f3031 f3032 f3033 f3034) gN := by
  refine Ct_of hl0 (by decide) (Nat.le_of_ble_eq_true rfl) ?_
  refine G_aload_n 0 d_cX0_copiesRegister_0 rfl ?_
  refine G_getf 0 3 d_cX0_copiesRegister_1 rfl (gk_X0 D I) (Nat.le_of_ble_eq_true rfl) w_1_159 rfl ?_
  refine G_iload_n 1 d_cX0_copiesRegister_4 rfl ?_
  refine G_iald 4 0 d_cX0_copiesRegister_5 rfl rfl (gB_in bp3022 (by decide) (by decide)) (G_nam fun z3036 hz3036 => ?_)
  have bz3036 : gB z3036 (-2147483648) 2147483647 := gB_any z3036
  refine G_bipush 14 d_cX0_copiesRegister_6 (by decide +kernel) ?_
  refine G_icmp_ne 33 d_cX0_copiesRegister_8 (by decide +kernel) (fun hc3037 => ?_) (fun hc3037 => ?_)
  · have r3038 : z3036.toInt ≠ 14 := gj_neq hc3037 (show Int32.toInt 14 = 14 by decide)
    refine G_iconst 0 d_cX0_copiesRegister_33 (by decide +kernel) ?_
    exact G_zret FieldType.boolean d_cX0_copiesRegister_34 rfl rfl (Nat.le_of_ble_eq_true rfl) (Nat.le_of_ble_eq_true rfl) (Or.inl ⟨z3036, rfl, rfl, r3038, bz3036⟩)
  · have r3039 : z3036.toInt = 14 := gj_eq hc3037 (show Int32.toInt 14 = 14 by decide)
    have bz3036' : gB z3036 14 14 := ⟨by omega, by omega⟩
    refine G_aload_n 0 d_cX0_copiesRegister_11 rfl ?_
    refine G_getf 0 4 d_cX0_copiesRegister_12 rfl (gk_X0 D I) (Nat.le_of_ble_eq_true rfl) w_1_163 rfl ?_
    refine G_iload_n 1 d_cX0_copiesRegister_15 rfl ?_
    refine G_iald 5 0 d_cX0_copiesRegister_16 rfl rfl (gB_in bp3022 (by decide) (by decide)) (G_nam fun z3040 hz3040 => ?_)
    have bz3040 : gB z3040 (-2147483648) 2147483647 := gB_any z3040
    refine G_if_lt 33 d_cX0_copiesRegister_17 (by decide +kernel) (fun hc3041 => ?_) (fun hc3041 => ?_)
    · have r3042 : z3040.toInt < 0 := gj_lt hc3041 (show Int32.toInt 0 = 0 by decide)
      have bz3040' : gB z3040 (-2147483648) (-1) := ⟨by omega, by omega⟩
      refine G_iconst 0 d_cX0_copiesRegister_33 (by decide +kernel) ?_
      exact G_zret FieldType.boolean d_cX0_copiesRegister_34 rfl rfl (Nat.le_of_ble_eq_true rfl) (Nat.le_of_ble_eq_true rfl) (Or.inr (Or.inl ⟨z3036, z3040, rfl, rfl, r3039, r3042, bz3036', bz3040'⟩))
    · have r3043 : 0 ≤ z3040.toInt := gj_nlt hc3041 (show Int32.toInt 0 = 0 by decide)
      have bz3040' : gB z3040 0 2147483647 := ⟨by omega, by omega⟩
      refine G_aload_n 0 d_cX0_copiesRegister_20 rfl ?_
      refine G_getf 0 5 d_cX0_copiesRegister_21 rfl (gk_X0 D I) (Nat.le_of_ble_eq_true rfl) w_1_168 rfl ?_
      refine G_iload_n 1 d_cX0_copiesRegister_24 rfl ?_
      refine G_iald 6 0 d_cX0_copiesRegister_25 rfl rfl (gB_in bp3022 (by decide) (by decide)) (G_nam fun z3044 hz3044 => ?_)
      have bz3044 : gB z3044 (-2147483648) 2147483647 := gB_any z3044
      refine G_if_lt 33 d_cX0_copiesRegister_26 (by decide +kernel) (fun hc3045 => ?_) (fun hc3045 => ?_)
      · have r3046 : z3044.toInt < 0 := gj_lt hc3045 (show Int32.toInt 0 = 0 by decide)
        have bz3044' : gB z3044 (-2147483648) (-1) := ⟨by omega, by omega⟩
        refine G_iconst 0 d_cX0_copiesRegister_33 (by decide +kernel) ?_
        exact G_zret FieldType.boolean d_cX0_copiesRegister_34 rfl rfl (Nat.le_of_ble_eq_true rfl) (Nat.le_of_ble_eq_true rfl) (Or.inr (Or.inr (Or.inl ⟨z3036, z3040, z3044, rfl, rfl, r3039, r3043, r3046, bz3036', bz3040', bz3044'⟩)))
      · have r3047 : 0 ≤ z3044.toInt := gj_nlt hc3045 (show Int32.toInt 0 = 0 by decide)
        have bz3044' : gB z3044 0 2147483647 := ⟨by omega, by omega⟩
        refine G_iconst 1 d_cX0_copiesRegister_29 (by decide +kernel) ?_
        refine G_goto 34 d_cX0_copiesRegister_30 (by decide +kernel) ?_
        exact G_zret FieldType.boolean d_cX0_copiesRegister_34 rfl rfl (Nat.le_of_ble_eq_true rfl) (Nat.le_of_ble_eq_true rfl) (Or.inr (Or.inr (Or.inr (⟨z3036, z3040, z3044, rfl, rfl, r3039, r3043, r3047, bz3036', bz3040', bz3044'⟩))))
abbrev ky_3072_Code_setBy : gKey := (cX0_setBy, 3, yX0_setBy.cls, (some FieldType.int), [], yX0_setBy.name, fun _ _ => True)
abbrev po_3072_Code_setBy (I : FieldType → ClassId) (q3048 : Nat) (q3049 : Nat) (q3050 : Nat) (q3051 : Nat) (q3052 : Nat) (q3053 : Nat) (q3054 : Nat) (q3055 : Nat) (q3056 : Nat) (q3057 : Nat) (p3058 : Int32) (p3059 : Int32) (p3060 : Int32) (p3061 : Int32) (p3062 : Int32) (f3063 : Nat → Int32) (f3064 : Nat → Int32) (f3065 : Nat → Int32) (f3066 : Nat → Int32) (f3067 : Nat → Int32) (f3068 : Nat → Int32) (f3069 : Nat → Int32) (f3070 : Nat → Int32) (f3071 : Nat → Int32) : Option Value → va_W → Prop := fun r w => (∃ (z3075 : Int32), r = some (.int z3075) ∧ w = [(q3048, .inr (5, [.ref q3049, .ref q3050, .ref q3051, .ref q3052, .ref q3053, .ref q3054, .ref q3055, .ref q3056, .ref q3057, .int p3060, .int p3061, .int p3062])), (q3049, .inl (I .int, 40, .inl f3063)), (q3050, .inl (I .int, 40, .inl f3064)), (q3051, .inl (I .int, 40, .inl f3065)), (q3052, .inl (I .int, 200, .inl f3066)), (q3053, .inl (I .int, 200, .inl f3067)), (q3054, .inl (I .int, 200, .inl f3068)), (q3055, .inl (I .int, 200, .inl f3069)), (q3056, .inl (I .int, 200, .inl f3070)), (q3057, .inl (I .int, 200, .inl f3071))] ∧ p3059.toInt = 0 ∧ gB z3075 (-2147483648) 2147483647) ∨ (∃ (z3077 : Int32), r = some (.int (-1)) ∧ w = [(q3048, .inr (5, [.ref q3049, .ref q3050, .ref q3051, .ref q3052, .ref q3053, .ref q3054, .ref q3055, .ref q3056, .ref q3057, .int p3060, .int p3061, .int p3062])), (q3049, .inl (I .int, 40, .inl f3063)), (q3050, .inl (I .int, 40, .inl f3064)), (q3051, .inl (I .int, 40, .inl f3065)), (q3052, .inl (I .int, 200, .inl f3066)), (q3053, .inl (I .int, 200, .inl f3067)), (q3054, .inl (I .int, 200, .inl f3068)), (q3055, .inl (I .int, 200, .inl f3069)), (q3056, .inl (I .int, 200, .inl f3070)), (q3057, .inl (I .int, 200, .inl f3071))] ∧ p3059.toInt ≠ 0 ∧ z3077.toInt ≠ 18 ∧ gB z3077 (-2147483648) 2147483647) ∨ (∃ (z3081 : Int32) (z3077 : Int32), r = some (.int z3081) ∧ w = [(q3048, .inr (5, [.ref q3049, .ref q3050, .ref q3051, .ref q3052, .ref q3053, .ref q3054, .ref q3055, .ref q3056, .ref q3057, .int p3060, .int p3061, .int p3062])), (q3049, .inl (I .int, 40, .inl f3063)), (q3050, .inl (I .int, 40, .inl f3064)), (q3051, .inl (I .int, 40, .inl f3065)), (q3052, .inl (I .int, 200, .inl f3066)), (q3053, .inl (I .int, 200, .inl f3067)), (q3054, .inl (I .int, 200, .inl f3068)), (q3055, .inl (I .int, 200, .inl f3069)), (q3056, .inl (I .int, 200, .inl f3070)), (q3057, .inl (I .int, 200, .inl f3071))] ∧ p3059.toInt ≠ 0 ∧ z3077.toInt = 18 ∧ gB z3081 (-2147483648) 2147483647 ∧ gB z3077 18 18)
set_option maxRecDepth 100000 in
set_option maxHeartbeats 4000000 in
theorem ct_3072_Code_setBy (l : Launch) (hl0 : l.stackTraces = false) (D : va_G) (I : FieldType → ClassId) (q3048 : Nat) (q3049 : Nat) (q3050 : Nat) (q3051 : Nat) (q3052 : Nat) (q3053 : Nat) (q3054 : Nat) (q3055 : Nat) (q3056 : Nat) (q3057 : Nat) (p3058 : Int32) (p3059 : Int32) (p3060 : Int32) (p3061 : Int32) (p3062 : Int32) (f3063 : Nat → Int32) (f3064 : Nat → Int32) (f3065 : Nat → Int32) (f3066 : Nat → Int32) (f3067 : Nat → Int32) (f3068 : Nat → Int32) (f3069 : Nat → Int32) (f3070 : Nat → Int32) (f3071 : Nat → Int32) (bp3058 : gB p3058 0 199) (bp3059 : gB p3059 0 1) (bp3060 : gB p3060 0 40) (bp3061 : gB p3061 0 200) (bp3062 : gB p3062 0 1) (bf3063 : gF f3063 0 200) : Ct (gV D I) l yX0_setBy cX0_setBy 3 (some FieldType.int) 0 0 0 0 [.ref q3048, .int p3058, .int p3059] [(q3048, .inr (5, [.ref q3049, .ref q3050, .ref q3051, .ref q3052, .ref q3053, .ref q3054, .ref q3055, .ref q3056, .ref q3057, .int p3060, .int p3061, .int p3062])), (q3049, .inl (I .int, 40, .inl f3063)), (q3050, .inl (I .int, 40, .inl f3064)), (q3051, .inl (I .int, 40, .inl f3065)), (q3052, .inl (I .int, 200, .inl f3066)), (q3053, .inl (I .int, 200, .inl f3067)), (q3054, .inl (I .int, 200, .inl f3068)), (q3055, .inl (I .int, 200, .inl f3069)), (q3056, .inl (I .int, 200, .inl f3070)), (q3057, .inl (I .int, 200, .inl f3071))] (po_3072_Code_setBy I q3048 q3049 q3050 q3051 q3052 q3053 q3054 q3055 q3056 q3057 p3058 p3059 p3060 p3061 p3062 f3063 f3064 f3065 f3066 f3067 f3068 f3069 f3070 f3071) gN := by
  refine Ct_of hl0 (by decide) (Nat.le_of_ble_eq_true rfl) ?_
  refine G_iload_n 2 d_cX0_setBy_0 rfl ?_
  refine G_if_eq 26 d_cX0_setBy_1 (by decide +kernel) (fun hc3073 => ?_) (fun hc3073 => ?_)
  · have r3074 : p3059.toInt = 0 := gj_eq hc3073 (show Int32.toInt 0 = 0 by decide)
    have bp3059' : gB p3059 0 0 := ⟨by omega, by omega⟩
    refine G_aload_n 0 d_cX0_setBy_26 rfl ?_
    refine G_getf 0 4 d_cX0_setBy_27 rfl (gk_X0 D I) (Nat.le_of_ble_eq_true rfl) w_1_163 rfl ?_
    refine G_iload_n 1 d_cX0_setBy_30 rfl ?_
    refine G_iald 5 0 d_cX0_setBy_31 rfl rfl (gB_in bp3058 (by decide) (by decide)) (G_nam fun z3075 hz3075 => ?_)
    have bz3075 : gB z3075 (-2147483648) 2147483647 := gB_any z3075
    exact G_iret d_cX0_setBy_32 rfl (Nat.le_of_ble_eq_true rfl) (Nat.le_of_ble_eq_true rfl) (Or.inl ⟨z3075, rfl, rfl, r3074, bz3075⟩)
  · have r3076 : p3059.toInt ≠ 0 := gj_neq hc3073 (show Int32.toInt 0 = 0 by decide)
    have bp3059' : gB p3059 1 1 := ⟨by omega, by omega⟩
    refine G_aload_n 0 d_cX0_setBy_4 rfl ?_
    refine G_getf 0 3 d_cX0_setBy_5 rfl (gk_X0 D I) (Nat.le_of_ble_eq_true rfl) w_1_159 rfl ?_
    refine G_iload_n 1 d_cX0_setBy_8 rfl ?_
    refine G_iald 4 0 d_cX0_setBy_9 rfl rfl (gB_in bp3058 (by decide) (by decide)) (G_nam fun z3077 hz3077 => ?_)
    have bz3077 : gB z3077 (-2147483648) 2147483647 := gB_any z3077
    refine G_bipush 18 d_cX0_setBy_10 (by decide +kernel) ?_
    refine G_icmp_ne 24 d_cX0_setBy_12 (by decide +kernel) (fun hc3078 => ?_) (fun hc3078 => ?_)
    · have r3079 : z3077.toInt ≠ 18 := gj_neq hc3078 (show Int32.toInt 18 = 18 by decide)
      refine G_iconst (-1) d_cX0_setBy_24 (by decide +kernel) ?_
      exact G_iret d_cX0_setBy_25 rfl (Nat.le_of_ble_eq_true rfl) (Nat.le_of_ble_eq_true rfl) (Or.inr (Or.inl ⟨z3077, rfl, rfl, r3076, r3079, bz3077⟩))
    · have r3080 : z3077.toInt = 18 := gj_eq hc3078 (show Int32.toInt 18 = 18 by decide)
      have bz3077' : gB z3077 18 18 := ⟨by omega, by omega⟩
      refine G_aload_n 0 d_cX0_setBy_15 rfl ?_
      refine G_getf 0 8 d_cX0_setBy_16 rfl (gk_X0 D I) (Nat.le_of_ble_eq_true rfl) w_1_183 rfl ?_
      refine G_iload_n 1 d_cX0_setBy_19 rfl ?_
      refine G_iald 9 0 d_cX0_setBy_20 rfl rfl (gB_in bp3058 (by decide) (by decide)) (G_nam fun z3081 hz3081 => ?_)
      have bz3081 : gB z3081 (-2147483648) 2147483647 := gB_any z3081
      refine G_goto 25 d_cX0_setBy_21 (by decide +kernel) ?_
      exact G_iret d_cX0_setBy_25 rfl (Nat.le_of_ble_eq_true rfl) (Nat.le_of_ble_eq_true rfl) (Or.inr (Or.inr (⟨z3081, z3077, rfl, rfl, r3076, r3080, bz3081, bz3077'⟩)))
abbrev ky_3106_Code_firstUse : gKey := (cX0_firstUse, 3, yX0_firstUse.cls, (some FieldType.int), [], yX0_firstUse.name, fun _ _ => True)
abbrev po_3106_Code_firstUse (I : FieldType → ClassId) (q3082 : Nat) (q3083 : Nat) (q3084 : Nat) (q3085 : Nat) (q3086 : Nat) (q3087 : Nat) (q3088 : Nat) (q3089 : Nat) (q3090 : Nat) (q3091 : Nat) (p3092 : Int32) (p3093 : Int32) (p3094 : Int32) (p3095 : Int32) (p3096 : Int32) (f3097 : Nat → Int32) (f3098 : Nat → Int32) (f3099 : Nat → Int32) (f3100 : Nat → Int32) (f3101 : Nat → Int32) (f3102 : Nat → Int32) (f3103 : Nat → Int32) (f3104 : Nat → Int32) (f3105 : Nat → Int32) : Option Value → va_W → Prop := fun r w => (∃ (z3109 : Int32), r = some (.int z3109) ∧ w = [(q3082, .inr (5, [.ref q3083, .ref q3084, .ref q3085, .ref q3086, .ref q3087, .ref q3088, .ref q3089, .ref q3090, .ref q3091, .int p3094, .int p3095, .int p3096])), (q3083, .inl (I .int, 40, .inl f3097)), (q3084, .inl (I .int, 40, .inl f3098)), (q3085, .inl (I .int, 40, .inl f3099)), (q3086, .inl (I .int, 200, .inl f3100)), (q3087, .inl (I .int, 200, .inl f3101)), (q3088, .inl (I .int, 200, .inl f3102)), (q3089, .inl (I .int, 200, .inl f3103)), (q3090, .inl (I .int, 200, .inl f3104)), (q3091, .inl (I .int, 200, .inl f3105))] ∧ p3093.toInt = 0 ∧ gB z3109 (-2147483648) 2147483647) ∨ (∃ (z3111 : Int32), r = some (.int (-1)) ∧ w = [(q3082, .inr (5, [.ref q3083, .ref q3084, .ref q3085, .ref q3086, .ref q3087, .ref q3088, .ref q3089, .ref q3090, .ref q3091, .int p3094, .int p3095, .int p3096])), (q3083, .inl (I .int, 40, .inl f3097)), (q3084, .inl (I .int, 40, .inl f3098)), (q3085, .inl (I .int, 40, .inl f3099)), (q3086, .inl (I .int, 200, .inl f3100)), (q3087, .inl (I .int, 200, .inl f3101)), (q3088, .inl (I .int, 200, .inl f3102)), (q3089, .inl (I .int, 200, .inl f3103)), (q3090, .inl (I .int, 200, .inl f3104)), (q3091, .inl (I .int, 200, .inl f3105))] ∧ p3093.toInt ≠ 0 ∧ z3111.toInt ≠ 17 ∧ gB z3111 (-2147483648) 2147483647) ∨ (∃ (z3115 : Int32) (z3111 : Int32), r = some (.int z3115) ∧ w = [(q3082, .inr (5, [.ref q3083, .ref q3084, .ref q3085, .ref q3086, .ref q3087, .ref q3088, .ref q3089, .ref q3090, .ref q3091, .int p3094, .int p3095, .int p3096])), (q3083, .inl (I .int, 40, .inl f3097)), (q3084, .inl (I .int, 40, .inl f3098)), (q3085, .inl (I .int, 40, .inl f3099)), (q3086, .inl (I .int, 200, .inl f3100)), (q3087, .inl (I .int, 200, .inl f3101)), (q3088, .inl (I .int, 200, .inl f3102)), (q3089, .inl (I .int, 200, .inl f3103)), (q3090, .inl (I .int, 200, .inl f3104)), (q3091, .inl (I .int, 200, .inl f3105))] ∧ p3093.toInt ≠ 0 ∧ z3111.toInt = 17 ∧ gB z3115 (-2147483648) 2147483647 ∧ gB z3111 17 17)
set_option maxRecDepth 100000 in
set_option maxHeartbeats 4000000 in
theorem ct_3106_Code_firstUse (l : Launch) (hl0 : l.stackTraces = false) (D : va_G) (I : FieldType → ClassId) (q3082 : Nat) (q3083 : Nat) (q3084 : Nat) (q3085 : Nat) (q3086 : Nat) (q3087 : Nat) (q3088 : Nat) (q3089 : Nat) (q3090 : Nat) (q3091 : Nat) (p3092 : Int32) (p3093 : Int32) (p3094 : Int32) (p3095 : Int32) (p3096 : Int32) (f3097 : Nat → Int32) (f3098 : Nat → Int32) (f3099 : Nat → Int32) (f3100 : Nat → Int32) (f3101 : Nat → Int32) (f3102 : Nat → Int32) (f3103 : Nat → Int32) (f3104 : Nat → Int32) (f3105 : Nat → Int32) (bp3092 : gB p3092 0 199) (bp3093 : gB p3093 0 1) (bp3094 : gB p3094 0 40) (bp3095 : gB p3095 0 200) (bp3096 : gB p3096 0 1) (bf3097 : gF f3097 0 200) : Ct (gV D I) l yX0_firstUse cX0_firstUse 3 (some FieldType.int) 0 0 0 0 [.ref q3082, .int p3092, .int p3093] [(q3082, .inr (5, [.ref q3083, .ref q3084, .ref q3085, .ref q3086, .ref q3087, .ref q3088, .ref q3089, .ref q3090, .ref q3091, .int p3094, .int p3095, .int p3096])), (q3083, .inl (I .int, 40, .inl f3097)), (q3084, .inl (I .int, 40, .inl f3098)), (q3085, .inl (I .int, 40, .inl f3099)), (q3086, .inl (I .int, 200, .inl f3100)), (q3087, .inl (I .int, 200, .inl f3101)), (q3088, .inl (I .int, 200, .inl f3102)), (q3089, .inl (I .int, 200, .inl f3103)), (q3090, .inl (I .int, 200, .inl f3104)), (q3091, .inl (I .int, 200, .inl f3105))] (po_3106_Code_firstUse I q3082 q3083 q3084 q3085 q3086 q3087 q3088 q3089 q3090 q3091 p3092 p3093 p3094 p3095 p3096 f3097 f3098 f3099 f3100 f3101 f3102 f3103 f3104 f3105) gN := by
  refine Ct_of hl0 (by decide) (Nat.le_of_ble_eq_true rfl) ?_
  refine G_iload_n 2 d_cX0_firstUse_0 rfl ?_
  refine G_if_eq 26 d_cX0_firstUse_1 (by decide +kernel) (fun hc3107 => ?_) (fun hc3107 => ?_)
  · have r3108 : p3093.toInt = 0 := gj_eq hc3107 (show Int32.toInt 0 = 0 by decide)
    have bp3093' : gB p3093 0 0 := ⟨by omega, by omega⟩
    refine G_aload_n 0 d_cX0_firstUse_26 rfl ?_
    refine G_getf 0 5 d_cX0_firstUse_27 rfl (gk_X0 D I) (Nat.le_of_ble_eq_true rfl) w_1_168 rfl ?_
    refine G_iload_n 1 d_cX0_firstUse_30 rfl ?_
    refine G_iald 6 0 d_cX0_firstUse_31 rfl rfl (gB_in bp3092 (by decide) (by decide)) (G_nam fun z3109 hz3109 => ?_)
    have bz3109 : gB z3109 (-2147483648) 2147483647 := gB_any z3109
    exact G_iret d_cX0_firstUse_32 rfl (Nat.le_of_ble_eq_true rfl) (Nat.le_of_ble_eq_true rfl) (Or.inl ⟨z3109, rfl, rfl, r3108, bz3109⟩)
  · have r3110 : p3093.toInt ≠ 0 := gj_neq hc3107 (show Int32.toInt 0 = 0 by decide)
    have bp3093' : gB p3093 1 1 := ⟨by omega, by omega⟩
    refine G_aload_n 0 d_cX0_firstUse_4 rfl ?_
    refine G_getf 0 3 d_cX0_firstUse_5 rfl (gk_X0 D I) (Nat.le_of_ble_eq_true rfl) w_1_159 rfl ?_
    refine G_iload_n 1 d_cX0_firstUse_8 rfl ?_
    refine G_iald 4 0 d_cX0_firstUse_9 rfl rfl (gB_in bp3092 (by decide) (by decide)) (G_nam fun z3111 hz3111 => ?_)
    have bz3111 : gB z3111 (-2147483648) 2147483647 := gB_any z3111
    refine G_bipush 17 d_cX0_firstUse_10 (by decide +kernel) ?_
    refine G_icmp_ne 24 d_cX0_firstUse_12 (by decide +kernel) (fun hc3112 => ?_) (fun hc3112 => ?_)
    · have r3113 : z3111.toInt ≠ 17 := gj_neq hc3112 (show Int32.toInt 17 = 17 by decide)
      refine G_iconst (-1) d_cX0_firstUse_24 (by decide +kernel) ?_
      exact G_iret d_cX0_firstUse_25 rfl (Nat.le_of_ble_eq_true rfl) (Nat.le_of_ble_eq_true rfl) (Or.inr (Or.inl ⟨z3111, rfl, rfl, r3110, r3113, bz3111⟩))
    · have r3114 : z3111.toInt = 17 := gj_eq hc3112 (show Int32.toInt 17 = 17 by decide)
      have bz3111' : gB z3111 17 17 := ⟨by omega, by omega⟩
      refine G_aload_n 0 d_cX0_firstUse_15 rfl ?_
      refine G_getf 0 8 d_cX0_firstUse_16 rfl (gk_X0 D I) (Nat.le_of_ble_eq_true rfl) w_1_183 rfl ?_
      refine G_iload_n 1 d_cX0_firstUse_19 rfl ?_
      refine G_iald 9 0 d_cX0_firstUse_20 rfl rfl (gB_in bp3092 (by decide) (by decide)) (G_nam fun z3115 hz3115 => ?_)
      have bz3115 : gB z3115 (-2147483648) 2147483647 := gB_any z3115
      refine G_goto 25 d_cX0_firstUse_21 (by decide +kernel) ?_
      exact G_iret d_cX0_firstUse_25 rfl (Nat.le_of_ble_eq_true rfl) (Nat.le_of_ble_eq_true rfl) (Or.inr (Or.inr (⟨z3115, z3111, rfl, rfl, r3110, r3114, bz3115, bz3111'⟩)))
abbrev ky_3140_Code_secondUse : gKey := (cX0_secondUse, 3, yX0_secondUse.cls, (some FieldType.int), [], yX0_secondUse.name, fun _ _ => True)
abbrev po_3140_Code_secondUse (I : FieldType → ClassId) (q3116 : Nat) (q3117 : Nat) (q3118 : Nat) (q3119 : Nat) (q3120 : Nat) (q3121 : Nat) (q3122 : Nat) (q3123 : Nat) (q3124 : Nat) (q3125 : Nat) (p3126 : Int32) (p3127 : Int32) (p3128 : Int32) (p3129 : Int32) (p3130 : Int32) (f3131 : Nat → Int32) (f3132 : Nat → Int32) (f3133 : Nat → Int32) (f3134 : Nat → Int32) (f3135 : Nat → Int32) (f3136 : Nat → Int32) (f3137 : Nat → Int32) (f3138 : Nat → Int32) (f3139 : Nat → Int32) : Option Value → va_W → Prop := fun r w => (∃ (z3143 : Int32), r = some (.int z3143) ∧ w = [(q3116, .inr (5, [.ref q3117, .ref q3118, .ref q3119, .ref q3120, .ref q3121, .ref q3122, .ref q3123, .ref q3124, .ref q3125, .int p3128, .int p3129, .int p3130])), (q3117, .inl (I .int, 40, .inl f3131)), (q3118, .inl (I .int, 40, .inl f3132)), (q3119, .inl (I .int, 40, .inl f3133)), (q3120, .inl (I .int, 200, .inl f3134)), (q3121, .inl (I .int, 200, .inl f3135)), (q3122, .inl (I .int, 200, .inl f3136)), (q3123, .inl (I .int, 200, .inl f3137)), (q3124, .inl (I .int, 200, .inl f3138)), (q3125, .inl (I .int, 200, .inl f3139))] ∧ p3127.toInt = 0 ∧ gB z3143 (-2147483648) 2147483647) ∨ (r = some (.int (-1)) ∧ w = [(q3116, .inr (5, [.ref q3117, .ref q3118, .ref q3119, .ref q3120, .ref q3121, .ref q3122, .ref q3123, .ref q3124, .ref q3125, .int p3128, .int p3129, .int p3130])), (q3117, .inl (I .int, 40, .inl f3131)), (q3118, .inl (I .int, 40, .inl f3132)), (q3119, .inl (I .int, 40, .inl f3133)), (q3120, .inl (I .int, 200, .inl f3134)), (q3121, .inl (I .int, 200, .inl f3135)), (q3122, .inl (I .int, 200, .inl f3136)), (q3123, .inl (I .int, 200, .inl f3137)), (q3124, .inl (I .int, 200, .inl f3138)), (q3125, .inl (I .int, 200, .inl f3139))] ∧ p3127.toInt ≠ 0)
set_option maxRecDepth 100000 in
set_option maxHeartbeats 4000000 in
theorem ct_3140_Code_secondUse (l : Launch) (hl0 : l.stackTraces = false) (D : va_G) (I : FieldType → ClassId) (q3116 : Nat) (q3117 : Nat) (q3118 : Nat) (q3119 : Nat) (q3120 : Nat) (q3121 : Nat) (q3122 : Nat) (q3123 : Nat) (q3124 : Nat) (q3125 : Nat) (p3126 : Int32) (p3127 : Int32) (p3128 : Int32) (p3129 : Int32) (p3130 : Int32) (f3131 : Nat → Int32) (f3132 : Nat → Int32) (f3133 : Nat → Int32) (f3134 : Nat → Int32) (f3135 : Nat → Int32) (f3136 : Nat → Int32) (f3137 : Nat → Int32) (f3138 : Nat → Int32) (f3139 : Nat → Int32) (bp3126 : gB p3126 0 199) (bp3127 : gB p3127 0 1) (bp3128 : gB p3128 0 40) (bp3129 : gB p3129 0 200) (bp3130 : gB p3130 0 1) (bf3131 : gF f3131 0 200) : Ct (gV D I) l yX0_secondUse cX0_secondUse 3 (some FieldType.int) 0 0 0 0 [.ref q3116, .int p3126, .int p3127] [(q3116, .inr (5, [.ref q3117, .ref q3118, .ref q3119, .ref q3120, .ref q3121, .ref q3122, .ref q3123, .ref q3124, .ref q3125, .int p3128, .int p3129, .int p3130])), (q3117, .inl (I .int, 40, .inl f3131)), (q3118, .inl (I .int, 40, .inl f3132)), (q3119, .inl (I .int, 40, .inl f3133)), (q3120, .inl (I .int, 200, .inl f3134)), (q3121, .inl (I .int, 200, .inl f3135)), (q3122, .inl (I .int, 200, .inl f3136)), (q3123, .inl (I .int, 200, .inl f3137)), (q3124, .inl (I .int, 200, .inl f3138)), (q3125, .inl (I .int, 200, .inl f3139))] (po_3140_Code_secondUse I q3116 q3117 q3118 q3119 q3120 q3121 q3122 q3123 q3124 q3125 p3126 p3127 p3128 p3129 p3130 f3131 f3132 f3133 f3134 f3135 f3136 f3137 f3138 f3139) gN := by
  refine Ct_of hl0 (by decide) (Nat.le_of_ble_eq_true rfl) ?_
  refine G_iload_n 2 d_cX0_secondUse_0 rfl ?_
  refine G_if_eq 8 d_cX0_secondUse_1 (by decide +kernel) (fun hc3141 => ?_) (fun hc3141 => ?_)
  · have r3142 : p3127.toInt = 0 := gj_eq hc3141 (show Int32.toInt 0 = 0 by decide)
    have bp3127' : gB p3127 0 0 := ⟨by omega, by omega⟩
    refine G_aload_n 0 d_cX0_secondUse_8 rfl ?_
    refine G_getf 0 7 d_cX0_secondUse_9 rfl (gk_X0 D I) (Nat.le_of_ble_eq_true rfl) w_1_178 rfl ?_
    refine G_iload_n 1 d_cX0_secondUse_12 rfl ?_
    refine G_iald 8 0 d_cX0_secondUse_13 rfl rfl (gB_in bp3126 (by decide) (by decide)) (G_nam fun z3143 hz3143 => ?_)
    have bz3143 : gB z3143 (-2147483648) 2147483647 := gB_any z3143
    exact G_iret d_cX0_secondUse_14 rfl (Nat.le_of_ble_eq_true rfl) (Nat.le_of_ble_eq_true rfl) (Or.inl ⟨z3143, rfl, rfl, r3142, bz3143⟩)
  · have r3144 : p3127.toInt ≠ 0 := gj_neq hc3141 (show Int32.toInt 0 = 0 by decide)
    have bp3127' : gB p3127 1 1 := ⟨by omega, by omega⟩
    refine G_iconst (-1) d_cX0_secondUse_4 (by decide +kernel) ?_
    refine G_goto 14 d_cX0_secondUse_5 (by decide +kernel) ?_
    exact G_iret d_cX0_secondUse_14 rfl (Nat.le_of_ble_eq_true rfl) (Nat.le_of_ble_eq_true rfl) (Or.inr (⟨rfl, rfl, r3144⟩))
abbrev ky_3168_Code_drop : gKey := (cX0_drop, 4, yX0_drop.cls, none, [], yX0_drop.name, fun _ _ => True)
abbrev po_3168_Code_drop (I : FieldType → ClassId) (q3145 : Nat) (q3146 : Nat) (q3147 : Nat) (q3148 : Nat) (q3149 : Nat) (q3150 : Nat) (q3151 : Nat) (q3152 : Nat) (q3153 : Nat) (q3154 : Nat) (p3155 : Int32) (p3156 : Int32) (p3157 : Int32) (p3158 : Int32) (f3159 : Nat → Int32) (f3160 : Nat → Int32) (f3161 : Nat → Int32) (f3162 : Nat → Int32) (f3163 : Nat → Int32) (f3164 : Nat → Int32) (f3165 : Nat → Int32) (f3166 : Nat → Int32) (f3167 : Nat → Int32) : Option Value → va_W → Prop := fun r w => ∃ (o3274 : Int32) (f3275 : Nat → Int32) (f3276 : Nat → Int32) (f3277 : Nat → Int32) (f3278 : Nat → Int32) (f3279 : Nat → Int32) (f3280 : Nat → Int32) (f3281 : Nat → Int32), r = none ∧ w = [(q3145, .inr (5, [.ref q3146, .ref q3147, .ref q3148, .ref q3149, .ref q3150, .ref q3151, .ref q3152, .ref q3153, .ref q3154, .int p3156, .int o3274, .int p3158])), (q3146, .inl (I .int, 40, .inl f3275)), (q3147, .inl (I .int, 40, .inl f3160)), (q3148, .inl (I .int, 40, .inl f3161)), (q3149, .inl (I .int, 200, .inl f3276)), (q3150, .inl (I .int, 200, .inl f3277)), (q3151, .inl (I .int, 200, .inl f3278)), (q3152, .inl (I .int, 200, .inl f3279)), (q3153, .inl (I .int, 200, .inl f3280)), (q3154, .inl (I .int, 200, .inl f3281))] ∧ gB o3274 (-1) 200 ∧ gF f3275 0 200 ∧ gF f3276 (-2147483648) 2147483647 ∧ gF f3277 (-2147483648) 2147483647 ∧ gF f3278 (-2147483648) 2147483647 ∧ gF f3279 (-2147483648) 2147483647 ∧ gF f3280 (-2147483648) 2147483647 ∧ gF f3281 (-2147483648) 2147483647
set_option maxRecDepth 100000 in
set_option maxHeartbeats 4000000 in
theorem ct_3168_Code_drop (l : Launch) (hl0 : l.stackTraces = false) (D : va_G) (I : FieldType → ClassId) (q3145 : Nat) (q3146 : Nat) (q3147 : Nat) (q3148 : Nat) (q3149 : Nat) (q3150 : Nat) (q3151 : Nat) (q3152 : Nat) (q3153 : Nat) (q3154 : Nat) (p3155 : Int32) (p3156 : Int32) (p3157 : Int32) (p3158 : Int32) (f3159 : Nat → Int32) (f3160 : Nat → Int32) (f3161 : Nat → Int32) (f3162 : Nat → Int32) (f3163 : Nat → Int32) (f3164 : Nat → Int32) (f3165 : Nat → Int32) (f3166 : Nat → Int32) (f3167 : Nat → Int32) (bp3155 : gB p3155 0 199) (bp3156 : gB p3156 0 40) (bp3157 : gB p3157 0 200) (bp3158 : gB p3158 0 1) (bf3159 : gF f3159 0 200) : Ct (gV D I) l yX0_drop cX0_drop 4 none 1 18 0 0 [.ref q3145, .int p3155] [(q3145, .inr (5, [.ref q3146, .ref q3147, .ref q3148, .ref q3149, .ref q3150, .ref q3151, .ref q3152, .ref q3153, .ref q3154, .int p3156, .int p3157, .int p3158])), (q3146, .inl (I .int, 40, .inl f3159)), (q3147, .inl (I .int, 40, .inl f3160)), (q3148, .inl (I .int, 40, .inl f3161)), (q3149, .inl (I .int, 200, .inl f3162)), (q3150, .inl (I .int, 200, .inl f3163)), (q3151, .inl (I .int, 200, .inl f3164)), (q3152, .inl (I .int, 200, .inl f3165)), (q3153, .inl (I .int, 200, .inl f3166)), (q3154, .inl (I .int, 200, .inl f3167))] (po_3168_Code_drop I q3145 q3146 q3147 q3148 q3149 q3150 q3151 q3152 q3153 q3154 p3155 p3156 p3157 p3158 f3159 f3160 f3161 f3162 f3163 f3164 f3165 f3166 f3167) gN := by
  refine Ct_of hl0 (by decide) (Nat.le_of_ble_eq_true rfl) ?_
  refine G_aload_n 0 d_cX0_drop_0 rfl ?_
  refine G_getf 0 10 d_cX0_drop_1 rfl (gk_X0 D I) (Nat.le_of_ble_eq_true rfl) w_1_197 rfl ?_
  refine G_iload_n 1 d_cX0_drop_4 rfl ?_
  refine G_isub d_cX0_drop_5 (G_nam fun z3169 hz3169 => ?_)
  have ez3169 : z3169.toInt = p3157.toInt - p3155.toInt := by rw [gI_sub hz3169 bp3157 bp3155 (by decide) (by decide)]
  have bz3169 : gB z3169 (-199) 200 := gB_sub (gI_sub hz3169 bp3157 bp3155 (by decide) (by decide)) bp3157 bp3155 (by decide) (by decide)
  refine G_iconst 1 d_cX0_drop_6 (by decide +kernel) ?_
  refine G_isub d_cX0_drop_7 (G_nam fun z3170 hz3170 => ?_)
  have ez3170 : z3170.toInt = z3169.toInt - 1 := by rw [gI_sub hz3170 bz3169 (gBl (show Int32.toInt 1 = 1 by decide)) (by decide) (by decide), show Int32.toInt 1 = 1 from by decide]
  have bz3170 : gB z3170 (-200) 199 := gB_sub (gI_sub hz3170 bz3169 (gBl (show Int32.toInt 1 = 1 by decide)) (by decide) (by decide)) bz3169 (gBl (show Int32.toInt 1 = 1 by decide)) (by decide) (by decide)
  refine G_istore_n (L' := [(2, .int z3170), (0, .ref q3145), (1, .int p3155)]) d_cX0_drop_8 (Nat.le_of_ble_eq_true rfl) rfl ?_
  refine G_iload_n 2 d_cX0_drop_9 rfl ?_
  refine G_if_lt 17 d_cX0_drop_10 (by decide +kernel) (fun hc => absurd (show False by have := gj_lt hc (show Int32.toInt 0 = 0 by decide); omega) not_false) (fun _ => ?_)
  refine G_iload_n 0 d_cX0_drop_13 rfl ?_
  refine G_if_ge 18 d_cX0_drop_14 (by decide +kernel) (fun hc3171 => ?_) (fun hc3171 => ?_)
  · have r3172 : 0 ≤ z3170.toInt := gj_leL hc3171 (show Int32.toInt 0 = 0 by decide)
    have bz3170' : gB z3170 0 199 := ⟨by omega, by omega⟩
    refine G_aload_n 1 d_cX0_drop_18 rfl ?_
    refine G_getf 0 3 d_cX0_drop_19 rfl (gk_X0 D I) (Nat.le_of_ble_eq_true rfl) w_1_159 rfl ?_
    refine G_iload_n 2 d_cX0_drop_22 rfl ?_
    refine G_iconst 1 d_cX0_drop_23 (by decide +kernel) ?_
    refine G_iadd d_cX0_drop_24 (G_nam fun z3173 hz3173 => ?_)
    have ez3173 : z3173.toInt = p3155.toInt + 1 := by rw [gI_add hz3173 bp3155 (gBl (show Int32.toInt 1 = 1 by decide)) (by decide) (by decide), show Int32.toInt 1 = 1 from by decide]
    have bz3173 : gB z3173 1 200 := gB_add (gI_add hz3173 bp3155 (gBl (show Int32.toInt 1 = 1 by decide)) (by decide) (by decide)) bp3155 (gBl (show Int32.toInt 1 = 1 by decide)) (by decide) (by decide)
    refine G_aload_n 1 d_cX0_drop_25 rfl ?_
    refine G_getf 0 3 d_cX0_drop_26 rfl (gk_X0 D I) (Nat.le_of_ble_eq_true rfl) w_1_159 rfl ?_
    refine G_iload_n 2 d_cX0_drop_29 rfl ?_
    refine G_iload_n 0 d_cX0_drop_30 rfl ?_
    refine G_copyi 4 4 0 0 d_cX0_drop_31 w_5_111 w_5_113 w_5_112 w_1_34 rfl rfl rfl rfl (by omega) (by omega) (by omega) (by omega) (by omega) (Nat.le_of_ble_eq_true rfl) (Nat.le_of_ble_eq_true rfl) (fun f3174 hf3174 => ?_)
    refine G_ws (ws' := [(q3145, .inr (5, [.ref q3146, .ref q3147, .ref q3148, .ref q3149, .ref q3150, .ref q3151, .ref q3152, .ref q3153, .ref q3154, .int p3156, .int p3157, .int p3158])), (q3146, .inl (I .int, 40, .inl f3159)), (q3147, .inl (I .int, 40, .inl f3160)), (q3148, .inl (I .int, 40, .inl f3161)), (q3149, .inl (I .int, 200, .inl f3174)), (q3150, .inl (I .int, 200, .inl f3163)), (q3151, .inl (I .int, 200, .inl f3164)), (q3152, .inl (I .int, 200, .inl f3165)), (q3153, .inl (I .int, 200, .inl f3166)), (q3154, .inl (I .int, 200, .inl f3167))]) (cs' := 0) (sl' := 0) rfl rfl rfl ?_
    refine G_aload_n 1 d_cX0_drop_34 rfl ?_
    refine G_getf 0 4 d_cX0_drop_35 rfl (gk_X0 D I) (Nat.le_of_ble_eq_true rfl) w_1_163 rfl ?_
    refine G_iload_n 2 d_cX0_drop_38 rfl ?_
    refine G_iconst 1 d_cX0_drop_39 (by decide +kernel) ?_
    refine G_iadd d_cX0_drop_40 (G_nam fun z3175 hz3175 => ?_)
    have ez3175 : z3175.toInt = p3155.toInt + 1 := by rw [gI_add hz3175 bp3155 (gBl (show Int32.toInt 1 = 1 by decide)) (by decide) (by decide), show Int32.toInt 1 = 1 from by decide]
    have bz3175 : gB z3175 1 200 := gB_add (gI_add hz3175 bp3155 (gBl (show Int32.toInt 1 = 1 by decide)) (by decide) (by decide)) bp3155 (gBl (show Int32.toInt 1 = 1 by decide)) (by decide) (by decide)
    refine G_aload_n 1 d_cX0_drop_41 rfl ?_
    refine G_getf 0 4 d_cX0_drop_42 rfl (gk_X0 D I) (Nat.le_of_ble_eq_true rfl) w_1_163 rfl ?_
    refine G_iload_n 2 d_cX0_drop_45 rfl ?_
    refine G_iload_n 0 d_cX0_drop_46 rfl ?_
    refine G_copyi 5 5 0 0 d_cX0_drop_47 w_5_111 w_5_113 w_5_112 w_1_34 rfl rfl rfl rfl (by omega) (by omega) (by omega) (by omega) (by omega) (Nat.le_of_ble_eq_true rfl) (Nat.le_of_ble_eq_true rfl) (fun f3176 hf3176 => ?_)
    refine G_ws (ws' := [(q3145, .inr (5, [.ref q3146, .ref q3147, .ref q3148, .ref q3149, .ref q3150, .ref q3151, .ref q3152, .ref q3153, .ref q3154, .int p3156, .int p3157, .int p3158])), (q3146, .inl (I .int, 40, .inl f3159)), (q3147, .inl (I .int, 40, .inl f3160)), (q3148, .inl (I .int, 40, .inl f3161)), (q3149, .inl (I .int, 200, .inl f3174)), (q3150, .inl (I .int, 200, .inl f3176)), (q3151, .inl (I .int, 200, .inl f3164)), (q3152, .inl (I .int, 200, .inl f3165)), (q3153, .inl (I .int, 200, .inl f3166)), (q3154, .inl (I .int, 200, .inl f3167))]) (cs' := 0) (sl' := 0) rfl rfl rfl ?_
    refine G_aload_n 1 d_cX0_drop_50 rfl ?_
    refine G_getf 0 5 d_cX0_drop_51 rfl (gk_X0 D I) (Nat.le_of_ble_eq_true rfl) w_1_168 rfl ?_
    refine G_iload_n 2 d_cX0_drop_54 rfl ?_
    refine G_iconst 1 d_cX0_drop_55 (by decide +kernel) ?_
    refine G_iadd d_cX0_drop_56 (G_nam fun z3177 hz3177 => ?_)
    have ez3177 : z3177.toInt = p3155.toInt + 1 := by rw [gI_add hz3177 bp3155 (gBl (show Int32.toInt 1 = 1 by decide)) (by decide) (by decide), show Int32.toInt 1 = 1 from by decide]
    have bz3177 : gB z3177 1 200 := gB_add (gI_add hz3177 bp3155 (gBl (show Int32.toInt 1 = 1 by decide)) (by decide) (by decide)) bp3155 (gBl (show Int32.toInt 1 = 1 by decide)) (by decide) (by decide)
    refine G_aload_n 1 d_cX0_drop_57 rfl ?_
    refine G_getf 0 5 d_cX0_drop_58 rfl (gk_X0 D I) (Nat.le_of_ble_eq_true rfl) w_1_168 rfl ?_
    refine G_iload_n 2 d_cX0_drop_61 rfl ?_
    refine G_iload_n 0 d_cX0_drop_62 rfl ?_
    refine G_copyi 6 6 0 0 d_cX0_drop_63 w_5_111 w_5_113 w_5_112 w_1_34 rfl rfl rfl rfl (by omega) (by omega) (by omega) (by omega) (by omega) (Nat.le_of_ble_eq_true rfl) (Nat.le_of_ble_eq_true rfl) (fun f3178 hf3178 => ?_)
    refine G_ws (ws' := [(q3145, .inr (5, [.ref q3146, .ref q3147, .ref q3148, .ref q3149, .ref q3150, .ref q3151, .ref q3152, .ref q3153, .ref q3154, .int p3156, .int p3157, .int p3158])), (q3146, .inl (I .int, 40, .inl f3159)), (q3147, .inl (I .int, 40, .inl f3160)), (q3148, .inl (I .int, 40, .inl f3161)), (q3149, .inl (I .int, 200, .inl f3174)), (q3150, .inl (I .int, 200, .inl f3176)), (q3151, .inl (I .int, 200, .inl f3178)), (q3152, .inl (I .int, 200, .inl f3165)), (q3153, .inl (I .int, 200, .inl f3166)), (q3154, .inl (I .int, 200, .inl f3167))]) (cs' := 0) (sl' := 0) rfl rfl rfl ?_
    refine G_aload_n 1 d_cX0_drop_66 rfl ?_
    refine G_getf 0 6 d_cX0_drop_67 rfl (gk_X0 D I) (Nat.le_of_ble_eq_true rfl) w_1_174 rfl ?_
    refine G_iload_n 2 d_cX0_drop_70 rfl ?_
    refine G_iconst 1 d_cX0_drop_71 (by decide +kernel) ?_
    refine G_iadd d_cX0_drop_72 (G_nam fun z3179 hz3179 => ?_)
    have ez3179 : z3179.toInt = p3155.toInt + 1 := by rw [gI_add hz3179 bp3155 (gBl (show Int32.toInt 1 = 1 by decide)) (by decide) (by decide), show Int32.toInt 1 = 1 from by decide]
    have bz3179 : gB z3179 1 200 := gB_add (gI_add hz3179 bp3155 (gBl (show Int32.toInt 1 = 1 by decide)) (by decide) (by decide)) bp3155 (gBl (show Int32.toInt 1 = 1 by decide)) (by decide) (by decide)
    refine G_aload_n 1 d_cX0_drop_73 rfl ?_
    refine G_getf 0 6 d_cX0_drop_74 rfl (gk_X0 D I) (Nat.le_of_ble_eq_true rfl) w_1_174 rfl ?_
    refine G_iload_n 2 d_cX0_drop_77 rfl ?_
    refine G_iload_n 0 d_cX0_drop_78 rfl ?_
    refine G_copyi 7 7 0 0 d_cX0_drop_79 w_5_111 w_5_113 w_5_112 w_1_34 rfl rfl rfl rfl (by omega) (by omega) (by omega) (by omega) (by omega) (Nat.le_of_ble_eq_true rfl) (Nat.le_of_ble_eq_true rfl) (fun f3180 hf3180 => ?_)
    refine G_ws (ws' := [(q3145, .inr (5, [.ref q3146, .ref q3147, .ref q3148, .ref q3149, .ref q3150, .ref q3151, .ref q3152, .ref q3153, .ref q3154, .int p3156, .int p3157, .int p3158])), (q3146, .inl (I .int, 40, .inl f3159)), (q3147, .inl (I .int, 40, .inl f3160)), (q3148, .inl (I .int, 40, .inl f3161)), (q3149, .inl (I .int, 200, .inl f3174)), (q3150, .inl (I .int, 200, .inl f3176)), (q3151, .inl (I .int, 200, .inl f3178)), (q3152, .inl (I .int, 200, .inl f3180)), (q3153, .inl (I .int, 200, .inl f3166)), (q3154, .inl (I .int, 200, .inl f3167))]) (cs' := 0) (sl' := 0) rfl rfl rfl ?_
    refine G_aload_n 1 d_cX0_drop_82 rfl ?_
    refine G_getf 0 7 d_cX0_drop_83 rfl (gk_X0 D I) (Nat.le_of_ble_eq_true rfl) w_1_178 rfl ?_
    refine G_iload_n 2 d_cX0_drop_86 rfl ?_
    refine G_iconst 1 d_cX0_drop_87 (by decide +kernel) ?_
    refine G_iadd d_cX0_drop_88 (G_nam fun z3181 hz3181 => ?_)
    have ez3181 : z3181.toInt = p3155.toInt + 1 := by rw [gI_add hz3181 bp3155 (gBl (show Int32.toInt 1 = 1 by decide)) (by decide) (by decide), show Int32.toInt 1 = 1 from by decide]
    have bz3181 : gB z3181 1 200 := gB_add (gI_add hz3181 bp3155 (gBl (show Int32.toInt 1 = 1 by decide)) (by decide) (by decide)) bp3155 (gBl (show Int32.toInt 1 = 1 by decide)) (by decide) (by decide)
    refine G_aload_n 1 d_cX0_drop_89 rfl ?_
    refine G_getf 0 7 d_cX0_drop_90 rfl (gk_X0 D I) (Nat.le_of_ble_eq_true rfl) w_1_178 rfl ?_
    refine G_iload_n 2 d_cX0_drop_93 rfl ?_
    refine G_iload_n 0 d_cX0_drop_94 rfl ?_
    refine G_copyi 8 8 0 0 d_cX0_drop_95 w_5_111 w_5_113 w_5_112 w_1_34 rfl rfl rfl rfl (by omega) (by omega) (by omega) (by omega) (by omega) (Nat.le_of_ble_eq_true rfl) (Nat.le_of_ble_eq_true rfl) (fun f3182 hf3182 => ?_)
    refine G_ws (ws' := [(q3145, .inr (5, [.ref q3146, .ref q3147, .ref q3148, .ref q3149, .ref q3150, .ref q3151, .ref q3152, .ref q3153, .ref q3154, .int p3156, .int p3157, .int p3158])), (q3146, .inl (I .int, 40, .inl f3159)), (q3147, .inl (I .int, 40, .inl f3160)), (q3148, .inl (I .int, 40, .inl f3161)), (q3149, .inl (I .int, 200, .inl f3174)), (q3150, .inl (I .int, 200, .inl f3176)), (q3151, .inl (I .int, 200, .inl f3178)), (q3152, .inl (I .int, 200, .inl f3180)), (q3153, .inl (I .int, 200, .inl f3182)), (q3154, .inl (I .int, 200, .inl f3167))]) (cs' := 0) (sl' := 0) rfl rfl rfl ?_
    refine G_aload_n 1 d_cX0_drop_98 rfl ?_
    refine G_getf 0 8 d_cX0_drop_99 rfl (gk_X0 D I) (Nat.le_of_ble_eq_true rfl) w_1_183 rfl ?_
    refine G_iload_n 2 d_cX0_drop_102 rfl ?_
    refine G_iconst 1 d_cX0_drop_103 (by decide +kernel) ?_
    refine G_iadd d_cX0_drop_104 (G_nam fun z3183 hz3183 => ?_)
    have ez3183 : z3183.toInt = p3155.toInt + 1 := by rw [gI_add hz3183 bp3155 (gBl (show Int32.toInt 1 = 1 by decide)) (by decide) (by decide), show Int32.toInt 1 = 1 from by decide]
    have bz3183 : gB z3183 1 200 := gB_add (gI_add hz3183 bp3155 (gBl (show Int32.toInt 1 = 1 by decide)) (by decide) (by decide)) bp3155 (gBl (show Int32.toInt 1 = 1 by decide)) (by decide) (by decide)
    refine G_aload_n 1 d_cX0_drop_105 rfl ?_
    refine G_getf 0 8 d_cX0_drop_106 rfl (gk_X0 D I) (Nat.le_of_ble_eq_true rfl) w_1_183 rfl ?_
    refine G_iload_n 2 d_cX0_drop_109 rfl ?_
    refine G_iload_n 0 d_cX0_drop_110 rfl ?_
    refine G_copyi 9 9 0 0 d_cX0_drop_111 w_5_111 w_5_113 w_5_112 w_1_34 rfl rfl rfl rfl (by omega) (by omega) (by omega) (by omega) (by omega) (Nat.le_of_ble_eq_true rfl) (Nat.le_of_ble_eq_true rfl) (fun f3184 hf3184 => ?_)
    refine G_ws (ws' := [(q3145, .inr (5, [.ref q3146, .ref q3147, .ref q3148, .ref q3149, .ref q3150, .ref q3151, .ref q3152, .ref q3153, .ref q3154, .int p3156, .int p3157, .int p3158])), (q3146, .inl (I .int, 40, .inl f3159)), (q3147, .inl (I .int, 40, .inl f3160)), (q3148, .inl (I .int, 40, .inl f3161)), (q3149, .inl (I .int, 200, .inl f3174)), (q3150, .inl (I .int, 200, .inl f3176)), (q3151, .inl (I .int, 200, .inl f3178)), (q3152, .inl (I .int, 200, .inl f3180)), (q3153, .inl (I .int, 200, .inl f3182)), (q3154, .inl (I .int, 200, .inl f3184))]) (cs' := 0) (sl' := 0) rfl rfl rfl ?_
    refine G_aload_n 1 d_cX0_drop_114 rfl ?_
    refine G_dup d_cX0_drop_115 rfl ?_
    refine G_getf 0 10 d_cX0_drop_116 rfl (gk_X0 D I) (Nat.le_of_ble_eq_true rfl) w_1_197 rfl ?_
    refine G_iconst 1 d_cX0_drop_119 (by decide +kernel) ?_
    refine G_isub d_cX0_drop_120 (G_nam fun z3185 hz3185 => ?_)
    have ez3185 : z3185.toInt = p3157.toInt - 1 := by rw [gI_sub hz3185 bp3157 (gBl (show Int32.toInt 1 = 1 by decide)) (by decide) (by decide), show Int32.toInt 1 = 1 from by decide]
    have bz3185 : gB z3185 (-1) 199 := gB_sub (gI_sub hz3185 bp3157 (gBl (show Int32.toInt 1 = 1 by decide)) (by decide) (by decide)) bp3157 (gBl (show Int32.toInt 1 = 1 by decide)) (by decide) (by decide)
    refine G_putf (ws' := [(q3145, .inr (5, [.ref q3146, .ref q3147, .ref q3148, .ref q3149, .ref q3150, .ref q3151, .ref q3152, .ref q3153, .ref q3154, .int p3156, .int z3185, .int p3158])), (q3146, .inl (I .int, 40, .inl f3159)), (q3147, .inl (I .int, 40, .inl f3160)), (q3148, .inl (I .int, 40, .inl f3161)), (q3149, .inl (I .int, 200, .inl f3174)), (q3150, .inl (I .int, 200, .inl f3176)), (q3151, .inl (I .int, 200, .inl f3178)), (q3152, .inl (I .int, 200, .inl f3180)), (q3153, .inl (I .int, 200, .inl f3182)), (q3154, .inl (I .int, 200, .inl f3184))]) 0 10 d_cX0_drop_121 rfl (gk_X0 D I) (Nat.le_of_ble_eq_true rfl) w_1_197 rfl rfl rfl (Nat.le_of_ble_eq_true rfl) rfl ?_
    refine G_iconst 0 d_cX0_drop_124 (by decide +kernel) ?_
    refine G_istore_n (L' := [(3, .int 0), (2, .int z3170), (0, .ref q3145), (1, .int p3155)]) d_cX0_drop_125 (Nat.le_of_ble_eq_true rfl) rfl ?_
    have hlp126_3261 : ∀ (n126_3261 : Nat) (g3260 : Int32) (f3261 : Nat → Int32), gB g3260 0 40 → gF f3261 0 200 → ((41 : Int) - g3260.toInt).toNat < n126_3261 → G (gV D I) l (gRm 1 18 0 0) (gM (gV D I) (po_3168_Code_drop I q3145 q3146 q3147 q3148 q3149 q3150 q3151 q3152 q3153 q3154 p3155 p3156 p3157 p3158 f3159 f3160 f3161 f3162 f3163 f3164 f3165 f3166 f3167) gN 0 0) ky_3168_Code_drop 126 [(3, .int g3260), (2, .int z3170), (0, .ref q3145), (1, .int p3155)] [] [(q3145, .inr (5, [.ref q3146, .ref q3147, .ref q3148, .ref q3149, .ref q3150, .ref q3151, .ref q3152, .ref q3153, .ref q3154, .int p3156, .int z3185, .int p3158])), (q3146, .inl (I .int, 40, .inl f3261)), (q3147, .inl (I .int, 40, .inl f3160)), (q3148, .inl (I .int, 40, .inl f3161)), (q3149, .inl (I .int, 200, .inl f3174)), (q3150, .inl (I .int, 200, .inl f3176)), (q3151, .inl (I .int, 200, .inl f3178)), (q3152, .inl (I .int, 200, .inl f3180)), (q3153, .inl (I .int, 200, .inl f3182)), (q3154, .inl (I .int, 200, .inl f3184))] 0 0 := by
      intro n126_3261
      induction n126_3261 with
      | zero => intro g3260 f3261 bg3260 bf3261 hm126_3261; exact absurd hm126_3261 (Nat.not_lt_zero _)
      | succ n126_3261 ih126_3261 =>
        intro g3260 f3261 bg3260 bf3261 hm126_3261
        refine G_iload_n 0 d_cX0_drop_126 rfl ?_
        refine G_aload_n 2 d_cX0_drop_127 rfl ?_
        refine G_getf 0 9 d_cX0_drop_128 rfl (gk_X0 D I) (Nat.le_of_ble_eq_true rfl) w_1_187 rfl ?_
        refine G_icmp_ge 160 d_cX0_drop_131 (by decide +kernel) (fun hc3262 => ?_) (fun hc3262 => ?_)
        · have r3263 : p3156.toInt ≤ g3260.toInt := gC_le hc3262
          exact G_vret d_cX0_drop_160 rfl (Nat.le_of_ble_eq_true rfl) (Nat.le_of_ble_eq_true rfl) ⟨z3185, f3261, f3174, f3176, f3178, f3180, f3182, f3184, rfl, rfl, (gB_w bz3185 (by decide) (by decide)), bf3261, (gF_any f3174), (gF_any f3176), (gF_any f3178), (gF_any f3180), (gF_any f3182), (gF_any f3184)⟩
        · have r3264 : g3260.toInt < p3156.toInt := gC_nle hc3262
          have bg3260' : gB g3260 0 39 := ⟨by omega, by omega⟩
          have bp3156' : gB p3156 1 40 := ⟨by omega, by omega⟩
          refine G_aload_n 2 d_cX0_drop_134 rfl ?_
          refine G_getf 0 0 d_cX0_drop_135 rfl (gk_X0 D I) (Nat.le_of_ble_eq_true rfl) w_1_142 rfl ?_
          refine G_iload_n 0 d_cX0_drop_138 rfl ?_
          refine G_iald 1 0 d_cX0_drop_139 rfl rfl (gB_in bg3260' (by decide) (by decide)) (G_nam fun z3265 hz3265 => ?_)
          have bz3265 : gB z3265 0 200 := by rw [hz3265]; exact bf3261 _
          refine G_iload_n 3 d_cX0_drop_140 rfl ?_
          refine G_icmp_le 154 d_cX0_drop_141 (by decide +kernel) (fun hc3266 => ?_) (fun hc3266 => ?_)
          · have r3267 : z3265.toInt ≤ p3155.toInt := gC_le hc3266
            have bz3265' : gB z3265 0 199 := ⟨by omega, by omega⟩
            obtain ⟨z3268, hz3268⟩ : ∃ z : Int32, z = g3260 + Int32.ofInt 1 := ⟨_, rfl⟩
            have ez3268 : z3268.toInt = g3260.toInt + 1 := gI_inc hz3268 (by decide) bg3260' (by decide) (by decide)
            have bz3268 : gB z3268 1 40 := ⟨by omega, by omega⟩
            refine G_iinc (L' := [(3, .int z3268), (2, .int z3170), (0, .ref q3145), (1, .int p3155)]) z3268 0 d_cX0_drop_154 rfl hz3268.symm (Nat.le_of_ble_eq_true rfl) rfl ?_
            refine G_goto 126 d_cX0_drop_157 (by decide +kernel) ?_
            exact ih126_3261 z3268 f3261 (gB_w bz3268 (by decide) (by decide)) bf3261 (by omega)
          · have r3269 : p3155.toInt < z3265.toInt := gC_nle hc3266
            have bz3265' : gB z3265 1 200 := ⟨by omega, by omega⟩
            refine G_aload_n 2 d_cX0_drop_144 rfl ?_
            refine G_getf 0 0 d_cX0_drop_145 rfl (gk_X0 D I) (Nat.le_of_ble_eq_true rfl) w_1_142 rfl ?_
            refine G_iload_n 0 d_cX0_drop_148 rfl ?_
            refine G_dup2_11 d_cX0_drop_149 rfl rfl ?_
            refine G_iald 1 0 d_cX0_drop_150 rfl rfl (gB_in bg3260' (by decide) (by decide)) (G_eqi (y := z3265) hz3265.symm ?_)
            refine G_iconst 1 d_cX0_drop_151 (by decide +kernel) ?_
            refine G_isub d_cX0_drop_152 (G_nam fun z3270 hz3270 => ?_)
            have ez3270 : z3270.toInt = z3265.toInt - 1 := by rw [gI_sub hz3270 bz3265' (gBl (show Int32.toInt 1 = 1 by decide)) (by decide) (by decide), show Int32.toInt 1 = 1 from by decide]
            have bz3270 : gB z3270 0 199 := gB_sub (gI_sub hz3270 bz3265' (gBl (show Int32.toInt 1 = 1 by decide)) (by decide) (by decide)) bz3265' (gBl (show Int32.toInt 1 = 1 by decide)) (by decide) (by decide)
            refine G_iastN 1 0 d_cX0_drop_153 rfl rfl (gB_in bg3260' (by decide) (by decide)) (fun f3271 hf3271 => ?_)
            refine G_ws (ws' := [(q3145, .inr (5, [.ref q3146, .ref q3147, .ref q3148, .ref q3149, .ref q3150, .ref q3151, .ref q3152, .ref q3153, .ref q3154, .int p3156, .int z3185, .int p3158])), (q3146, .inl (I .int, 40, .inl f3271)), (q3147, .inl (I .int, 40, .inl f3160)), (q3148, .inl (I .int, 40, .inl f3161)), (q3149, .inl (I .int, 200, .inl f3174)), (q3150, .inl (I .int, 200, .inl f3176)), (q3151, .inl (I .int, 200, .inl f3178)), (q3152, .inl (I .int, 200, .inl f3180)), (q3153, .inl (I .int, 200, .inl f3182)), (q3154, .inl (I .int, 200, .inl f3184))]) (cs' := 0) (sl' := 0) rfl rfl rfl ?_
            have bf3271 : gF f3271 0 200 := gF_upd hf3271 bf3261 (gB_w bz3270 (by decide) (by decide))
            obtain ⟨z3272, hz3272⟩ : ∃ z : Int32, z = g3260 + Int32.ofInt 1 := ⟨_, rfl⟩
            have ez3272 : z3272.toInt = g3260.toInt + 1 := gI_inc hz3272 (by decide) bg3260' (by decide) (by decide)
            have bz3272 : gB z3272 1 40 := ⟨by omega, by omega⟩
            refine G_iinc (L' := [(3, .int z3272), (2, .int z3170), (0, .ref q3145), (1, .int p3155)]) z3272 0 d_cX0_drop_154 rfl hz3272.symm (Nat.le_of_ble_eq_true rfl) rfl ?_
            refine G_goto 126 d_cX0_drop_157 (by decide +kernel) ?_
            exact ih126_3261 z3272 f3271 (gB_w bz3272 (by decide) (by decide)) bf3271 (by omega)
    exact hlp126_3261 (((41 : Int) - 0).toNat + 1) 0 f3159 (gB_w (gBl (show Int32.toInt 0 = 0 by decide)) (by decide) (by decide)) bf3159 (Nat.lt_succ_self _)
  · have r3273 : z3170.toInt < 0 := gj_nleL hc3171 (show Int32.toInt 0 = 0 by decide)
    have bz3170' : gB z3170 (-200) (-1) := ⟨by omega, by omega⟩
    exact G_vret d_cX0_drop_17 rfl (Nat.le_of_ble_eq_true rfl) (Nat.le_of_ble_eq_true rfl) ⟨p3157, f3159, f3162, f3163, f3164, f3165, f3166, f3167, rfl, rfl, (gB_w bp3157 (by decide) (by decide)), bf3159, (gF_any f3162), (gF_any f3163), (gF_any f3164), (gF_any f3165), (gF_any f3166), (gF_any f3167)⟩
