abbrev ky_2201_Code_renameSlots : gKey := (cX0_renameSlots, 3, yX0_renameSlots.cls, none, [], yX0_renameSlots.name, fun _ _ => True)
abbrev po_2201_Code_renameSlots (I : FieldType → ClassId) (q2177 : Nat) (q2178 : Nat) (q2179 : Nat) (q2180 : Nat) (q2181 : Nat) (q2182 : Nat) (q2183 : Nat) (q2184 : Nat) (q2185 : Nat) (q2186 : Nat) (q2187 : Nat) (p2188 : Int32) (p2189 : Int32) (p2190 : Int32) (f2191 : Nat → Int32) (f2192 : Nat → Int32) (f2193 : Nat → Int32) (f2194 : Nat → Int32) (f2195 : Nat → Int32) (f2196 : Nat → Int32) (f2197 : Nat → Int32) (f2198 : Nat → Int32) (f2199 : Nat → Int32) (f2200 : Nat → Int32) : Option Value → va_W → Prop := fun r w => ∃ (f2480 : Nat → Int32), r = none ∧ w = [(q2177, .inr (5, [.ref q2179, .ref q2180, .ref q2181, .ref q2182, .ref q2183, .ref q2184, .ref q2185, .ref q2186, .ref q2187, .int p2188, .int p2189, .int p2190])), (q2178, .inl (I .int, 720, .inl f2191)), (q2179, .inl (I .int, 40, .inl f2192)), (q2180, .inl (I .int, 40, .inl f2193)), (q2181, .inl (I .int, 40, .inl f2194)), (q2182, .inl (I .int, 200, .inl f2195)), (q2183, .inl (I .int, 200, .inl f2196)), (q2184, .inl (I .int, 200, .inl f2197)), (q2185, .inl (I .int, 200, .inl f2198)), (q2186, .inl (I .int, 200, .inl f2199)), (q2187, .inl (I .int, 200, .inl f2480))] ∧ gF f2480 (-2147483648) 2147483647
set_option maxRecDepth 100000 in
set_option maxHeartbeats 4000000 in
theorem ct_2201_Code_renameSlots (l : Launch) (hl0 : l.stackTraces = false) (D : va_G) (I : FieldType → ClassId) (q2177 : Nat) (q2178 : Nat) (q2179 : Nat) (q2180 : Nat) (q2181 : Nat) (q2182 : Nat) (q2183 : Nat) (q2184 : Nat) (q2185 : Nat) (q2186 : Nat) (q2187 : Nat) (p2188 : Int32) (p2189 : Int32) (p2190 : Int32) (f2191 : Nat → Int32) (f2192 : Nat → Int32) (f2193 : Nat → Int32) (f2194 : Nat → Int32) (f2195 : Nat → Int32) (f2196 : Nat → Int32) (f2197 : Nat → Int32) (f2198 : Nat → Int32) (f2199 : Nat → Int32) (f2200 : Nat → Int32) (bp2188 : gB p2188 0 40) (bp2189 : gB p2189 0 200) (bp2190 : gB p2190 0 1) (bf2192 : gF f2192 0 200) (bf2195 : gF f2195 0 21) : Ct (gV D I) l yX0_renameSlots cX0_renameSlots 3 none 1 21 0 0 [.ref q2177, .ref q2178] [(q2177, .inr (5, [.ref q2179, .ref q2180, .ref q2181, .ref q2182, .ref q2183, .ref q2184, .ref q2185, .ref q2186, .ref q2187, .int p2188, .int p2189, .int p2190])), (q2178, .inl (I .int, 720, .inl f2191)), (q2179, .inl (I .int, 40, .inl f2192)), (q2180, .inl (I .int, 40, .inl f2193)), (q2181, .inl (I .int, 40, .inl f2194)), (q2182, .inl (I .int, 200, .inl f2195)), (q2183, .inl (I .int, 200, .inl f2196)), (q2184, .inl (I .int, 200, .inl f2197)), (q2185, .inl (I .int, 200, .inl f2198)), (q2186, .inl (I .int, 200, .inl f2199)), (q2187, .inl (I .int, 200, .inl f2200))] (po_2201_Code_renameSlots I q2177 q2178 q2179 q2180 q2181 q2182 q2183 q2184 q2185 q2186 q2187 p2188 p2189 p2190 f2191 f2192 f2193 f2194 f2195 f2196 f2197 f2198 f2199 f2200) gN := by
  refine Ct_of hl0 (by decide) (Nat.le_of_ble_eq_true rfl) ?_
  refine G_iconst 0 d_cX0_renameSlots_0 (by decide +kernel) ?_
  refine G_istore_n (L' := [(2, .int 0), (0, .ref q2177), (1, .ref q2178)]) d_cX0_renameSlots_1 (Nat.le_of_ble_eq_true rfl) rfl ?_
  have hlp2_2440 : ∀ (n2_2440 : Nat) (g2439 : Int32) (f2440 : Nat → Int32), gB g2439 0 200 → gF f2440 (-2147483648) 2147483647 → ((201 : Int) - g2439.toInt).toNat < n2_2440 → G (gV D I) l (gRm 1 21 0 0) (gM (gV D I) (po_2201_Code_renameSlots I q2177 q2178 q2179 q2180 q2181 q2182 q2183 q2184 q2185 q2186 q2187 p2188 p2189 p2190 f2191 f2192 f2193 f2194 f2195 f2196 f2197 f2198 f2199 f2200) gN 0 0) ky_2201_Code_renameSlots 2 [(2, .int g2439), (0, .ref q2177), (1, .ref q2178)] [] [(q2177, .inr (5, [.ref q2179, .ref q2180, .ref q2181, .ref q2182, .ref q2183, .ref q2184, .ref q2185, .ref q2186, .ref q2187, .int p2188, .int p2189, .int p2190])), (q2178, .inl (I .int, 720, .inl f2191)), (q2179, .inl (I .int, 40, .inl f2192)), (q2180, .inl (I .int, 40, .inl f2193)), (q2181, .inl (I .int, 40, .inl f2194)), (q2182, .inl (I .int, 200, .inl f2195)), (q2183, .inl (I .int, 200, .inl f2196)), (q2184, .inl (I .int, 200, .inl f2197)), (q2185, .inl (I .int, 200, .inl f2198)), (q2186, .inl (I .int, 200, .inl f2199)), (q2187, .inl (I .int, 200, .inl f2440))] 0 0 := by
    intro n2_2440
    induction n2_2440 with
    | zero => intro g2439 f2440 bg2439 bf2440 hm2_2440; exact absurd hm2_2440 (Nat.not_lt_zero _)
    | succ n2_2440 ih2_2440 =>
      intro g2439 f2440 bg2439 bf2440 hm2_2440
      refine G_iload_n 0 d_cX0_renameSlots_2 rfl ?_
      refine G_aload_n 1 d_cX0_renameSlots_3 rfl ?_
      refine G_getf 0 10 d_cX0_renameSlots_4 rfl (gk_X0 D I) (Nat.le_of_ble_eq_true rfl) w_1_197 rfl ?_
      refine G_icmp_ge 54 d_cX0_renameSlots_7 (by decide +kernel) (fun hc2441 => ?_) (fun hc2441 => ?_)
      · have r2442 : p2189.toInt ≤ g2439.toInt := gC_le hc2441
        exact G_vret d_cX0_renameSlots_54 rfl (Nat.le_of_ble_eq_true rfl) (Nat.le_of_ble_eq_true rfl) ⟨f2440, rfl, rfl, bf2440⟩
      · have r2443 : g2439.toInt < p2189.toInt := gC_nle hc2441
        have bg2439' : gB g2439 0 199 := ⟨by omega, by omega⟩
        have bp2189' : gB p2189 1 200 := ⟨by omega, by omega⟩
        refine G_aload_n 1 d_cX0_renameSlots_10 rfl ?_
        refine G_getf 0 3 d_cX0_renameSlots_11 rfl (gk_X0 D I) (Nat.le_of_ble_eq_true rfl) w_1_159 rfl ?_
        refine G_iload_n 0 d_cX0_renameSlots_14 rfl ?_
        refine G_iald 5 0 d_cX0_renameSlots_15 rfl rfl (gB_in bg2439' (by decide) (by decide)) (G_nam fun z2444 hz2444 => ?_)
        have bz2444 : gB z2444 0 21 := by rw [hz2444]; exact bf2195 _
        refine G_bipush 17 d_cX0_renameSlots_16 (by decide +kernel) ?_
        refine G_icmp_eq 32 d_cX0_renameSlots_18 (by decide +kernel) (fun hc2445 => ?_) (fun hc2445 => ?_)
        · have r2446 : z2444.toInt = 17 := gj_eq hc2445 (show Int32.toInt 17 = 17 by decide)
          have bz2444' : gB z2444 17 17 := ⟨by omega, by omega⟩
          refine G_aload_n 1 d_cX0_renameSlots_32 rfl ?_
          refine G_getf 0 8 d_cX0_renameSlots_33 rfl (gk_X0 D I) (Nat.le_of_ble_eq_true rfl) w_1_183 rfl ?_
          refine G_iload_n 0 d_cX0_renameSlots_36 rfl ?_
          refine G_aload_n 2 d_cX0_renameSlots_37 rfl ?_
          refine G_aload_n 1 d_cX0_renameSlots_38 rfl ?_
          refine G_getf 0 8 d_cX0_renameSlots_39 rfl (gk_X0 D I) (Nat.le_of_ble_eq_true rfl) w_1_183 rfl ?_
          refine G_iload_n 0 d_cX0_renameSlots_42 rfl ?_
          refine G_iald 10 0 d_cX0_renameSlots_43 rfl rfl (gB_in bg2439' (by decide) (by decide)) (G_nam fun z2447 hz2447 => ?_)
          have bz2447 : gB z2447 (-2147483648) 2147483647 := by rw [hz2447]; exact bf2440 _
          refine G_callS (As := [.ref q2178, .int z2447]) (wr := [(q2177, .inr (5, [.ref q2179, .ref q2180, .ref q2181, .ref q2182, .ref q2183, .ref q2184, .ref q2185, .ref q2186, .ref q2187, .int p2188, .int p2189, .int p2190])), (q2179, .inl (I .int, 40, .inl f2192)), (q2180, .inl (I .int, 40, .inl f2193)), (q2181, .inl (I .int, 40, .inl f2194)), (q2182, .inl (I .int, 200, .inl f2195)), (q2183, .inl (I .int, 200, .inl f2196)), (q2184, .inl (I .int, 200, .inl f2197)), (q2185, .inl (I .int, 200, .inl f2198)), (q2186, .inl (I .int, 200, .inl f2199)), (q2187, .inl (I .int, 200, .inl f2440))]) (gV_ok D I) (ct_962_Code_nameIn l hl0 D I q2178 z2447 f2191 ) d_cX0_renameSlots_44 ⟨w_5_154, w_1_5, w_5_156, by decide, rfl, (Nat.le_of_ble_eq_true rfl), (Nat.le_of_ble_eq_true rfl)⟩ w_5_155 [1] [0, 2, 3, 4, 5, 6, 7, 8, 9, 10] rfl rfl rfl rfl (by decide) (Nat.le_of_ble_eq_true rfl) (Nat.le_of_ble_eq_true rfl) (Nat.le_of_ble_eq_true rfl) (fun r w hp => ?_) (fun _ _ _ z => z.elim)
          rcases hp with ⟨rfl, rfl, r2448⟩ | ⟨rfl, rfl, r2449, r2450⟩ | ⟨z2451, rfl, rfl, r2452, r2453, r2454⟩
          · have bz2447' : gB z2447 (-2147483648) (-1) := ⟨by omega, by omega⟩
            change G _ _ _ _ _ _ _ (.int z2447 :: _) _ _ _
            refine G_ws (ws' := [(q2177, .inr (5, [.ref q2179, .ref q2180, .ref q2181, .ref q2182, .ref q2183, .ref q2184, .ref q2185, .ref q2186, .ref q2187, .int p2188, .int p2189, .int p2190])), (q2179, .inl (I .int, 40, .inl f2192)), (q2180, .inl (I .int, 40, .inl f2193)), (q2181, .inl (I .int, 40, .inl f2194)), (q2182, .inl (I .int, 200, .inl f2195)), (q2183, .inl (I .int, 200, .inl f2196)), (q2184, .inl (I .int, 200, .inl f2197)), (q2185, .inl (I .int, 200, .inl f2198)), (q2186, .inl (I .int, 200, .inl f2199)), (q2187, .inl (I .int, 200, .inl f2440)), (q2178, .inl (I .int, 720, .inl f2191))]) (cs' := 0) (sl' := 0) rfl rfl rfl ?_
            refine G_iastN 9 0 d_cX0_renameSlots_47 rfl rfl (gB_in bg2439' (by decide) (by decide)) (fun f2455 hf2455 => ?_)
            refine G_ws (ws' := [(q2177, .inr (5, [.ref q2179, .ref q2180, .ref q2181, .ref q2182, .ref q2183, .ref q2184, .ref q2185, .ref q2186, .ref q2187, .int p2188, .int p2189, .int p2190])), (q2179, .inl (I .int, 40, .inl f2192)), (q2180, .inl (I .int, 40, .inl f2193)), (q2181, .inl (I .int, 40, .inl f2194)), (q2182, .inl (I .int, 200, .inl f2195)), (q2183, .inl (I .int, 200, .inl f2196)), (q2184, .inl (I .int, 200, .inl f2197)), (q2185, .inl (I .int, 200, .inl f2198)), (q2186, .inl (I .int, 200, .inl f2199)), (q2187, .inl (I .int, 200, .inl f2455)), (q2178, .inl (I .int, 720, .inl f2191))]) (cs' := 0) (sl' := 0) rfl rfl rfl ?_
            obtain ⟨z2456, hz2456⟩ : ∃ z : Int32, z = g2439 + Int32.ofInt 1 := ⟨_, rfl⟩
            have ez2456 : z2456.toInt = g2439.toInt + 1 := gI_inc hz2456 (by decide) bg2439' (by decide) (by decide)
            have bz2456 : gB z2456 1 200 := ⟨by omega, by omega⟩
            refine G_iinc (L' := [(2, .int z2456), (0, .ref q2177), (1, .ref q2178)]) z2456 0 d_cX0_renameSlots_48 rfl hz2456.symm (Nat.le_of_ble_eq_true rfl) rfl ?_
            refine G_goto 2 d_cX0_renameSlots_51 (by decide +kernel) ?_
            refine G_sub (ws' := [(q2177, .inr (5, [.ref q2179, .ref q2180, .ref q2181, .ref q2182, .ref q2183, .ref q2184, .ref q2185, .ref q2186, .ref q2187, .int p2188, .int p2189, .int p2190])), (q2178, .inl (I .int, 720, .inl f2191)), (q2179, .inl (I .int, 40, .inl f2192)), (q2180, .inl (I .int, 40, .inl f2193)), (q2181, .inl (I .int, 40, .inl f2194)), (q2182, .inl (I .int, 200, .inl f2195)), (q2183, .inl (I .int, 200, .inl f2196)), (q2184, .inl (I .int, 200, .inl f2197)), (q2185, .inl (I .int, 200, .inl f2198)), (q2186, .inl (I .int, 200, .inl f2199)), (q2187, .inl (I .int, 200, .inl f2455))]) [0, 10, 1, 2, 3, 4, 5, 6, 7, 8, 9] rfl rfl ?_
            exact ih2_2440 z2456 f2455 (gB_w bz2456 (by decide) (by decide)) (gF_any f2455) (by omega)
          · have bz2447' : gB z2447 0 2147483647 := ⟨by omega, by omega⟩
            have bz2447'' : gB z2447 720 2147483647 := ⟨by omega, by omega⟩
            change G _ _ _ _ _ _ _ (.int z2447 :: _) _ _ _
            refine G_ws (ws' := [(q2177, .inr (5, [.ref q2179, .ref q2180, .ref q2181, .ref q2182, .ref q2183, .ref q2184, .ref q2185, .ref q2186, .ref q2187, .int p2188, .int p2189, .int p2190])), (q2179, .inl (I .int, 40, .inl f2192)), (q2180, .inl (I .int, 40, .inl f2193)), (q2181, .inl (I .int, 40, .inl f2194)), (q2182, .inl (I .int, 200, .inl f2195)), (q2183, .inl (I .int, 200, .inl f2196)), (q2184, .inl (I .int, 200, .inl f2197)), (q2185, .inl (I .int, 200, .inl f2198)), (q2186, .inl (I .int, 200, .inl f2199)), (q2187, .inl (I .int, 200, .inl f2440)), (q2178, .inl (I .int, 720, .inl f2191))]) (cs' := 0) (sl' := 0) rfl rfl rfl ?_
            refine G_iastN 9 0 d_cX0_renameSlots_47 rfl rfl (gB_in bg2439' (by decide) (by decide)) (fun f2457 hf2457 => ?_)
            refine G_ws (ws' := [(q2177, .inr (5, [.ref q2179, .ref q2180, .ref q2181, .ref q2182, .ref q2183, .ref q2184, .ref q2185, .ref q2186, .ref q2187, .int p2188, .int p2189, .int p2190])), (q2179, .inl (I .int, 40, .inl f2192)), (q2180, .inl (I .int, 40, .inl f2193)), (q2181, .inl (I .int, 40, .inl f2194)), (q2182, .inl (I .int, 200, .inl f2195)), (q2183, .inl (I .int, 200, .inl f2196)), (q2184, .inl (I .int, 200, .inl f2197)), (q2185, .inl (I .int, 200, .inl f2198)), (q2186, .inl (I .int, 200, .inl f2199)), (q2187, .inl (I .int, 200, .inl f2457)), (q2178, .inl (I .int, 720, .inl f2191))]) (cs' := 0) (sl' := 0) rfl rfl rfl ?_
            obtain ⟨z2458, hz2458⟩ : ∃ z : Int32, z = g2439 + Int32.ofInt 1 := ⟨_, rfl⟩
            have ez2458 : z2458.toInt = g2439.toInt + 1 := gI_inc hz2458 (by decide) bg2439' (by decide) (by decide)
            have bz2458 : gB z2458 1 200 := ⟨by omega, by omega⟩
            refine G_iinc (L' := [(2, .int z2458), (0, .ref q2177), (1, .ref q2178)]) z2458 0 d_cX0_renameSlots_48 rfl hz2458.symm (Nat.le_of_ble_eq_true rfl) rfl ?_
            refine G_goto 2 d_cX0_renameSlots_51 (by decide +kernel) ?_
            refine G_sub (ws' := [(q2177, .inr (5, [.ref q2179, .ref q2180, .ref q2181, .ref q2182, .ref q2183, .ref q2184, .ref q2185, .ref q2186, .ref q2187, .int p2188, .int p2189, .int p2190])), (q2178, .inl (I .int, 720, .inl f2191)), (q2179, .inl (I .int, 40, .inl f2192)), (q2180, .inl (I .int, 40, .inl f2193)), (q2181, .inl (I .int, 40, .inl f2194)), (q2182, .inl (I .int, 200, .inl f2195)), (q2183, .inl (I .int, 200, .inl f2196)), (q2184, .inl (I .int, 200, .inl f2197)), (q2185, .inl (I .int, 200, .inl f2198)), (q2186, .inl (I .int, 200, .inl f2199)), (q2187, .inl (I .int, 200, .inl f2457))]) [0, 10, 1, 2, 3, 4, 5, 6, 7, 8, 9] rfl rfl ?_
            exact ih2_2440 z2458 f2457 (gB_w bz2458 (by decide) (by decide)) (gF_any f2457) (by omega)
          · have bz2447' : gB z2447 0 2147483647 := ⟨by omega, by omega⟩
            have bz2447'' : gB z2447 0 719 := ⟨by omega, by omega⟩
            change G _ _ _ _ _ _ _ (.int z2451 :: _) _ _ _
            refine G_ws (ws' := [(q2177, .inr (5, [.ref q2179, .ref q2180, .ref q2181, .ref q2182, .ref q2183, .ref q2184, .ref q2185, .ref q2186, .ref q2187, .int p2188, .int p2189, .int p2190])), (q2179, .inl (I .int, 40, .inl f2192)), (q2180, .inl (I .int, 40, .inl f2193)), (q2181, .inl (I .int, 40, .inl f2194)), (q2182, .inl (I .int, 200, .inl f2195)), (q2183, .inl (I .int, 200, .inl f2196)), (q2184, .inl (I .int, 200, .inl f2197)), (q2185, .inl (I .int, 200, .inl f2198)), (q2186, .inl (I .int, 200, .inl f2199)), (q2187, .inl (I .int, 200, .inl f2440)), (q2178, .inl (I .int, 720, .inl f2191))]) (cs' := 0) (sl' := 0) rfl rfl rfl ?_
            refine G_iastN 9 0 d_cX0_renameSlots_47 rfl rfl (gB_in bg2439' (by decide) (by decide)) (fun f2459 hf2459 => ?_)
            refine G_ws (ws' := [(q2177, .inr (5, [.ref q2179, .ref q2180, .ref q2181, .ref q2182, .ref q2183, .ref q2184, .ref q2185, .ref q2186, .ref q2187, .int p2188, .int p2189, .int p2190])), (q2179, .inl (I .int, 40, .inl f2192)), (q2180, .inl (I .int, 40, .inl f2193)), (q2181, .inl (I .int, 40, .inl f2194)), (q2182, .inl (I .int, 200, .inl f2195)), (q2183, .inl (I .int, 200, .inl f2196)), (q2184, .inl (I .int, 200, .inl f2197)), (q2185, .inl (I .int, 200, .inl f2198)), (q2186, .inl (I .int, 200, .inl f2199)), (q2187, .inl (I .int, 200, .inl f2459)), (q2178, .inl (I .int, 720, .inl f2191))]) (cs' := 0) (sl' := 0) rfl rfl rfl ?_
            obtain ⟨z2460, hz2460⟩ : ∃ z : Int32, z = g2439 + Int32.ofInt 1 := ⟨_, rfl⟩
            have ez2460 : z2460.toInt = g2439.toInt + 1 := gI_inc hz2460 (by decide) bg2439' (by decide) (by decide)
            have bz2460 : gB z2460 1 200 := ⟨by omega, by omega⟩
            refine G_iinc (L' := [(2, .int z2460), (0, .ref q2177), (1, .ref q2178)]) z2460 0 d_cX0_renameSlots_48 rfl hz2460.symm (Nat.le_of_ble_eq_true rfl) rfl ?_
            refine G_goto 2 d_cX0_renameSlots_51 (by decide +kernel) ?_
            refine G_sub (ws' := [(q2177, .inr (5, [.ref q2179, .ref q2180, .ref q2181, .ref q2182, .ref q2183, .ref q2184, .ref q2185, .ref q2186, .ref q2187, .int p2188, .int p2189, .int p2190])), (q2178, .inl (I .int, 720, .inl f2191)), (q2179, .inl (I .int, 40, .inl f2192)), (q2180, .inl (I .int, 40, .inl f2193)), (q2181, .inl (I .int, 40, .inl f2194)), (q2182, .inl (I .int, 200, .inl f2195)), (q2183, .inl (I .int, 200, .inl f2196)), (q2184, .inl (I .int, 200, .inl f2197)), (q2185, .inl (I .int, 200, .inl f2198)), (q2186, .inl (I .int, 200, .inl f2199)), (q2187, .inl (I .int, 200, .inl f2459))]) [0, 10, 1, 2, 3, 4, 5, 6, 7, 8, 9] rfl rfl ?_
            exact ih2_2440 z2460 f2459 (gB_w bz2460 (by decide) (by decide)) (gF_any f2459) (by omega)
        · have r2461 : z2444.toInt ≠ 17 := gj_neq hc2445 (show Int32.toInt 17 = 17 by decide)
          refine G_aload_n 1 d_cX0_renameSlots_21 rfl ?_
          refine G_getf 0 3 d_cX0_renameSlots_22 rfl (gk_X0 D I) (Nat.le_of_ble_eq_true rfl) w_1_159 rfl ?_
          refine G_iload_n 0 d_cX0_renameSlots_25 rfl ?_
          refine G_iald 5 0 d_cX0_renameSlots_26 rfl rfl (gB_in bg2439' (by decide) (by decide)) (G_eqi (y := z2444) hz2444.symm ?_)
          refine G_bipush 18 d_cX0_renameSlots_27 (by decide +kernel) ?_
          refine G_icmp_ne 48 d_cX0_renameSlots_29 (by decide +kernel) (fun hc2462 => ?_) (fun hc2462 => ?_)
          · have r2463 : z2444.toInt ≠ 18 := gj_neq hc2462 (show Int32.toInt 18 = 18 by decide)
            obtain ⟨z2464, hz2464⟩ : ∃ z : Int32, z = g2439 + Int32.ofInt 1 := ⟨_, rfl⟩
            have ez2464 : z2464.toInt = g2439.toInt + 1 := gI_inc hz2464 (by decide) bg2439' (by decide) (by decide)
            have bz2464 : gB z2464 1 200 := ⟨by omega, by omega⟩
            refine G_iinc (L' := [(2, .int z2464), (0, .ref q2177), (1, .ref q2178)]) z2464 0 d_cX0_renameSlots_48 rfl hz2464.symm (Nat.le_of_ble_eq_true rfl) rfl ?_
            refine G_goto 2 d_cX0_renameSlots_51 (by decide +kernel) ?_
            exact ih2_2440 z2464 f2440 (gB_w bz2464 (by decide) (by decide)) bf2440 (by omega)
          · have r2465 : z2444.toInt = 18 := gj_eq hc2462 (show Int32.toInt 18 = 18 by decide)
            have bz2444' : gB z2444 18 18 := ⟨by omega, by omega⟩
            refine G_aload_n 1 d_cX0_renameSlots_32 rfl ?_
            refine G_getf 0 8 d_cX0_renameSlots_33 rfl (gk_X0 D I) (Nat.le_of_ble_eq_true rfl) w_1_183 rfl ?_
            refine G_iload_n 0 d_cX0_renameSlots_36 rfl ?_
            refine G_aload_n 2 d_cX0_renameSlots_37 rfl ?_
            refine G_aload_n 1 d_cX0_renameSlots_38 rfl ?_
            refine G_getf 0 8 d_cX0_renameSlots_39 rfl (gk_X0 D I) (Nat.le_of_ble_eq_true rfl) w_1_183 rfl ?_
            refine G_iload_n 0 d_cX0_renameSlots_42 rfl ?_
            refine G_iald 10 0 d_cX0_renameSlots_43 rfl rfl (gB_in bg2439' (by decide) (by decide)) (G_nam fun z2466 hz2466 => ?_)
            have bz2466 : gB z2466 (-2147483648) 2147483647 := by rw [hz2466]; exact bf2440 _
            refine G_callS (As := [.ref q2178, .int z2466]) (wr := [(q2177, .inr (5, [.ref q2179, .ref q2180, .ref q2181, .ref q2182, .ref q2183, .ref q2184, .ref q2185, .ref q2186, .ref q2187, .int p2188, .int p2189, .int p2190])), (q2179, .inl (I .int, 40, .inl f2192)), (q2180, .inl (I .int, 40, .inl f2193)), (q2181, .inl (I .int, 40, .inl f2194)), (q2182, .inl (I .int, 200, .inl f2195)), (q2183, .inl (I .int, 200, .inl f2196)), (q2184, .inl (I .int, 200, .inl f2197)), (q2185, .inl (I .int, 200, .inl f2198)), (q2186, .inl (I .int, 200, .inl f2199)), (q2187, .inl (I .int, 200, .inl f2440))]) (gV_ok D I) (ct_962_Code_nameIn l hl0 D I q2178 z2466 f2191 ) d_cX0_renameSlots_44 ⟨w_5_154, w_1_5, w_5_156, by decide, rfl, (Nat.le_of_ble_eq_true rfl), (Nat.le_of_ble_eq_true rfl)⟩ w_5_155 [1] [0, 2, 3, 4, 5, 6, 7, 8, 9, 10] rfl rfl rfl rfl (by decide) (Nat.le_of_ble_eq_true rfl) (Nat.le_of_ble_eq_true rfl) (Nat.le_of_ble_eq_true rfl) (fun r w hp => ?_) (fun _ _ _ z => z.elim)
            rcases hp with ⟨rfl, rfl, r2467⟩ | ⟨rfl, rfl, r2468, r2469⟩ | ⟨z2470, rfl, rfl, r2471, r2472, r2473⟩
            · have bz2466' : gB z2466 (-2147483648) (-1) := ⟨by omega, by omega⟩
              change G _ _ _ _ _ _ _ (.int z2466 :: _) _ _ _
              refine G_ws (ws' := [(q2177, .inr (5, [.ref q2179, .ref q2180, .ref q2181, .ref q2182, .ref q2183, .ref q2184, .ref q2185, .ref q2186, .ref q2187, .int p2188, .int p2189, .int p2190])), (q2179, .inl (I .int, 40, .inl f2192)), (q2180, .inl (I .int, 40, .inl f2193)), (q2181, .inl (I .int, 40, .inl f2194)), (q2182, .inl (I .int, 200, .inl f2195)), (q2183, .inl (I .int, 200, .inl f2196)), (q2184, .inl (I .int, 200, .inl f2197)), (q2185, .inl (I .int, 200, .inl f2198)), (q2186, .inl (I .int, 200, .inl f2199)), (q2187, .inl (I .int, 200, .inl f2440)), (q2178, .inl (I .int, 720, .inl f2191))]) (cs' := 0) (sl' := 0) rfl rfl rfl ?_
              refine G_iastN 9 0 d_cX0_renameSlots_47 rfl rfl (gB_in bg2439' (by decide) (by decide)) (fun f2474 hf2474 => ?_)
              refine G_ws (ws' := [(q2177, .inr (5, [.ref q2179, .ref q2180, .ref q2181, .ref q2182, .ref q2183, .ref q2184, .ref q2185, .ref q2186, .ref q2187, .int p2188, .int p2189, .int p2190])), (q2179, .inl (I .int, 40, .inl f2192)), (q2180, .inl (I .int, 40, .inl f2193)), (q2181, .inl (I .int, 40, .inl f2194)), (q2182, .inl (I .int, 200, .inl f2195)), (q2183, .inl (I .int, 200, .inl f2196)), (q2184, .inl (I .int, 200, .inl f2197)), (q2185, .inl (I .int, 200, .inl f2198)), (q2186, .inl (I .int, 200, .inl f2199)), (q2187, .inl (I .int, 200, .inl f2474)), (q2178, .inl (I .int, 720, .inl f2191))]) (cs' := 0) (sl' := 0) rfl rfl rfl ?_
              obtain ⟨z2475, hz2475⟩ : ∃ z : Int32, z = g2439 + Int32.ofInt 1 := ⟨_, rfl⟩
              have ez2475 : z2475.toInt = g2439.toInt + 1 := gI_inc hz2475 (by decide) bg2439' (by decide) (by decide)
              have bz2475 : gB z2475 1 200 := ⟨by omega, by omega⟩
              refine G_iinc (L' := [(2, .int z2475), (0, .ref q2177), (1, .ref q2178)]) z2475 0 d_cX0_renameSlots_48 rfl hz2475.symm (Nat.le_of_ble_eq_true rfl) rfl ?_
              refine G_goto 2 d_cX0_renameSlots_51 (by decide +kernel) ?_
              refine G_sub (ws' := [(q2177, .inr (5, [.ref q2179, .ref q2180, .ref q2181, .ref q2182, .ref q2183, .ref q2184, .ref q2185, .ref q2186, .ref q2187, .int p2188, .int p2189, .int p2190])), (q2178, .inl (I .int, 720, .inl f2191)), (q2179, .inl (I .int, 40, .inl f2192)), (q2180, .inl (I .int, 40, .inl f2193)), (q2181, .inl (I .int, 40, .inl f2194)), (q2182, .inl (I .int, 200, .inl f2195)), (q2183, .inl (I .int, 200, .inl f2196)), (q2184, .inl (I .int, 200, .inl f2197)), (q2185, .inl (I .int, 200, .inl f2198)), (q2186, .inl (I .int, 200, .inl f2199)), (q2187, .inl (I .int, 200, .inl f2474))]) [0, 10, 1, 2, 3, 4, 5, 6, 7, 8, 9] rfl rfl ?_
              exact ih2_2440 z2475 f2474 (gB_w bz2475 (by decide) (by decide)) (gF_any f2474) (by omega)
            · have bz2466' : gB z2466 0 2147483647 := ⟨by omega, by omega⟩
              have bz2466'' : gB z2466 720 2147483647 := ⟨by omega, by omega⟩
              change G _ _ _ _ _ _ _ (.int z2466 :: _) _ _ _
              refine G_ws (ws' := [(q2177, .inr (5, [.ref q2179, .ref q2180, .ref q2181, .ref q2182, .ref q2183, .ref q2184, .ref q2185, .ref q2186, .ref q2187, .int p2188, .int p2189, .int p2190])), (q2179, .inl (I .int, 40, .inl f2192)), (q2180, .inl (I .int, 40, .inl f2193)), (q2181, .inl (I .int, 40, .inl f2194)), (q2182, .inl (I .int, 200, .inl f2195)), (q2183, .inl (I .int, 200, .inl f2196)), (q2184, .inl (I .int, 200, .inl f2197)), (q2185, .inl (I .int, 200, .inl f2198)), (q2186, .inl (I .int, 200, .inl f2199)), (q2187, .inl (I .int, 200, .inl f2440)), (q2178, .inl (I .int, 720, .inl f2191))]) (cs' := 0) (sl' := 0) rfl rfl rfl ?_
              refine G_iastN 9 0 d_cX0_renameSlots_47 rfl rfl (gB_in bg2439' (by decide) (by decide)) (fun f2476 hf2476 => ?_)
              refine G_ws (ws' := [(q2177, .inr (5, [.ref q2179, .ref q2180, .ref q2181, .ref q2182, .ref q2183, .ref q2184, .ref q2185, .ref q2186, .ref q2187, .int p2188, .int p2189, .int p2190])), (q2179, .inl (I .int, 40, .inl f2192)), (q2180, .inl (I .int, 40, .inl f2193)), (q2181, .inl (I .int, 40, .inl f2194)), (q2182, .inl (I .int, 200, .inl f2195)), (q2183, .inl (I .int, 200, .inl f2196)), (q2184, .inl (I .int, 200, .inl f2197)), (q2185, .inl (I .int, 200, .inl f2198)), (q2186, .inl (I .int, 200, .inl f2199)), (q2187, .inl (I .int, 200, .inl f2476)), (q2178, .inl (I .int, 720, .inl f2191))]) (cs' := 0) (sl' := 0) rfl rfl rfl ?_
              obtain ⟨z2477, hz2477⟩ : ∃ z : Int32, z = g2439 + Int32.ofInt 1 := ⟨_, rfl⟩
              have ez2477 : z2477.toInt = g2439.toInt + 1 := gI_inc hz2477 (by decide) bg2439' (by decide) (by decide)
              have bz2477 : gB z2477 1 200 := ⟨by omega, by omega⟩
              refine G_iinc (L' := [(2, .int z2477), (0, .ref q2177), (1, .ref q2178)]) z2477 0 d_cX0_renameSlots_48 rfl hz2477.symm (Nat.le_of_ble_eq_true rfl) rfl ?_
              refine G_goto 2 d_cX0_renameSlots_51 (by decide +kernel) ?_
              refine G_sub (ws' := [(q2177, .inr (5, [.ref q2179, .ref q2180, .ref q2181, .ref q2182, .ref q2183, .ref q2184, .ref q2185, .ref q2186, .ref q2187, .int p2188, .int p2189, .int p2190])), (q2178, .inl (I .int, 720, .inl f2191)), (q2179, .inl (I .int, 40, .inl f2192)), (q2180, .inl (I .int, 40, .inl f2193)), (q2181, .inl (I .int, 40, .inl f2194)), (q2182, .inl (I .int, 200, .inl f2195)), (q2183, .inl (I .int, 200, .inl f2196)), (q2184, .inl (I .int, 200, .inl f2197)), (q2185, .inl (I .int, 200, .inl f2198)), (q2186, .inl (I .int, 200, .inl f2199)), (q2187, .inl (I .int, 200, .inl f2476))]) [0, 10, 1, 2, 3, 4, 5, 6, 7, 8, 9] rfl rfl ?_
              exact ih2_2440 z2477 f2476 (gB_w bz2477 (by decide) (by decide)) (gF_any f2476) (by omega)
            · have bz2466' : gB z2466 0 2147483647 := ⟨by omega, by omega⟩
              have bz2466'' : gB z2466 0 719 := ⟨by omega, by omega⟩
              change G _ _ _ _ _ _ _ (.int z2470 :: _) _ _ _
              refine G_ws (ws' := [(q2177, .inr (5, [.ref q2179, .ref q2180, .ref q2181, .ref q2182, .ref q2183, .ref q2184, .ref q2185, .ref q2186, .ref q2187, .int p2188, .int p2189, .int p2190])), (q2179, .inl (I .int, 40, .inl f2192)), (q2180, .inl (I .int, 40, .inl f2193)), (q2181, .inl (I .int, 40, .inl f2194)), (q2182, .inl (I .int, 200, .inl f2195)), (q2183, .inl (I .int, 200, .inl f2196)), (q2184, .inl (I .int, 200, .inl f2197)), (q2185, .inl (I .int, 200, .inl f2198)), (q2186, .inl (I .int, 200, .inl f2199)), (q2187, .inl (I .int, 200, .inl f2440)), (q2178, .inl (I .int, 720, .inl f2191))]) (cs' := 0) (sl' := 0) rfl rfl rfl ?_
              refine G_iastN 9 0 d_cX0_renameSlots_47 rfl rfl (gB_in bg2439' (by decide) (by decide)) (fun f2478 hf2478 => ?_)
              refine G_ws (ws' := [(q2177, .inr (5, [.ref q2179, .ref q2180, .ref q2181, .ref q2182, .ref q2183, .ref q2184, .ref q2185, .ref q2186, .ref q2187, .int p2188, .int p2189, .int p2190])), (q2179, .inl (I .int, 40, .inl f2192)), (q2180, .inl (I .int, 40, .inl f2193)), (q2181, .inl (I .int, 40, .inl f2194)), (q2182, .inl (I .int, 200, .inl f2195)), (q2183, .inl (I .int, 200, .inl f2196)), (q2184, .inl (I .int, 200, .inl f2197)), (q2185, .inl (I .int, 200, .inl f2198)), (q2186, .inl (I .int, 200, .inl f2199)), (q2187, .inl (I .int, 200, .inl f2478)), (q2178, .inl (I .int, 720, .inl f2191))]) (cs' := 0) (sl' := 0) rfl rfl rfl ?_
              obtain ⟨z2479, hz2479⟩ : ∃ z : Int32, z = g2439 + Int32.ofInt 1 := ⟨_, rfl⟩
              have ez2479 : z2479.toInt = g2439.toInt + 1 := gI_inc hz2479 (by decide) bg2439' (by decide) (by decide)
              have bz2479 : gB z2479 1 200 := ⟨by omega, by omega⟩
              refine G_iinc (L' := [(2, .int z2479), (0, .ref q2177), (1, .ref q2178)]) z2479 0 d_cX0_renameSlots_48 rfl hz2479.symm (Nat.le_of_ble_eq_true rfl) rfl ?_
              refine G_goto 2 d_cX0_renameSlots_51 (by decide +kernel) ?_
              refine G_sub (ws' := [(q2177, .inr (5, [.ref q2179, .ref q2180, .ref q2181, .ref q2182, .ref q2183, .ref q2184, .ref q2185, .ref q2186, .ref q2187, .int p2188, .int p2189, .int p2190])), (q2178, .inl (I .int, 720, .inl f2191)), (q2179, .inl (I .int, 40, .inl f2192)), (q2180, .inl (I .int, 40, .inl f2193)), (q2181, .inl (I .int, 40, .inl f2194)), (q2182, .inl (I .int, 200, .inl f2195)), (q2183, .inl (I .int, 200, .inl f2196)), (q2184, .inl (I .int, 200, .inl f2197)), (q2185, .inl (I .int, 200, .inl f2198)), (q2186, .inl (I .int, 200, .inl f2199)), (q2187, .inl (I .int, 200, .inl f2478))]) [0, 10, 1, 2, 3, 4, 5, 6, 7, 8, 9] rfl rfl ?_
              exact ih2_2440 z2479 f2478 (gB_w bz2479 (by decide) (by decide)) (gF_any f2478) (by omega)
  exact hlp2_2440 (((201 : Int) - 0).toNat + 1) 0 f2200 (gB_w (gBl (show Int32.toInt 0 = 0 by decide)) (by decide) (by decide)) (gF_any f2200) (Nat.lt_succ_self _)
abbrev ky_2505_Code_replace : gKey := (cX0_replace, 4, yX0_replace.cls, none, [], yX0_replace.name, fun _ _ => True)
abbrev po_2505_Code_replace (I : FieldType → ClassId) (q2481 : Nat) (q2482 : Nat) (q2483 : Nat) (q2484 : Nat) (q2485 : Nat) (q2486 : Nat) (q2487 : Nat) (q2488 : Nat) (q2489 : Nat) (q2490 : Nat) (p2491 : Int32) (p2492 : Int32) (p2493 : Int32) (p2494 : Int32) (p2495 : Int32) (f2496 : Nat → Int32) (f2497 : Nat → Int32) (f2498 : Nat → Int32) (f2499 : Nat → Int32) (f2500 : Nat → Int32) (f2501 : Nat → Int32) (f2502 : Nat → Int32) (f2503 : Nat → Int32) (f2504 : Nat → Int32) : Option Value → va_W → Prop := fun r w => ∃ (f2893 : Nat → Int32) (f2894 : Nat → Int32) (f2895 : Nat → Int32), r = none ∧ w = [(q2481, .inr (5, [.ref q2482, .ref q2483, .ref q2484, .ref q2485, .ref q2486, .ref q2487, .ref q2488, .ref q2489, .ref q2490, .int p2493, .int p2494, .int p2495])), (q2482, .inl (I .int, 40, .inl f2496)), (q2483, .inl (I .int, 40, .inl f2497)), (q2484, .inl (I .int, 40, .inl f2498)), (q2485, .inl (I .int, 200, .inl f2499)), (q2486, .inl (I .int, 200, .inl f2893)), (q2487, .inl (I .int, 200, .inl f2894)), (q2488, .inl (I .int, 200, .inl f2502)), (q2489, .inl (I .int, 200, .inl f2895)), (q2490, .inl (I .int, 200, .inl f2504))] ∧ gF f2893 (-2147483648) 2147483647 ∧ gF f2894 (-2147483648) 2147483647 ∧ gF f2895 (-2147483648) 2147483647
set_option maxRecDepth 100000 in
set_option maxHeartbeats 4000000 in
theorem ct_2505_Code_replace (l : Launch) (hl0 : l.stackTraces = false) (D : va_G) (I : FieldType → ClassId) (q2481 : Nat) (q2482 : Nat) (q2483 : Nat) (q2484 : Nat) (q2485 : Nat) (q2486 : Nat) (q2487 : Nat) (q2488 : Nat) (q2489 : Nat) (q2490 : Nat) (p2491 : Int32) (p2492 : Int32) (p2493 : Int32) (p2494 : Int32) (p2495 : Int32) (f2496 : Nat → Int32) (f2497 : Nat → Int32) (f2498 : Nat → Int32) (f2499 : Nat → Int32) (f2500 : Nat → Int32) (f2501 : Nat → Int32) (f2502 : Nat → Int32) (f2503 : Nat → Int32) (f2504 : Nat → Int32) (bp2493 : gB p2493 0 40) (bp2494 : gB p2494 0 200) (bp2495 : gB p2495 0 1) (bf2496 : gF f2496 0 200) (bf2499 : gF f2499 0 21) : Ct (gV D I) l yX0_replace cX0_replace 4 none 0 0 0 0 [.ref q2481, .int p2491, .int p2492] [(q2481, .inr (5, [.ref q2482, .ref q2483, .ref q2484, .ref q2485, .ref q2486, .ref q2487, .ref q2488, .ref q2489, .ref q2490, .int p2493, .int p2494, .int p2495])), (q2482, .inl (I .int, 40, .inl f2496)), (q2483, .inl (I .int, 40, .inl f2497)), (q2484, .inl (I .int, 40, .inl f2498)), (q2485, .inl (I .int, 200, .inl f2499)), (q2486, .inl (I .int, 200, .inl f2500)), (q2487, .inl (I .int, 200, .inl f2501)), (q2488, .inl (I .int, 200, .inl f2502)), (q2489, .inl (I .int, 200, .inl f2503)), (q2490, .inl (I .int, 200, .inl f2504))] (po_2505_Code_replace I q2481 q2482 q2483 q2484 q2485 q2486 q2487 q2488 q2489 q2490 p2491 p2492 p2493 p2494 p2495 f2496 f2497 f2498 f2499 f2500 f2501 f2502 f2503 f2504) gN := by
  refine Ct_of hl0 (by decide) (Nat.le_of_ble_eq_true rfl) ?_
  have bp2491 := gB_any p2491
  have bp2492 := gB_any p2492
  refine G_iconst 0 d_cX0_replace_0 (by decide +kernel) ?_
  refine G_istore_n (L' := [(3, .int 0), (0, .ref q2481), (1, .int p2491), (2, .int p2492)]) d_cX0_replace_1 (Nat.le_of_ble_eq_true rfl) rfl ?_
  have hlp2_2839 : ∀ (n2_2839 : Nat) (g2836 : Int32) (f2837 : Nat → Int32) (f2838 : Nat → Int32) (f2839 : Nat → Int32), gB g2836 0 200 → gF f2837 (-2147483648) 2147483647 → gF f2838 (-2147483648) 2147483647 → gF f2839 (-2147483648) 2147483647 → ((201 : Int) - g2836.toInt).toNat < n2_2839 → G (gV D I) l (gRm 0 0 0 0) (gM (gV D I) (po_2505_Code_replace I q2481 q2482 q2483 q2484 q2485 q2486 q2487 q2488 q2489 q2490 p2491 p2492 p2493 p2494 p2495 f2496 f2497 f2498 f2499 f2500 f2501 f2502 f2503 f2504) gN 0 0) ky_2505_Code_replace 2 [(3, .int g2836), (0, .ref q2481), (1, .int p2491), (2, .int p2492)] [] [(q2481, .inr (5, [.ref q2482, .ref q2483, .ref q2484, .ref q2485, .ref q2486, .ref q2487, .ref q2488, .ref q2489, .ref q2490, .int p2493, .int p2494, .int p2495])), (q2482, .inl (I .int, 40, .inl f2496)), (q2483, .inl (I .int, 40, .inl f2497)), (q2484, .inl (I .int, 40, .inl f2498)), (q2485, .inl (I .int, 200, .inl f2499)), (q2486, .inl (I .int, 200, .inl f2837)), (q2487, .inl (I .int, 200, .inl f2838)), (q2488, .inl (I .int, 200, .inl f2502)), (q2489, .inl (I .int, 200, .inl f2839)), (q2490, .inl (I .int, 200, .inl f2504))] 0 0 := by
    intro n2_2839
    induction n2_2839 with
    | zero => intro g2836 f2837 f2838 f2839 bg2836 bf2837 bf2838 bf2839 hm2_2839; exact absurd hm2_2839 (Nat.not_lt_zero _)
    | succ n2_2839 ih2_2839 =>
      intro g2836 f2837 f2838 f2839 bg2836 bf2837 bf2838 bf2839 hm2_2839
      refine G_iload_n 0 d_cX0_replace_2 rfl ?_
      refine G_aload_n 1 d_cX0_replace_3 rfl ?_
      refine G_getf 0 10 d_cX0_replace_4 rfl (gk_X0 D I) (Nat.le_of_ble_eq_true rfl) w_1_197 rfl ?_
      refine G_icmp_ge 94 d_cX0_replace_7 (by decide +kernel) (fun hc2840 => ?_) (fun hc2840 => ?_)
      · have r2841 : p2494.toInt ≤ g2836.toInt := gC_le hc2840
        exact G_vret d_cX0_replace_94 rfl (Nat.le_of_ble_eq_true rfl) (Nat.le_of_ble_eq_true rfl) ⟨f2837, f2838, f2839, rfl, rfl, bf2837, bf2838, bf2839⟩
      · have r2842 : g2836.toInt < p2494.toInt := gC_nle hc2840
        have bg2836' : gB g2836 0 199 := ⟨by omega, by omega⟩
        have bp2494' : gB p2494 1 200 := ⟨by omega, by omega⟩
        refine G_aload_n 1 d_cX0_replace_10 rfl ?_
        refine G_getf 0 4 d_cX0_replace_11 rfl (gk_X0 D I) (Nat.le_of_ble_eq_true rfl) w_1_163 rfl ?_
        refine G_iload_n 0 d_cX0_replace_14 rfl ?_
        refine G_aload_n 1 d_cX0_replace_15 rfl ?_
        refine G_getf 0 4 d_cX0_replace_16 rfl (gk_X0 D I) (Nat.le_of_ble_eq_true rfl) w_1_163 rfl ?_
        refine G_iload_n 0 d_cX0_replace_19 rfl ?_
        refine G_iald 5 0 d_cX0_replace_20 rfl rfl (gB_in bg2836' (by decide) (by decide)) (G_nam fun z2843 hz2843 => ?_)
        have bz2843 : gB z2843 (-2147483648) 2147483647 := by rw [hz2843]; exact bf2837 _
        refine G_iload_n 2 d_cX0_replace_21 rfl ?_
        refine G_icmp_ne 29 d_cX0_replace_22 (by decide +kernel) (fun hc2844 => ?_) (fun hc2844 => ?_)
        · have r2845 : z2843.toInt ≠ p2491.toInt := gC_ne hc2844
          refine G_aload_n 1 d_cX0_replace_29 rfl ?_
          refine G_getf 0 4 d_cX0_replace_30 rfl (gk_X0 D I) (Nat.le_of_ble_eq_true rfl) w_1_163 rfl ?_
          refine G_iload_n 0 d_cX0_replace_33 rfl ?_
          refine G_iald 5 0 d_cX0_replace_34 rfl rfl (gB_in bg2836' (by decide) (by decide)) (G_eqi (y := z2843) hz2843.symm ?_)
          refine G_iastN 5 0 d_cX0_replace_35 rfl rfl (gB_in bg2836' (by decide) (by decide)) (fun f2846 hf2846 => ?_)
          refine G_ws (ws' := [(q2481, .inr (5, [.ref q2482, .ref q2483, .ref q2484, .ref q2485, .ref q2486, .ref q2487, .ref q2488, .ref q2489, .ref q2490, .int p2493, .int p2494, .int p2495])), (q2482, .inl (I .int, 40, .inl f2496)), (q2483, .inl (I .int, 40, .inl f2497)), (q2484, .inl (I .int, 40, .inl f2498)), (q2485, .inl (I .int, 200, .inl f2499)), (q2486, .inl (I .int, 200, .inl f2846)), (q2487, .inl (I .int, 200, .inl f2838)), (q2488, .inl (I .int, 200, .inl f2502)), (q2489, .inl (I .int, 200, .inl f2839)), (q2490, .inl (I .int, 200, .inl f2504))]) (cs' := 0) (sl' := 0) rfl rfl rfl ?_
          refine G_aload_n 1 d_cX0_replace_36 rfl ?_
          refine G_getf 0 5 d_cX0_replace_37 rfl (gk_X0 D I) (Nat.le_of_ble_eq_true rfl) w_1_168 rfl ?_
          refine G_iload_n 0 d_cX0_replace_40 rfl ?_
          refine G_aload_n 1 d_cX0_replace_41 rfl ?_
          refine G_getf 0 5 d_cX0_replace_42 rfl (gk_X0 D I) (Nat.le_of_ble_eq_true rfl) w_1_168 rfl ?_
          refine G_iload_n 0 d_cX0_replace_45 rfl ?_
          refine G_iald 6 0 d_cX0_replace_46 rfl rfl (gB_in bg2836' (by decide) (by decide)) (G_nam fun z2847 hz2847 => ?_)
          have bz2847 : gB z2847 (-2147483648) 2147483647 := by rw [hz2847]; exact bf2838 _
          refine G_iload_n 2 d_cX0_replace_47 rfl ?_
          refine G_icmp_ne 55 d_cX0_replace_48 (by decide +kernel) (fun hc2848 => ?_) (fun hc2848 => ?_)
          · have r2849 : z2847.toInt ≠ p2491.toInt := gC_ne hc2848
            refine G_aload_n 1 d_cX0_replace_55 rfl ?_
            refine G_getf 0 5 d_cX0_replace_56 rfl (gk_X0 D I) (Nat.le_of_ble_eq_true rfl) w_1_168 rfl ?_
            refine G_iload_n 0 d_cX0_replace_59 rfl ?_
            refine G_iald 6 0 d_cX0_replace_60 rfl rfl (gB_in bg2836' (by decide) (by decide)) (G_eqi (y := z2847) hz2847.symm ?_)
            refine G_iastN 6 0 d_cX0_replace_61 rfl rfl (gB_in bg2836' (by decide) (by decide)) (fun f2850 hf2850 => ?_)
            refine G_ws (ws' := [(q2481, .inr (5, [.ref q2482, .ref q2483, .ref q2484, .ref q2485, .ref q2486, .ref q2487, .ref q2488, .ref q2489, .ref q2490, .int p2493, .int p2494, .int p2495])), (q2482, .inl (I .int, 40, .inl f2496)), (q2483, .inl (I .int, 40, .inl f2497)), (q2484, .inl (I .int, 40, .inl f2498)), (q2485, .inl (I .int, 200, .inl f2499)), (q2486, .inl (I .int, 200, .inl f2846)), (q2487, .inl (I .int, 200, .inl f2850)), (q2488, .inl (I .int, 200, .inl f2502)), (q2489, .inl (I .int, 200, .inl f2839)), (q2490, .inl (I .int, 200, .inl f2504))]) (cs' := 0) (sl' := 0) rfl rfl rfl ?_
            refine G_aload_n 1 d_cX0_replace_62 rfl ?_
            refine G_getf 0 7 d_cX0_replace_63 rfl (gk_X0 D I) (Nat.le_of_ble_eq_true rfl) w_1_178 rfl ?_
            refine G_iload_n 0 d_cX0_replace_66 rfl ?_
            refine G_aload_n 1 d_cX0_replace_67 rfl ?_
            refine G_getf 0 7 d_cX0_replace_68 rfl (gk_X0 D I) (Nat.le_of_ble_eq_true rfl) w_1_178 rfl ?_
            refine G_iload_n 0 d_cX0_replace_71 rfl ?_
            refine G_iald 8 0 d_cX0_replace_72 rfl rfl (gB_in bg2836' (by decide) (by decide)) (G_nam fun z2851 hz2851 => ?_)
            have bz2851 : gB z2851 (-2147483648) 2147483647 := by rw [hz2851]; exact bf2839 _
            refine G_iload_n 2 d_cX0_replace_73 rfl ?_
            refine G_icmp_ne 81 d_cX0_replace_74 (by decide +kernel) (fun hc2852 => ?_) (fun hc2852 => ?_)
            · have r2853 : z2851.toInt ≠ p2491.toInt := gC_ne hc2852
              refine G_aload_n 1 d_cX0_replace_81 rfl ?_
              refine G_getf 0 7 d_cX0_replace_82 rfl (gk_X0 D I) (Nat.le_of_ble_eq_true rfl) w_1_178 rfl ?_
              refine G_iload_n 0 d_cX0_replace_85 rfl ?_
              refine G_iald 8 0 d_cX0_replace_86 rfl rfl (gB_in bg2836' (by decide) (by decide)) (G_eqi (y := z2851) hz2851.symm ?_)
              refine G_iastN 8 0 d_cX0_replace_87 rfl rfl (gB_in bg2836' (by decide) (by decide)) (fun f2854 hf2854 => ?_)
              refine G_ws (ws' := [(q2481, .inr (5, [.ref q2482, .ref q2483, .ref q2484, .ref q2485, .ref q2486, .ref q2487, .ref q2488, .ref q2489, .ref q2490, .int p2493, .int p2494, .int p2495])), (q2482, .inl (I .int, 40, .inl f2496)), (q2483, .inl (I .int, 40, .inl f2497)), (q2484, .inl (I .int, 40, .inl f2498)), (q2485, .inl (I .int, 200, .inl f2499)), (q2486, .inl (I .int, 200, .inl f2846)), (q2487, .inl (I .int, 200, .inl f2850)), (q2488, .inl (I .int, 200, .inl f2502)), (q2489, .inl (I .int, 200, .inl f2854)), (q2490, .inl (I .int, 200, .inl f2504))]) (cs' := 0) (sl' := 0) rfl rfl rfl ?_
              obtain ⟨z2855, hz2855⟩ : ∃ z : Int32, z = g2836 + Int32.ofInt 1 := ⟨_, rfl⟩
              have ez2855 : z2855.toInt = g2836.toInt + 1 := gI_inc hz2855 (by decide) bg2836' (by decide) (by decide)
              have bz2855 : gB z2855 1 200 := ⟨by omega, by omega⟩
              refine G_iinc (L' := [(3, .int z2855), (0, .ref q2481), (1, .int p2491), (2, .int p2492)]) z2855 0 d_cX0_replace_88 rfl hz2855.symm (Nat.le_of_ble_eq_true rfl) rfl ?_
              refine G_goto 2 d_cX0_replace_91 (by decide +kernel) ?_
              exact ih2_2839 z2855 f2846 f2850 f2854 (gB_w bz2855 (by decide) (by decide)) (gF_any f2846) (gF_any f2850) (gF_any f2854) (by omega)
            · have r2856 : z2851.toInt = p2491.toInt := gC_eq hc2852
              refine G_iload_n 3 d_cX0_replace_77 rfl ?_
              refine G_goto 87 d_cX0_replace_78 (by decide +kernel) ?_
              refine G_iastN 8 0 d_cX0_replace_87 rfl rfl (gB_in bg2836' (by decide) (by decide)) (fun f2857 hf2857 => ?_)
              refine G_ws (ws' := [(q2481, .inr (5, [.ref q2482, .ref q2483, .ref q2484, .ref q2485, .ref q2486, .ref q2487, .ref q2488, .ref q2489, .ref q2490, .int p2493, .int p2494, .int p2495])), (q2482, .inl (I .int, 40, .inl f2496)), (q2483, .inl (I .int, 40, .inl f2497)), (q2484, .inl (I .int, 40, .inl f2498)), (q2485, .inl (I .int, 200, .inl f2499)), (q2486, .inl (I .int, 200, .inl f2846)), (q2487, .inl (I .int, 200, .inl f2850)), (q2488, .inl (I .int, 200, .inl f2502)), (q2489, .inl (I .int, 200, .inl f2857)), (q2490, .inl (I .int, 200, .inl f2504))]) (cs' := 0) (sl' := 0) rfl rfl rfl ?_
              obtain ⟨z2858, hz2858⟩ : ∃ z : Int32, z = g2836 + Int32.ofInt 1 := ⟨_, rfl⟩
              have ez2858 : z2858.toInt = g2836.toInt + 1 := gI_inc hz2858 (by decide) bg2836' (by decide) (by decide)
              have bz2858 : gB z2858 1 200 := ⟨by omega, by omega⟩
              refine G_iinc (L' := [(3, .int z2858), (0, .ref q2481), (1, .int p2491), (2, .int p2492)]) z2858 0 d_cX0_replace_88 rfl hz2858.symm (Nat.le_of_ble_eq_true rfl) rfl ?_
              refine G_goto 2 d_cX0_replace_91 (by decide +kernel) ?_
              exact ih2_2839 z2858 f2846 f2850 f2857 (gB_w bz2858 (by decide) (by decide)) (gF_any f2846) (gF_any f2850) (gF_any f2857) (by omega)
          · have r2859 : z2847.toInt = p2491.toInt := gC_eq hc2848
            refine G_iload_n 3 d_cX0_replace_51 rfl ?_
            refine G_goto 61 d_cX0_replace_52 (by decide +kernel) ?_
            refine G_iastN 6 0 d_cX0_replace_61 rfl rfl (gB_in bg2836' (by decide) (by decide)) (fun f2860 hf2860 => ?_)
            refine G_ws (ws' := [(q2481, .inr (5, [.ref q2482, .ref q2483, .ref q2484, .ref q2485, .ref q2486, .ref q2487, .ref q2488, .ref q2489, .ref q2490, .int p2493, .int p2494, .int p2495])), (q2482, .inl (I .int, 40, .inl f2496)), (q2483, .inl (I .int, 40, .inl f2497)), (q2484, .inl (I .int, 40, .inl f2498)), (q2485, .inl (I .int, 200, .inl f2499)), (q2486, .inl (I .int, 200, .inl f2846)), (q2487, .inl (I .int, 200, .inl f2860)), (q2488, .inl (I .int, 200, .inl f2502)), (q2489, .inl (I .int, 200, .inl f2839)), (q2490, .inl (I .int, 200, .inl f2504))]) (cs' := 0) (sl' := 0) rfl rfl rfl ?_
            refine G_aload_n 1 d_cX0_replace_62 rfl ?_
            refine G_getf 0 7 d_cX0_replace_63 rfl (gk_X0 D I) (Nat.le_of_ble_eq_true rfl) w_1_178 rfl ?_
            refine G_iload_n 0 d_cX0_replace_66 rfl ?_
            refine G_aload_n 1 d_cX0_replace_67 rfl ?_
            refine G_getf 0 7 d_cX0_replace_68 rfl (gk_X0 D I) (Nat.le_of_ble_eq_true rfl) w_1_178 rfl ?_
            refine G_iload_n 0 d_cX0_replace_71 rfl ?_
            refine G_iald 8 0 d_cX0_replace_72 rfl rfl (gB_in bg2836' (by decide) (by decide)) (G_nam fun z2861 hz2861 => ?_)
            have bz2861 : gB z2861 (-2147483648) 2147483647 := by rw [hz2861]; exact bf2839 _
            refine G_iload_n 2 d_cX0_replace_73 rfl ?_
            refine G_icmp_ne 81 d_cX0_replace_74 (by decide +kernel) (fun hc2862 => ?_) (fun hc2862 => ?_)
            · have r2863 : z2861.toInt ≠ p2491.toInt := gC_ne hc2862
              refine G_aload_n 1 d_cX0_replace_81 rfl ?_
              refine G_getf 0 7 d_cX0_replace_82 rfl (gk_X0 D I) (Nat.le_of_ble_eq_true rfl) w_1_178 rfl ?_
              refine G_iload_n 0 d_cX0_replace_85 rfl ?_
              refine G_iald 8 0 d_cX0_replace_86 rfl rfl (gB_in bg2836' (by decide) (by decide)) (G_eqi (y := z2861) hz2861.symm ?_)
              refine G_iastN 8 0 d_cX0_replace_87 rfl rfl (gB_in bg2836' (by decide) (by decide)) (fun f2864 hf2864 => ?_)
              refine G_ws (ws' := [(q2481, .inr (5, [.ref q2482, .ref q2483, .ref q2484, .ref q2485, .ref q2486, .ref q2487, .ref q2488, .ref q2489, .ref q2490, .int p2493, .int p2494, .int p2495])), (q2482, .inl (I .int, 40, .inl f2496)), (q2483, .inl (I .int, 40, .inl f2497)), (q2484, .inl (I .int, 40, .inl f2498)), (q2485, .inl (I .int, 200, .inl f2499)), (q2486, .inl (I .int, 200, .inl f2846)), (q2487, .inl (I .int, 200, .inl f2860)), (q2488, .inl (I .int, 200, .inl f2502)), (q2489, .inl (I .int, 200, .inl f2864)), (q2490, .inl (I .int, 200, .inl f2504))]) (cs' := 0) (sl' := 0) rfl rfl rfl ?_
              obtain ⟨z2865, hz2865⟩ : ∃ z : Int32, z = g2836 + Int32.ofInt 1 := ⟨_, rfl⟩
              have ez2865 : z2865.toInt = g2836.toInt + 1 := gI_inc hz2865 (by decide) bg2836' (by decide) (by decide)
              have bz2865 : gB z2865 1 200 := ⟨by omega, by omega⟩
              refine G_iinc (L' := [(3, .int z2865), (0, .ref q2481), (1, .int p2491), (2, .int p2492)]) z2865 0 d_cX0_replace_88 rfl hz2865.symm (Nat.le_of_ble_eq_true rfl) rfl ?_
              refine G_goto 2 d_cX0_replace_91 (by decide +kernel) ?_
              exact ih2_2839 z2865 f2846 f2860 f2864 (gB_w bz2865 (by decide) (by decide)) (gF_any f2846) (gF_any f2860) (gF_any f2864) (by omega)
            · have r2866 : z2861.toInt = p2491.toInt := gC_eq hc2862
              refine G_iload_n 3 d_cX0_replace_77 rfl ?_
              refine G_goto 87 d_cX0_replace_78 (by decide +kernel) ?_
              refine G_iastN 8 0 d_cX0_replace_87 rfl rfl (gB_in bg2836' (by decide) (by decide)) (fun f2867 hf2867 => ?_)
              refine G_ws (ws' := [(q2481, .inr (5, [.ref q2482, .ref q2483, .ref q2484, .ref q2485, .ref q2486, .ref q2487, .ref q2488, .ref q2489, .ref q2490, .int p2493, .int p2494, .int p2495])), (q2482, .inl (I .int, 40, .inl f2496)), (q2483, .inl (I .int, 40, .inl f2497)), (q2484, .inl (I .int, 40, .inl f2498)), (q2485, .inl (I .int, 200, .inl f2499)), (q2486, .inl (I .int, 200, .inl f2846)), (q2487, .inl (I .int, 200, .inl f2860)), (q2488, .inl (I .int, 200, .inl f2502)), (q2489, .inl (I .int, 200, .inl f2867)), (q2490, .inl (I .int, 200, .inl f2504))]) (cs' := 0) (sl' := 0) rfl rfl rfl ?_
              obtain ⟨z2868, hz2868⟩ : ∃ z : Int32, z = g2836 + Int32.ofInt 1 := ⟨_, rfl⟩
              have ez2868 : z2868.toInt = g2836.toInt + 1 := gI_inc hz2868 (by decide) bg2836' (by decide) (by decide)
              have bz2868 : gB z2868 1 200 := ⟨by omega, by omega⟩
              refine G_iinc (L' := [(3, .int z2868), (0, .ref q2481), (1, .int p2491), (2, .int p2492)]) z2868 0 d_cX0_replace_88 rfl hz2868.symm (Nat.le_of_ble_eq_true rfl) rfl ?_
              refine G_goto 2 d_cX0_replace_91 (by decide +kernel) ?_
              exact ih2_2839 z2868 f2846 f2860 f2867 (gB_w bz2868 (by decide) (by decide)) (gF_any f2846) (gF_any f2860) (gF_any f2867) (by omega)
        · have r2869 : z2843.toInt = p2491.toInt := gC_eq hc2844
          refine G_iload_n 3 d_cX0_replace_25 rfl ?_
          refine G_goto 35 d_cX0_replace_26 (by decide +kernel) ?_
          refine G_iastN 5 0 d_cX0_replace_35 rfl rfl (gB_in bg2836' (by decide) (by decide)) (fun f2870 hf2870 => ?_)
          refine G_ws (ws' := [(q2481, .inr (5, [.ref q2482, .ref q2483, .ref q2484, .ref q2485, .ref q2486, .ref q2487, .ref q2488, .ref q2489, .ref q2490, .int p2493, .int p2494, .int p2495])), (q2482, .inl (I .int, 40, .inl f2496)), (q2483, .inl (I .int, 40, .inl f2497)), (q2484, .inl (I .int, 40, .inl f2498)), (q2485, .inl (I .int, 200, .inl f2499)), (q2486, .inl (I .int, 200, .inl f2870)), (q2487, .inl (I .int, 200, .inl f2838)), (q2488, .inl (I .int, 200, .inl f2502)), (q2489, .inl (I .int, 200, .inl f2839)), (q2490, .inl (I .int, 200, .inl f2504))]) (cs' := 0) (sl' := 0) rfl rfl rfl ?_
          refine G_aload_n 1 d_cX0_replace_36 rfl ?_
          refine G_getf 0 5 d_cX0_replace_37 rfl (gk_X0 D I) (Nat.le_of_ble_eq_true rfl) w_1_168 rfl ?_
          refine G_iload_n 0 d_cX0_replace_40 rfl ?_
          refine G_aload_n 1 d_cX0_replace_41 rfl ?_
          refine G_getf 0 5 d_cX0_replace_42 rfl (gk_X0 D I) (Nat.le_of_ble_eq_true rfl) w_1_168 rfl ?_
          refine G_iload_n 0 d_cX0_replace_45 rfl ?_
          refine G_iald 6 0 d_cX0_replace_46 rfl rfl (gB_in bg2836' (by decide) (by decide)) (G_nam fun z2871 hz2871 => ?_)
          have bz2871 : gB z2871 (-2147483648) 2147483647 := by rw [hz2871]; exact bf2838 _
          refine G_iload_n 2 d_cX0_replace_47 rfl ?_
          refine G_icmp_ne 55 d_cX0_replace_48 (by decide +kernel) (fun hc2872 => ?_) (fun hc2872 => ?_)
          · have r2873 : z2871.toInt ≠ p2491.toInt := gC_ne hc2872
            refine G_aload_n 1 d_cX0_replace_55 rfl ?_
            refine G_getf 0 5 d_cX0_replace_56 rfl (gk_X0 D I) (Nat.le_of_ble_eq_true rfl) w_1_168 rfl ?_
            refine G_iload_n 0 d_cX0_replace_59 rfl ?_
            refine G_iald 6 0 d_cX0_replace_60 rfl rfl (gB_in bg2836' (by decide) (by decide)) (G_eqi (y := z2871) hz2871.symm ?_)
            refine G_iastN 6 0 d_cX0_replace_61 rfl rfl (gB_in bg2836' (by decide) (by decide)) (fun f2874 hf2874 => ?_)
            refine G_ws (ws' := [(q2481, .inr (5, [.ref q2482, .ref q2483, .ref q2484, .ref q2485, .ref q2486, .ref q2487, .ref q2488, .ref q2489, .ref q2490, .int p2493, .int p2494, .int p2495])), (q2482, .inl (I .int, 40, .inl f2496)), (q2483, .inl (I .int, 40, .inl f2497)), (q2484, .inl (I .int, 40, .inl f2498)), (q2485, .inl (I .int, 200, .inl f2499)), (q2486, .inl (I .int, 200, .inl f2870)), (q2487, .inl (I .int, 200, .inl f2874)), (q2488, .inl (I .int, 200, .inl f2502)), (q2489, .inl (I .int, 200, .inl f2839)), (q2490, .inl (I .int, 200, .inl f2504))]) (cs' := 0) (sl' := 0) rfl rfl rfl ?_
            refine G_aload_n 1 d_cX0_replace_62 rfl ?_
            refine G_getf 0 7 d_cX0_replace_63 rfl (gk_X0 D I) (Nat.le_of_ble_eq_true rfl) w_1_178 rfl ?_
            refine G_iload_n 0 d_cX0_replace_66 rfl ?_
            refine G_aload_n 1 d_cX0_replace_67 rfl ?_
            refine G_getf 0 7 d_cX0_replace_68 rfl (gk_X0 D I) (Nat.le_of_ble_eq_true rfl) w_1_178 rfl ?_
            refine G_iload_n 0 d_cX0_replace_71 rfl ?_
            refine G_iald 8 0 d_cX0_replace_72 rfl rfl (gB_in bg2836' (by decide) (by decide)) (G_nam fun z2875 hz2875 => ?_)
            have bz2875 : gB z2875 (-2147483648) 2147483647 := by rw [hz2875]; exact bf2839 _
            refine G_iload_n 2 d_cX0_replace_73 rfl ?_
            refine G_icmp_ne 81 d_cX0_replace_74 (by decide +kernel) (fun hc2876 => ?_) (fun hc2876 => ?_)
            · have r2877 : z2875.toInt ≠ p2491.toInt := gC_ne hc2876
              refine G_aload_n 1 d_cX0_replace_81 rfl ?_
              refine G_getf 0 7 d_cX0_replace_82 rfl (gk_X0 D I) (Nat.le_of_ble_eq_true rfl) w_1_178 rfl ?_
              refine G_iload_n 0 d_cX0_replace_85 rfl ?_
              refine G_iald 8 0 d_cX0_replace_86 rfl rfl (gB_in bg2836' (by decide) (by decide)) (G_eqi (y := z2875) hz2875.symm ?_)
              refine G_iastN 8 0 d_cX0_replace_87 rfl rfl (gB_in bg2836' (by decide) (by decide)) (fun f2878 hf2878 => ?_)
              refine G_ws (ws' := [(q2481, .inr (5, [.ref q2482, .ref q2483, .ref q2484, .ref q2485, .ref q2486, .ref q2487, .ref q2488, .ref q2489, .ref q2490, .int p2493, .int p2494, .int p2495])), (q2482, .inl (I .int, 40, .inl f2496)), (q2483, .inl (I .int, 40, .inl f2497)), (q2484, .inl (I .int, 40, .inl f2498)), (q2485, .inl (I .int, 200, .inl f2499)), (q2486, .inl (I .int, 200, .inl f2870)), (q2487, .inl (I .int, 200, .inl f2874)), (q2488, .inl (I .int, 200, .inl f2502)), (q2489, .inl (I .int, 200, .inl f2878)), (q2490, .inl (I .int, 200, .inl f2504))]) (cs' := 0) (sl' := 0) rfl rfl rfl ?_
              obtain ⟨z2879, hz2879⟩ : ∃ z : Int32, z = g2836 + Int32.ofInt 1 := ⟨_, rfl⟩
              have ez2879 : z2879.toInt = g2836.toInt + 1 := gI_inc hz2879 (by decide) bg2836' (by decide) (by decide)
              have bz2879 : gB z2879 1 200 := ⟨by omega, by omega⟩
              refine G_iinc (L' := [(3, .int z2879), (0, .ref q2481), (1, .int p2491), (2, .int p2492)]) z2879 0 d_cX0_replace_88 rfl hz2879.symm (Nat.le_of_ble_eq_true rfl) rfl ?_
              refine G_goto 2 d_cX0_replace_91 (by decide +kernel) ?_
              exact ih2_2839 z2879 f2870 f2874 f2878 (gB_w bz2879 (by decide) (by decide)) (gF_any f2870) (gF_any f2874) (gF_any f2878) (by omega)
            · have r2880 : z2875.toInt = p2491.toInt := gC_eq hc2876
              refine G_iload_n 3 d_cX0_replace_77 rfl ?_
              refine G_goto 87 d_cX0_replace_78 (by decide +kernel) ?_
              refine G_iastN 8 0 d_cX0_replace_87 rfl rfl (gB_in bg2836' (by decide) (by decide)) (fun f2881 hf2881 => ?_)
              refine G_ws (ws' := [(q2481, .inr (5, [.ref q2482, .ref q2483, .ref q2484, .ref q2485, .ref q2486, .ref q2487, .ref q2488, .ref q2489, .ref q2490, .int p2493, .int p2494, .int p2495])), (q2482, .inl (I .int, 40, .inl f2496)), (q2483, .inl (I .int, 40, .inl f2497)), (q2484, .inl (I .int, 40, .inl f2498)), (q2485, .inl (I .int, 200, .inl f2499)), (q2486, .inl (I .int, 200, .inl f2870)), (q2487, .inl (I .int, 200, .inl f2874)), (q2488, .inl (I .int, 200, .inl f2502)), (q2489, .inl (I .int, 200, .inl f2881)), (q2490, .inl (I .int, 200, .inl f2504))]) (cs' := 0) (sl' := 0) rfl rfl rfl ?_
              obtain ⟨z2882, hz2882⟩ : ∃ z : Int32, z = g2836 + Int32.ofInt 1 := ⟨_, rfl⟩
              have ez2882 : z2882.toInt = g2836.toInt + 1 := gI_inc hz2882 (by decide) bg2836' (by decide) (by decide)
              have bz2882 : gB z2882 1 200 := ⟨by omega, by omega⟩
              refine G_iinc (L' := [(3, .int z2882), (0, .ref q2481), (1, .int p2491), (2, .int p2492)]) z2882 0 d_cX0_replace_88 rfl hz2882.symm (Nat.le_of_ble_eq_true rfl) rfl ?_
              refine G_goto 2 d_cX0_replace_91 (by decide +kernel) ?_
              exact ih2_2839 z2882 f2870 f2874 f2881 (gB_w bz2882 (by decide) (by decide)) (gF_any f2870) (gF_any f2874) (gF_any f2881) (by omega)
          · have r2883 : z2871.toInt = p2491.toInt := gC_eq hc2872
            refine G_iload_n 3 d_cX0_replace_51 rfl ?_
            refine G_goto 61 d_cX0_replace_52 (by decide +kernel) ?_
            refine G_iastN 6 0 d_cX0_replace_61 rfl rfl (gB_in bg2836' (by decide) (by decide)) (fun f2884 hf2884 => ?_)
            refine G_ws (ws' := [(q2481, .inr (5, [.ref q2482, .ref q2483, .ref q2484, .ref q2485, .ref q2486, .ref q2487, .ref q2488, .ref q2489, .ref q2490, .int p2493, .int p2494, .int p2495])), (q2482, .inl (I .int, 40, .inl f2496)), (q2483, .inl (I .int, 40, .inl f2497)), (q2484, .inl (I .int, 40, .inl f2498)), (q2485, .inl (I .int, 200, .inl f2499)), (q2486, .inl (I .int, 200, .inl f2870)), (q2487, .inl (I .int, 200, .inl f2884)), (q2488, .inl (I .int, 200, .inl f2502)), (q2489, .inl (I .int, 200, .inl f2839)), (q2490, .inl (I .int, 200, .inl f2504))]) (cs' := 0) (sl' := 0) rfl rfl rfl ?_
            refine G_aload_n 1 d_cX0_replace_62 rfl ?_
            refine G_getf 0 7 d_cX0_replace_63 rfl (gk_X0 D I) (Nat.le_of_ble_eq_true rfl) w_1_178 rfl ?_
            refine G_iload_n 0 d_cX0_replace_66 rfl ?_
            refine G_aload_n 1 d_cX0_replace_67 rfl ?_
            refine G_getf 0 7 d_cX0_replace_68 rfl (gk_X0 D I) (Nat.le_of_ble_eq_true rfl) w_1_178 rfl ?_
            refine G_iload_n 0 d_cX0_replace_71 rfl ?_
            refine G_iald 8 0 d_cX0_replace_72 rfl rfl (gB_in bg2836' (by decide) (by decide)) (G_nam fun z2885 hz2885 => ?_)
            have bz2885 : gB z2885 (-2147483648) 2147483647 := by rw [hz2885]; exact bf2839 _
            refine G_iload_n 2 d_cX0_replace_73 rfl ?_
            refine G_icmp_ne 81 d_cX0_replace_74 (by decide +kernel) (fun hc2886 => ?_) (fun hc2886 => ?_)
            · have r2887 : z2885.toInt ≠ p2491.toInt := gC_ne hc2886
              refine G_aload_n 1 d_cX0_replace_81 rfl ?_
              refine G_getf 0 7 d_cX0_replace_82 rfl (gk_X0 D I) (Nat.le_of_ble_eq_true rfl) w_1_178 rfl ?_
              refine G_iload_n 0 d_cX0_replace_85 rfl ?_
              refine G_iald 8 0 d_cX0_replace_86 rfl rfl (gB_in bg2836' (by decide) (by decide)) (G_eqi (y := z2885) hz2885.symm ?_)
              refine G_iastN 8 0 d_cX0_replace_87 rfl rfl (gB_in bg2836' (by decide) (by decide)) (fun f2888 hf2888 => ?_)
              refine G_ws (ws' := [(q2481, .inr (5, [.ref q2482, .ref q2483, .ref q2484, .ref q2485, .ref q2486, .ref q2487, .ref q2488, .ref q2489, .ref q2490, .int p2493, .int p2494, .int p2495])), (q2482, .inl (I .int, 40, .inl f2496)), (q2483, .inl (I .int, 40, .inl f2497)), (q2484, .inl (I .int, 40, .inl f2498)), (q2485, .inl (I .int, 200, .inl f2499)), (q2486, .inl (I .int, 200, .inl f2870)), (q2487, .inl (I .int, 200, .inl f2884)), (q2488, .inl (I .int, 200, .inl f2502)), (q2489, .inl (I .int, 200, .inl f2888)), (q2490, .inl (I .int, 200, .inl f2504))]) (cs' := 0) (sl' := 0) rfl rfl rfl ?_
              obtain ⟨z2889, hz2889⟩ : ∃ z : Int32, z = g2836 + Int32.ofInt 1 := ⟨_, rfl⟩
              have ez2889 : z2889.toInt = g2836.toInt + 1 := gI_inc hz2889 (by decide) bg2836' (by decide) (by decide)
              have bz2889 : gB z2889 1 200 := ⟨by omega, by omega⟩
              refine G_iinc (L' := [(3, .int z2889), (0, .ref q2481), (1, .int p2491), (2, .int p2492)]) z2889 0 d_cX0_replace_88 rfl hz2889.symm (Nat.le_of_ble_eq_true rfl) rfl ?_
              refine G_goto 2 d_cX0_replace_91 (by decide +kernel) ?_
              exact ih2_2839 z2889 f2870 f2884 f2888 (gB_w bz2889 (by decide) (by decide)) (gF_any f2870) (gF_any f2884) (gF_any f2888) (by omega)
            · have r2890 : z2885.toInt = p2491.toInt := gC_eq hc2886
              refine G_iload_n 3 d_cX0_replace_77 rfl ?_
              refine G_goto 87 d_cX0_replace_78 (by decide +kernel) ?_
              refine G_iastN 8 0 d_cX0_replace_87 rfl rfl (gB_in bg2836' (by decide) (by decide)) (fun f2891 hf2891 => ?_)
              refine G_ws (ws' := [(q2481, .inr (5, [.ref q2482, .ref q2483, .ref q2484, .ref q2485, .ref q2486, .ref q2487, .ref q2488, .ref q2489, .ref q2490, .int p2493, .int p2494, .int p2495])), (q2482, .inl (I .int, 40, .inl f2496)), (q2483, .inl (I .int, 40, .inl f2497)), (q2484, .inl (I .int, 40, .inl f2498)), (q2485, .inl (I .int, 200, .inl f2499)), (q2486, .inl (I .int, 200, .inl f2870)), (q2487, .inl (I .int, 200, .inl f2884)), (q2488, .inl (I .int, 200, .inl f2502)), (q2489, .inl (I .int, 200, .inl f2891)), (q2490, .inl (I .int, 200, .inl f2504))]) (cs' := 0) (sl' := 0) rfl rfl rfl ?_
              obtain ⟨z2892, hz2892⟩ : ∃ z : Int32, z = g2836 + Int32.ofInt 1 := ⟨_, rfl⟩
              have ez2892 : z2892.toInt = g2836.toInt + 1 := gI_inc hz2892 (by decide) bg2836' (by decide) (by decide)
              have bz2892 : gB z2892 1 200 := ⟨by omega, by omega⟩
              refine G_iinc (L' := [(3, .int z2892), (0, .ref q2481), (1, .int p2491), (2, .int p2492)]) z2892 0 d_cX0_replace_88 rfl hz2892.symm (Nat.le_of_ble_eq_true rfl) rfl ?_
              refine G_goto 2 d_cX0_replace_91 (by decide +kernel) ?_
              exact ih2_2839 z2892 f2870 f2884 f2891 (gB_w bz2892 (by decide) (by decide)) (gF_any f2870) (gF_any f2884) (gF_any f2891) (by omega)
  exact hlp2_2839 (((201 : Int) - 0).toNat + 1) 0 f2500 f2501 f2503 (gB_w (gBl (show Int32.toInt 0 = 0 by decide)) (by decide) (by decide)) (gF_any f2500) (gF_any f2501) (gF_any f2503) (Nat.lt_succ_self _)
abbrev ky_2919_Code_linesThat : gKey := (cX0_linesThat, 4, yX0_linesThat.cls, (some FieldType.int), [], yX0_linesThat.name, fun _ _ => True)
abbrev po_2919_Code_linesThat (I : FieldType → ClassId) (q2896 : Nat) (q2897 : Nat) (q2898 : Nat) (q2899 : Nat) (q2900 : Nat) (q2901 : Nat) (q2902 : Nat) (q2903 : Nat) (q2904 : Nat) (q2905 : Nat) (p2906 : Int32) (p2907 : Int32) (p2908 : Int32) (p2909 : Int32) (f2910 : Nat → Int32) (f2911 : Nat → Int32) (f2912 : Nat → Int32) (f2913 : Nat → Int32) (f2914 : Nat → Int32) (f2915 : Nat → Int32) (f2916 : Nat → Int32) (f2917 : Nat → Int32) (f2918 : Nat → Int32) : Option Value → va_W → Prop := fun r w => ∃ (o3018 : Int32), r = some (.int o3018) ∧ w = [(q2896, .inr (5, [.ref q2897, .ref q2898, .ref q2899, .ref q2900, .ref q2901, .ref q2902, .ref q2903, .ref q2904, .ref q2905, .int p2907, .int p2908, .int p2909])), (q2897, .inl (I .int, 40, .inl f2910)), (q2898, .inl (I .int, 40, .inl f2911)), (q2899, .inl (I .int, 40, .inl f2912)), (q2900, .inl (I .int, 200, .inl f2913)), (q2901, .inl (I .int, 200, .inl f2914)), (q2902, .inl (I .int, 200, .inl f2915)), (q2903, .inl (I .int, 200, .inl f2916)), (q2904, .inl (I .int, 200, .inl f2917)), (q2905, .inl (I .int, 200, .inl f2918))] ∧ gB o3018 (-2147483648) 2147483647
set_option maxRecDepth 100000 in
set_option maxHeartbeats 4000000 in
theorem ct_2919_Code_linesThat (l : Launch) (hl0 : l.stackTraces = false) (D : va_G) (I : FieldType → ClassId) (q2896 : Nat) (q2897 : Nat) (q2898 : Nat) (q2899 : Nat) (q2900 : Nat) (q2901 : Nat) (q2902 : Nat) (q2903 : Nat) (q2904 : Nat) (q2905 : Nat) (p2906 : Int32) (p2907 : Int32) (p2908 : Int32) (p2909 : Int32) (f2910 : Nat → Int32) (f2911 : Nat → Int32) (f2912 : Nat → Int32) (f2913 : Nat → Int32) (f2914 : Nat → Int32) (f2915 : Nat → Int32) (f2916 : Nat → Int32) (f2917 : Nat → Int32) (f2918 : Nat → Int32) (bp2907 : gB p2907 0 40) (bp2908 : gB p2908 0 200) (bp2909 : gB p2909 0 1) (bf2910 : gF f2910 0 200) (bf2913 : gF f2913 0 21) : Ct (gV D I) l yX0_linesThat cX0_linesThat 4 (some FieldType.int) 0 0 0 0 [.ref q2896, .int p2906] [(q2896, .inr (5, [.ref q2897, .ref q2898, .ref q2899, .ref q2900, .ref q2901, .ref q2902, .ref q2903, .ref q2904, .ref q2905, .int p2907, .int p2908, .int p2909])), (q2897, .inl (I .int, 40, .inl f2910)), (q2898, .inl (I .int, 40, .inl f2911)), (q2899, .inl (I .int, 40, .inl f2912)), (q2900, .inl (I .int, 200, .inl f2913)), (q2901, .inl (I .int, 200, .inl f2914)), (q2902, .inl (I .int, 200, .inl f2915)), (q2903, .inl (I .int, 200, .inl f2916)), (q2904, .inl (I .int, 200, .inl f2917)), (q2905, .inl (I .int, 200, .inl f2918))] (po_2919_Code_linesThat I q2896 q2897 q2898 q2899 q2900 q2901 q2902 q2903 q2904 q2905 p2906 p2907 p2908 p2909 f2910 f2911 f2912 f2913 f2914 f2915 f2916 f2917 f2918) gN := by
  refine Ct_of hl0 (by decide) (Nat.le_of_ble_eq_true rfl) ?_
  have bp2906 := gB_any p2906
  refine G_iconst 0 d_cX0_linesThat_0 (by decide +kernel) ?_
  refine G_istore_n (L' := [(2, .int 0), (0, .ref q2896), (1, .int p2906)]) d_cX0_linesThat_1 (Nat.le_of_ble_eq_true rfl) rfl ?_
  refine G_iconst 0 d_cX0_linesThat_2 (by decide +kernel) ?_
  refine G_istore_n (L' := [(3, .int 0), (2, .int 0), (0, .ref q2896), (1, .int p2906)]) d_cX0_linesThat_3 (Nat.le_of_ble_eq_true rfl) rfl ?_
  have hlp4_3006 : ∀ (n4_3006 : Nat) (g3005 : Int32) (g3006 : Int32), gB g3005 0 200 → gB g3006 (-2147483648) 2147483647 → ((201 : Int) - g3005.toInt).toNat < n4_3006 → G (gV D I) l (gRm 0 0 0 0) (gM (gV D I) (po_2919_Code_linesThat I q2896 q2897 q2898 q2899 q2900 q2901 q2902 q2903 q2904 q2905 p2906 p2907 p2908 p2909 f2910 f2911 f2912 f2913 f2914 f2915 f2916 f2917 f2918) gN 0 0) ky_2919_Code_linesThat 4 [(3, .int g3005), (2, .int g3006), (0, .ref q2896), (1, .int p2906)] [] [(q2896, .inr (5, [.ref q2897, .ref q2898, .ref q2899, .ref q2900, .ref q2901, .ref q2902, .ref q2903, .ref q2904, .ref q2905, .int p2907, .int p2908, .int p2909])), (q2897, .inl (I .int, 40, .inl f2910)), (q2898, .inl (I .int, 40, .inl f2911)), (q2899, .inl (I .int, 40, .inl f2912)), (q2900, .inl (I .int, 200, .inl f2913)), (q2901, .inl (I .int, 200, .inl f2914)), (q2902, .inl (I .int, 200, .inl f2915)), (q2903, .inl (I .int, 200, .inl f2916)), (q2904, .inl (I .int, 200, .inl f2917)), (q2905, .inl (I .int, 200, .inl f2918))] 0 0 := by
    intro n4_3006
    induction n4_3006 with
    | zero => intro g3005 g3006 bg3005 bg3006 hm4_3006; exact absurd hm4_3006 (Nat.not_lt_zero _)
    | succ n4_3006 ih4_3006 =>
      intro g3005 g3006 bg3005 bg3006 hm4_3006
      refine G_iload_n 0 d_cX0_linesThat_4 rfl ?_
      refine G_aload_n 2 d_cX0_linesThat_5 rfl ?_
      refine G_getf 0 10 d_cX0_linesThat_6 rfl (gk_X0 D I) (Nat.le_of_ble_eq_true rfl) w_1_197 rfl ?_
      refine G_icmp_ge 36 d_cX0_linesThat_9 (by decide +kernel) (fun hc3007 => ?_) (fun hc3007 => ?_)
      · have r3008 : p2908.toInt ≤ g3005.toInt := gC_le hc3007
        refine G_iload_n 1 d_cX0_linesThat_36 rfl ?_
        exact G_iret d_cX0_linesThat_37 rfl (Nat.le_of_ble_eq_true rfl) (Nat.le_of_ble_eq_true rfl) ⟨g3006, rfl, rfl, bg3006⟩
      · have r3009 : g3005.toInt < p2908.toInt := gC_nle hc3007
        have bg3005' : gB g3005 0 199 := ⟨by omega, by omega⟩
        have bp2908' : gB p2908 1 200 := ⟨by omega, by omega⟩
        refine G_iload_n 1 d_cX0_linesThat_12 rfl ?_
        refine G_aload_n 2 d_cX0_linesThat_13 rfl ?_
        refine G_getf 0 3 d_cX0_linesThat_14 rfl (gk_X0 D I) (Nat.le_of_ble_eq_true rfl) w_1_159 rfl ?_
        refine G_iload_n 0 d_cX0_linesThat_17 rfl ?_
        refine G_iald 4 0 d_cX0_linesThat_18 rfl rfl (gB_in bg3005' (by decide) (by decide)) (G_nam fun z3010 hz3010 => ?_)
        have bz3010 : gB z3010 0 21 := by rw [hz3010]; exact bf2913 _
        refine G_iload_n 3 d_cX0_linesThat_19 rfl ?_
        refine G_icmp_ne 27 d_cX0_linesThat_20 (by decide +kernel) (fun hc3011 => ?_) (fun hc3011 => ?_)
        · have r3012 : z3010.toInt ≠ p2906.toInt := gC_ne hc3011
          refine G_iconst 0 d_cX0_linesThat_27 (by decide +kernel) ?_
          refine G_iadd d_cX0_linesThat_28 (G_nam fun z3013 hz3013 => ?_)
          have ez3013 : z3013.toInt = g3006.toInt + 0 := by rw [gI_add hz3013 bg3006 (gBl (show Int32.toInt 0 = 0 by decide)) (by decide) (by decide), show Int32.toInt 0 = 0 from by decide]
          have bz3013 : gB z3013 (-2147483648) 2147483647 := gB_add (gI_add hz3013 bg3006 (gBl (show Int32.toInt 0 = 0 by decide)) (by decide) (by decide)) bg3006 (gBl (show Int32.toInt 0 = 0 by decide)) (by decide) (by decide)
          refine G_istore_n (L' := [(2, .int z3013), (3, .int g3005), (0, .ref q2896), (1, .int p2906)]) d_cX0_linesThat_29 (Nat.le_of_ble_eq_true rfl) rfl ?_
          obtain ⟨z3014, hz3014⟩ : ∃ z : Int32, z = g3005 + Int32.ofInt 1 := ⟨_, rfl⟩
          have ez3014 : z3014.toInt = g3005.toInt + 1 := gI_inc hz3014 (by decide) bg3005' (by decide) (by decide)
          have bz3014 : gB z3014 1 200 := ⟨by omega, by omega⟩
          refine G_iinc (L' := [(3, .int z3014), (2, .int z3013), (0, .ref q2896), (1, .int p2906)]) z3014 1 d_cX0_linesThat_30 rfl hz3014.symm (Nat.le_of_ble_eq_true rfl) rfl ?_
          refine G_goto 4 d_cX0_linesThat_33 (by decide +kernel) ?_
          exact ih4_3006 z3014 z3013 (gB_w bz3014 (by decide) (by decide)) bz3013 (by omega)
        · have r3015 : z3010.toInt = p2906.toInt := gC_eq hc3011
          have bp2906' : gB p2906 0 21 := ⟨by omega, by omega⟩
          refine G_iconst 1 d_cX0_linesThat_23 (by decide +kernel) ?_
          refine G_goto 28 d_cX0_linesThat_24 (by decide +kernel) ?_
          refine G_iadd d_cX0_linesThat_28 (G_nam fun z3016 hz3016 => ?_)
          have bz3016 : gB z3016 (-2147483648) 2147483647 := gB_any z3016
          refine G_istore_n (L' := [(2, .int z3016), (3, .int g3005), (0, .ref q2896), (1, .int p2906)]) d_cX0_linesThat_29 (Nat.le_of_ble_eq_true rfl) rfl ?_
          obtain ⟨z3017, hz3017⟩ : ∃ z : Int32, z = g3005 + Int32.ofInt 1 := ⟨_, rfl⟩
          have ez3017 : z3017.toInt = g3005.toInt + 1 := gI_inc hz3017 (by decide) bg3005' (by decide) (by decide)
          have bz3017 : gB z3017 1 200 := ⟨by omega, by omega⟩
          refine G_iinc (L' := [(3, .int z3017), (2, .int z3016), (0, .ref q2896), (1, .int p2906)]) z3017 1 d_cX0_linesThat_30 rfl hz3017.symm (Nat.le_of_ble_eq_true rfl) rfl ?_
          refine G_goto 4 d_cX0_linesThat_33 (by decide +kernel) ?_
          exact ih4_3006 z3017 z3016 (gB_w bz3017 (by decide) (by decide)) bz3016 (by omega)
  exact hlp4_3006 (((201 : Int) - 0).toNat + 1) 0 0 (gB_w (gBl (show Int32.toInt 0 = 0 by decide)) (by decide) (by decide)) (gB_w (gBl (show Int32.toInt 0 = 0 by decide)) (by decide) (by decide)) (Nat.lt_succ_self _)
abbrev ky_3042_Code_copiesRegister : gKey := (cX0_copiesRegister, 2, yX0_copiesRegister.cls, (some FieldType.boolean), [], yX0_copiesRegister.name, fun _ _ => True)
abbrev po_3042_Code_copiesRegister (I : FieldType → ClassId) (q3019 : Nat) (q3020 : Nat) (q3021 : Nat) (q3022 : Nat) (q3023 : Nat) (q3024 : Nat) (q3025 : Nat) (q3026 : Nat) (q3027 : Nat) (q3028 : Nat) (p3029 : Int32) (p3030 : Int32) (p3031 : Int32) (p3032 : Int32) (f3033 : Nat → Int32) (f3034 : Nat → Int32) (f3035 : Nat → Int32) (f3036 : Nat → Int32) (f3037 : Nat → Int32) (f3038 : Nat → Int32) (f3039 : Nat → Int32) (f3040 : Nat → Int32) (f3041 : Nat → Int32) : Option Value → va_W → Prop := fun r w => (∃ (z3043 : Int32), r = some (.int 0) ∧ w = [(q3019, .inr (5, [.ref q3020, .ref q3021, .ref q3022, .ref q3023, .ref q3024, .ref q3025, .ref q3026, .ref q3027, .ref q3028, .int p3030, .int p3031, .int p3032])), (q3020, .inl (I .int, 40, .inl f3033)), (q3021, .inl (I .int, 40, .inl f3034)), (q3022, .inl (I .int, 40, .inl f3035)), (q3023, .inl (I .int, 200, .inl f3036)), (q3024, .inl (I .int, 200, .inl f3037)), (q3025, .inl (I .int, 200, .inl f3038)), (q3026, .inl (I .int, 200, .inl f3039)), (q3027, .inl (I .int, 200, .inl f3040)), (q3028, .inl (I .int, 200, .inl f3041))] ∧ z3043.toInt ≠ 14 ∧ gB z3043 0 21) ∨ (∃ (z3043 : Int32) (z3047 : Int32), r = some (.int 0) ∧ w = [(q3019, .inr (5, [.ref q3020, .ref q3021, .ref q3022, .ref q3023, .ref q3024, .ref q3025, .ref q3026, .ref q3027, .ref q3028, .int p3030, .int p3031, .int p3032])), (q3020, .inl (I .int, 40, .inl f3033)), (q3021, .inl (I .int, 40, .inl f3034)), (q3022, .inl (I .int, 40, .inl f3035)), (q3023, .inl (I .int, 200, .inl f3036)), (q3024, .inl (I .int, 200, .inl f3037)), (q3025, .inl (I .int, 200, .inl f3038)), (q3026, .inl (I .int, 200, .inl f3039)), (q3027, .inl (I .int, 200, .inl f3040)), (q3028, .inl (I .int, 200, .inl f3041))] ∧ z3043.toInt = 14 ∧ z3047.toInt < 0 ∧ gB z3043 14 14 ∧ gB z3047 (-2147483648) (-1)) ∨ (∃ (z3043 : Int32) (z3047 : Int32) (z3051 : Int32), r = some (.int 0) ∧ w = [(q3019, .inr (5, [.ref q3020, .ref q3021, .ref q3022, .ref q3023, .ref q3024, .ref q3025, .ref q3026, .ref q3027, .ref q3028, .int p3030, .int p3031, .int p3032])), (q3020, .inl (I .int, 40, .inl f3033)), (q3021, .inl (I .int, 40, .inl f3034)), (q3022, .inl (I .int, 40, .inl f3035)), (q3023, .inl (I .int, 200, .inl f3036)), (q3024, .inl (I .int, 200, .inl f3037)), (q3025, .inl (I .int, 200, .inl f3038)), (q3026, .inl (I .int, 200, .inl f3039)), (q3027, .inl (I .int, 200, .inl f3040)), (q3028, .inl (I .int, 200, .inl f3041))] ∧ z3043.toInt = 14 ∧ 0 ≤ z3047.toInt ∧ z3051.toInt < 0 ∧ gB z3043 14 14 ∧ gB z3047 0 2147483647 ∧ gB z3051 (-2147483648) (-1)) ∨ (∃ (z3043 : Int32) (z3047 : Int32) (z3051 : Int32), r = some (.int 1) ∧ w = [(q3019, .inr (5, [.ref q3020, .ref q3021, .ref q3022, .ref q3023, .ref q3024, .ref q3025, .ref q3026, .ref q3027, .ref q3028, .int p3030, .int p3031, .int p3032])), (q3020, .inl (I .int, 40, .inl f3033)), (q3021, .inl (I .int, 40, .inl f3034)), (q3022, .inl (I .int, 40, .inl f3035)), (q3023, .inl (I .int, 200, .inl f3036)), (q3024, .inl (I .int, 200, .inl f3037)), (q3025, .inl (I .int, 200, .inl f3038)), (q3026, .inl (I .int, 200, .inl f3039)), (q3027, .inl (I .int, 200, .inl f3040)), (q3028, .inl (I .int, 200, .inl f3041))] ∧ z3043.toInt = 14 ∧ 0 ≤ z3047.toInt ∧ 0 ≤ z3051.toInt ∧ gB z3043 14 14 ∧ gB z3047 0 2147483647 ∧ gB z3051 0 2147483647)
set_option maxRecDepth 100000 in
set_option maxHeartbeats 4000000 in
theorem ct_3042_Code_copiesRegister (l : Launch) (hl0 : l.stackTraces = false) (D : va_G) (I : FieldType → ClassId) (q3019 : Nat) (q3020 : Nat) (q3021 : Nat) (q3022 : Nat) (q3023 : Nat) (q3024 : Nat) (q3025 : Nat) (q3026 : Nat) (q3027 : Nat) (q3028 : Nat) (p3029 : Int32) (p3030 : Int32) (p3031 : Int32) (p3032 : Int32) (f3033 : Nat → Int32) (f3034 : Nat → Int32) (f3035 : Nat → Int32) (f3036 : Nat → Int32) (f3037 : Nat → Int32) (f3038 : Nat → Int32) (f3039 : Nat → Int32) (f3040 : Nat → Int32) (f3041 : Nat → Int32) (bp3029 : gB p3029 0 199) (bp3030 : gB p3030 0 40) (bp3031 : gB p3031 0 200) (bp3032 : gB p3032 0 1) (bf3033 : gF f3033 0 200) (bf3036 : gF f3036 0 21) : Ct (gV D I) l yX0_copiesRegister cX0_copiesRegister 2 (some FieldType.boolean) 0 0 0 0 [.ref q3019, .int p3029] [(q3019, .inr (5, [.ref q3020, .ref q3021, .ref q3022, .ref q3023, .ref q3024, .ref q3025, .ref q3026, .ref q3027, .ref q3028, .int p3030, .int p3031, .int p3032])), (q3020, .inl (I .int, 40, .inl f3033)), (q3021, .inl (I .int, 40, .inl f3034)), (q3022, .inl (I .int, 40, .inl f3035)), (q3023, .inl (I .int, 200, .inl f3036)), (q3024, .inl (I .int, 200, .inl f3037)), (q3025, .inl (I .int, 200, .inl f3038)), (q3026, .inl (I .int, 200, .inl f3039)), (q3027, .inl (I .int, 200, .inl f3040)), (q3028, .inl (I .int, 200, .inl f3041))] (po_3042_Code_copiesRegister I q3019 q3020 q3021 q3022 q3023 q3024 q3025 q3026 q3027 q3028 p3029 p3030 p3031 p3032 f3033 f3034 f3035 f3036 f3037 f3038 f3039 f3040 f3041) gN := by
  refine Ct_of hl0 (by decide) (Nat.le_of_ble_eq_true rfl) ?_
  refine G_aload_n 0 d_cX0_copiesRegister_0 rfl ?_
  refine G_getf 0 3 d_cX0_copiesRegister_1 rfl (gk_X0 D I) (Nat.le_of_ble_eq_true rfl) w_1_159 rfl ?_
  refine G_iload_n 1 d_cX0_copiesRegister_4 rfl ?_
  refine G_iald 4 0 d_cX0_copiesRegister_5 rfl rfl (gB_in bp3029 (by decide) (by decide)) (G_nam fun z3043 hz3043 => ?_)
  have bz3043 : gB z3043 0 21 := by rw [hz3043]; exact bf3036 _
  refine G_bipush 14 d_cX0_copiesRegister_6 (by decide +kernel) ?_
  refine G_icmp_ne 33 d_cX0_copiesRegister_8 (by decide +kernel) (fun hc3044 => ?_) (fun hc3044 => ?_)
  · have r3045 : z3043.toInt ≠ 14 := gj_neq hc3044 (show Int32.toInt 14 = 14 by decide)
    refine G_iconst 0 d_cX0_copiesRegister_33 (by decide +kernel) ?_
    exact G_zret FieldType.boolean d_cX0_copiesRegister_34 rfl rfl (Nat.le_of_ble_eq_true rfl) (Nat.le_of_ble_eq_true rfl) (Or.inl ⟨z3043, rfl, rfl, r3045, bz3043⟩)
  · have r3046 : z3043.toInt = 14 := gj_eq hc3044 (show Int32.toInt 14 = 14 by decide)
    have bz3043' : gB z3043 14 14 := ⟨by omega, by omega⟩
    refine G_aload_n 0 d_cX0_copiesRegister_11 rfl ?_
    refine G_getf 0 4 d_cX0_copiesRegister_12 rfl (gk_X0 D I) (Nat.le_of_ble_eq_true rfl) w_1_163 rfl ?_
    refine G_iload_n 1 d_cX0_copiesRegister_15 rfl ?_
    refine G_iald 5 0 d_cX0_copiesRegister_16 rfl rfl (gB_in bp3029 (by decide) (by decide)) (G_nam fun z3047 hz3047 => ?_)
    have bz3047 : gB z3047 (-2147483648) 2147483647 := gB_any z3047
    refine G_if_lt 33 d_cX0_copiesRegister_17 (by decide +kernel) (fun hc3048 => ?_) (fun hc3048 => ?_)
    · have r3049 : z3047.toInt < 0 := gj_lt hc3048 (show Int32.toInt 0 = 0 by decide)
      have bz3047' : gB z3047 (-2147483648) (-1) := ⟨by omega, by omega⟩
      refine G_iconst 0 d_cX0_copiesRegister_33 (by decide +kernel) ?_
      exact G_zret FieldType.boolean d_cX0_copiesRegister_34 rfl rfl (Nat.le_of_ble_eq_true rfl) (Nat.le_of_ble_eq_true rfl) (Or.inr (Or.inl ⟨z3043, z3047, rfl, rfl, r3046, r3049, bz3043', bz3047'⟩))
    · have r3050 : 0 ≤ z3047.toInt := gj_nlt hc3048 (show Int32.toInt 0 = 0 by decide)
      have bz3047' : gB z3047 0 2147483647 := ⟨by omega, by omega⟩
      refine G_aload_n 0 d_cX0_copiesRegister_20 rfl ?_
      refine G_getf 0 5 d_cX0_copiesRegister_21 rfl (gk_X0 D I) (Nat.le_of_ble_eq_true rfl) w_1_168 rfl ?_
      refine G_iload_n 1 d_cX0_copiesRegister_24 rfl ?_
      refine G_iald 6 0 d_cX0_copiesRegister_25 rfl rfl (gB_in bp3029 (by decide) (by decide)) (G_nam fun z3051 hz3051 => ?_)
      have bz3051 : gB z3051 (-2147483648) 2147483647 := gB_any z3051
      refine G_if_lt 33 d_cX0_copiesRegister_26 (by decide +kernel) (fun hc3052 => ?_) (fun hc3052 => ?_)
      · have r3053 : z3051.toInt < 0 := gj_lt hc3052 (show Int32.toInt 0 = 0 by decide)
        have bz3051' : gB z3051 (-2147483648) (-1) := ⟨by omega, by omega⟩
        refine G_iconst 0 d_cX0_copiesRegister_33 (by decide +kernel) ?_
        exact G_zret FieldType.boolean d_cX0_copiesRegister_34 rfl rfl (Nat.le_of_ble_eq_true rfl) (Nat.le_of_ble_eq_true rfl) (Or.inr (Or.inr (Or.inl ⟨z3043, z3047, z3051, rfl, rfl, r3046, r3050, r3053, bz3043', bz3047', bz3051'⟩)))
      · have r3054 : 0 ≤ z3051.toInt := gj_nlt hc3052 (show Int32.toInt 0 = 0 by decide)
        have bz3051' : gB z3051 0 2147483647 := ⟨by omega, by omega⟩
        refine G_iconst 1 d_cX0_copiesRegister_29 (by decide +kernel) ?_
        refine G_goto 34 d_cX0_copiesRegister_30 (by decide +kernel) ?_
        exact G_zret FieldType.boolean d_cX0_copiesRegister_34 rfl rfl (Nat.le_of_ble_eq_true rfl) (Nat.le_of_ble_eq_true rfl) (Or.inr (Or.inr (Or.inr (⟨z3043, z3047, z3051, rfl, rfl, r3046, r3050, r3054, bz3043', bz3047', bz3051'⟩))))
abbrev ky_3079_Code_setBy : gKey := (cX0_setBy, 3, yX0_setBy.cls, (some FieldType.int), [], yX0_setBy.name, fun _ _ => True)
abbrev po_3079_Code_setBy (I : FieldType → ClassId) (q3055 : Nat) (q3056 : Nat) (q3057 : Nat) (q3058 : Nat) (q3059 : Nat) (q3060 : Nat) (q3061 : Nat) (q3062 : Nat) (q3063 : Nat) (q3064 : Nat) (p3065 : Int32) (p3066 : Int32) (p3067 : Int32) (p3068 : Int32) (p3069 : Int32) (f3070 : Nat → Int32) (f3071 : Nat → Int32) (f3072 : Nat → Int32) (f3073 : Nat → Int32) (f3074 : Nat → Int32) (f3075 : Nat → Int32) (f3076 : Nat → Int32) (f3077 : Nat → Int32) (f3078 : Nat → Int32) : Option Value → va_W → Prop := fun r w => (∃ (z3082 : Int32), r = some (.int z3082) ∧ w = [(q3055, .inr (5, [.ref q3056, .ref q3057, .ref q3058, .ref q3059, .ref q3060, .ref q3061, .ref q3062, .ref q3063, .ref q3064, .int p3067, .int p3068, .int p3069])), (q3056, .inl (I .int, 40, .inl f3070)), (q3057, .inl (I .int, 40, .inl f3071)), (q3058, .inl (I .int, 40, .inl f3072)), (q3059, .inl (I .int, 200, .inl f3073)), (q3060, .inl (I .int, 200, .inl f3074)), (q3061, .inl (I .int, 200, .inl f3075)), (q3062, .inl (I .int, 200, .inl f3076)), (q3063, .inl (I .int, 200, .inl f3077)), (q3064, .inl (I .int, 200, .inl f3078))] ∧ p3066.toInt = 0 ∧ gB z3082 (-2147483648) 2147483647) ∨ (∃ (z3084 : Int32), r = some (.int (-1)) ∧ w = [(q3055, .inr (5, [.ref q3056, .ref q3057, .ref q3058, .ref q3059, .ref q3060, .ref q3061, .ref q3062, .ref q3063, .ref q3064, .int p3067, .int p3068, .int p3069])), (q3056, .inl (I .int, 40, .inl f3070)), (q3057, .inl (I .int, 40, .inl f3071)), (q3058, .inl (I .int, 40, .inl f3072)), (q3059, .inl (I .int, 200, .inl f3073)), (q3060, .inl (I .int, 200, .inl f3074)), (q3061, .inl (I .int, 200, .inl f3075)), (q3062, .inl (I .int, 200, .inl f3076)), (q3063, .inl (I .int, 200, .inl f3077)), (q3064, .inl (I .int, 200, .inl f3078))] ∧ p3066.toInt ≠ 0 ∧ z3084.toInt ≠ 18 ∧ gB z3084 0 21) ∨ (∃ (z3088 : Int32) (z3084 : Int32), r = some (.int z3088) ∧ w = [(q3055, .inr (5, [.ref q3056, .ref q3057, .ref q3058, .ref q3059, .ref q3060, .ref q3061, .ref q3062, .ref q3063, .ref q3064, .int p3067, .int p3068, .int p3069])), (q3056, .inl (I .int, 40, .inl f3070)), (q3057, .inl (I .int, 40, .inl f3071)), (q3058, .inl (I .int, 40, .inl f3072)), (q3059, .inl (I .int, 200, .inl f3073)), (q3060, .inl (I .int, 200, .inl f3074)), (q3061, .inl (I .int, 200, .inl f3075)), (q3062, .inl (I .int, 200, .inl f3076)), (q3063, .inl (I .int, 200, .inl f3077)), (q3064, .inl (I .int, 200, .inl f3078))] ∧ p3066.toInt ≠ 0 ∧ z3084.toInt = 18 ∧ gB z3088 (-2147483648) 2147483647 ∧ gB z3084 18 18)
set_option maxRecDepth 100000 in
set_option maxHeartbeats 4000000 in
theorem ct_3079_Code_setBy (l : Launch) (hl0 : l.stackTraces = false) (D : va_G) (I : FieldType → ClassId) (q3055 : Nat) (q3056 : Nat) (q3057 : Nat) (q3058 : Nat) (q3059 : Nat) (q3060 : Nat) (q3061 : Nat) (q3062 : Nat) (q3063 : Nat) (q3064 : Nat) (p3065 : Int32) (p3066 : Int32) (p3067 : Int32) (p3068 : Int32) (p3069 : Int32) (f3070 : Nat → Int32) (f3071 : Nat → Int32) (f3072 : Nat → Int32) (f3073 : Nat → Int32) (f3074 : Nat → Int32) (f3075 : Nat → Int32) (f3076 : Nat → Int32) (f3077 : Nat → Int32) (f3078 : Nat → Int32) (bp3065 : gB p3065 0 199) (bp3066 : gB p3066 0 1) (bp3067 : gB p3067 0 40) (bp3068 : gB p3068 0 200) (bp3069 : gB p3069 0 1) (bf3070 : gF f3070 0 200) (bf3073 : gF f3073 0 21) : Ct (gV D I) l yX0_setBy cX0_setBy 3 (some FieldType.int) 0 0 0 0 [.ref q3055, .int p3065, .int p3066] [(q3055, .inr (5, [.ref q3056, .ref q3057, .ref q3058, .ref q3059, .ref q3060, .ref q3061, .ref q3062, .ref q3063, .ref q3064, .int p3067, .int p3068, .int p3069])), (q3056, .inl (I .int, 40, .inl f3070)), (q3057, .inl (I .int, 40, .inl f3071)), (q3058, .inl (I .int, 40, .inl f3072)), (q3059, .inl (I .int, 200, .inl f3073)), (q3060, .inl (I .int, 200, .inl f3074)), (q3061, .inl (I .int, 200, .inl f3075)), (q3062, .inl (I .int, 200, .inl f3076)), (q3063, .inl (I .int, 200, .inl f3077)), (q3064, .inl (I .int, 200, .inl f3078))] (po_3079_Code_setBy I q3055 q3056 q3057 q3058 q3059 q3060 q3061 q3062 q3063 q3064 p3065 p3066 p3067 p3068 p3069 f3070 f3071 f3072 f3073 f3074 f3075 f3076 f3077 f3078) gN := by
  refine Ct_of hl0 (by decide) (Nat.le_of_ble_eq_true rfl) ?_
  refine G_iload_n 2 d_cX0_setBy_0 rfl ?_
  refine G_if_eq 26 d_cX0_setBy_1 (by decide +kernel) (fun hc3080 => ?_) (fun hc3080 => ?_)
  · have r3081 : p3066.toInt = 0 := gj_eq hc3080 (show Int32.toInt 0 = 0 by decide)
    have bp3066' : gB p3066 0 0 := ⟨by omega, by omega⟩
    refine G_aload_n 0 d_cX0_setBy_26 rfl ?_
    refine G_getf 0 4 d_cX0_setBy_27 rfl (gk_X0 D I) (Nat.le_of_ble_eq_true rfl) w_1_163 rfl ?_
    refine G_iload_n 1 d_cX0_setBy_30 rfl ?_
    refine G_iald 5 0 d_cX0_setBy_31 rfl rfl (gB_in bp3065 (by decide) (by decide)) (G_nam fun z3082 hz3082 => ?_)
    have bz3082 : gB z3082 (-2147483648) 2147483647 := gB_any z3082
    exact G_iret d_cX0_setBy_32 rfl (Nat.le_of_ble_eq_true rfl) (Nat.le_of_ble_eq_true rfl) (Or.inl ⟨z3082, rfl, rfl, r3081, bz3082⟩)
  · have r3083 : p3066.toInt ≠ 0 := gj_neq hc3080 (show Int32.toInt 0 = 0 by decide)
    have bp3066' : gB p3066 1 1 := ⟨by omega, by omega⟩
    refine G_aload_n 0 d_cX0_setBy_4 rfl ?_
    refine G_getf 0 3 d_cX0_setBy_5 rfl (gk_X0 D I) (Nat.le_of_ble_eq_true rfl) w_1_159 rfl ?_
    refine G_iload_n 1 d_cX0_setBy_8 rfl ?_
    refine G_iald 4 0 d_cX0_setBy_9 rfl rfl (gB_in bp3065 (by decide) (by decide)) (G_nam fun z3084 hz3084 => ?_)
    have bz3084 : gB z3084 0 21 := by rw [hz3084]; exact bf3073 _
    refine G_bipush 18 d_cX0_setBy_10 (by decide +kernel) ?_
    refine G_icmp_ne 24 d_cX0_setBy_12 (by decide +kernel) (fun hc3085 => ?_) (fun hc3085 => ?_)
    · have r3086 : z3084.toInt ≠ 18 := gj_neq hc3085 (show Int32.toInt 18 = 18 by decide)
      refine G_iconst (-1) d_cX0_setBy_24 (by decide +kernel) ?_
      exact G_iret d_cX0_setBy_25 rfl (Nat.le_of_ble_eq_true rfl) (Nat.le_of_ble_eq_true rfl) (Or.inr (Or.inl ⟨z3084, rfl, rfl, r3083, r3086, bz3084⟩))
    · have r3087 : z3084.toInt = 18 := gj_eq hc3085 (show Int32.toInt 18 = 18 by decide)
      have bz3084' : gB z3084 18 18 := ⟨by omega, by omega⟩
      refine G_aload_n 0 d_cX0_setBy_15 rfl ?_
      refine G_getf 0 8 d_cX0_setBy_16 rfl (gk_X0 D I) (Nat.le_of_ble_eq_true rfl) w_1_183 rfl ?_
      refine G_iload_n 1 d_cX0_setBy_19 rfl ?_
      refine G_iald 9 0 d_cX0_setBy_20 rfl rfl (gB_in bp3065 (by decide) (by decide)) (G_nam fun z3088 hz3088 => ?_)
      have bz3088 : gB z3088 (-2147483648) 2147483647 := gB_any z3088
      refine G_goto 25 d_cX0_setBy_21 (by decide +kernel) ?_
      exact G_iret d_cX0_setBy_25 rfl (Nat.le_of_ble_eq_true rfl) (Nat.le_of_ble_eq_true rfl) (Or.inr (Or.inr (⟨z3088, z3084, rfl, rfl, r3083, r3087, bz3088, bz3084'⟩)))
abbrev ky_3113_Code_firstUse : gKey := (cX0_firstUse, 3, yX0_firstUse.cls, (some FieldType.int), [], yX0_firstUse.name, fun _ _ => True)
abbrev po_3113_Code_firstUse (I : FieldType → ClassId) (q3089 : Nat) (q3090 : Nat) (q3091 : Nat) (q3092 : Nat) (q3093 : Nat) (q3094 : Nat) (q3095 : Nat) (q3096 : Nat) (q3097 : Nat) (q3098 : Nat) (p3099 : Int32) (p3100 : Int32) (p3101 : Int32) (p3102 : Int32) (p3103 : Int32) (f3104 : Nat → Int32) (f3105 : Nat → Int32) (f3106 : Nat → Int32) (f3107 : Nat → Int32) (f3108 : Nat → Int32) (f3109 : Nat → Int32) (f3110 : Nat → Int32) (f3111 : Nat → Int32) (f3112 : Nat → Int32) : Option Value → va_W → Prop := fun r w => (∃ (z3116 : Int32), r = some (.int z3116) ∧ w = [(q3089, .inr (5, [.ref q3090, .ref q3091, .ref q3092, .ref q3093, .ref q3094, .ref q3095, .ref q3096, .ref q3097, .ref q3098, .int p3101, .int p3102, .int p3103])), (q3090, .inl (I .int, 40, .inl f3104)), (q3091, .inl (I .int, 40, .inl f3105)), (q3092, .inl (I .int, 40, .inl f3106)), (q3093, .inl (I .int, 200, .inl f3107)), (q3094, .inl (I .int, 200, .inl f3108)), (q3095, .inl (I .int, 200, .inl f3109)), (q3096, .inl (I .int, 200, .inl f3110)), (q3097, .inl (I .int, 200, .inl f3111)), (q3098, .inl (I .int, 200, .inl f3112))] ∧ p3100.toInt = 0 ∧ gB z3116 (-2147483648) 2147483647) ∨ (∃ (z3118 : Int32), r = some (.int (-1)) ∧ w = [(q3089, .inr (5, [.ref q3090, .ref q3091, .ref q3092, .ref q3093, .ref q3094, .ref q3095, .ref q3096, .ref q3097, .ref q3098, .int p3101, .int p3102, .int p3103])), (q3090, .inl (I .int, 40, .inl f3104)), (q3091, .inl (I .int, 40, .inl f3105)), (q3092, .inl (I .int, 40, .inl f3106)), (q3093, .inl (I .int, 200, .inl f3107)), (q3094, .inl (I .int, 200, .inl f3108)), (q3095, .inl (I .int, 200, .inl f3109)), (q3096, .inl (I .int, 200, .inl f3110)), (q3097, .inl (I .int, 200, .inl f3111)), (q3098, .inl (I .int, 200, .inl f3112))] ∧ p3100.toInt ≠ 0 ∧ z3118.toInt ≠ 17 ∧ gB z3118 0 21) ∨ (∃ (z3122 : Int32) (z3118 : Int32), r = some (.int z3122) ∧ w = [(q3089, .inr (5, [.ref q3090, .ref q3091, .ref q3092, .ref q3093, .ref q3094, .ref q3095, .ref q3096, .ref q3097, .ref q3098, .int p3101, .int p3102, .int p3103])), (q3090, .inl (I .int, 40, .inl f3104)), (q3091, .inl (I .int, 40, .inl f3105)), (q3092, .inl (I .int, 40, .inl f3106)), (q3093, .inl (I .int, 200, .inl f3107)), (q3094, .inl (I .int, 200, .inl f3108)), (q3095, .inl (I .int, 200, .inl f3109)), (q3096, .inl (I .int, 200, .inl f3110)), (q3097, .inl (I .int, 200, .inl f3111)), (q3098, .inl (I .int, 200, .inl f3112))] ∧ p3100.toInt ≠ 0 ∧ z3118.toInt = 17 ∧ gB z3122 (-2147483648) 2147483647 ∧ gB z3118 17 17)
set_option maxRecDepth 100000 in
set_option maxHeartbeats 4000000 in
theorem ct_3113_Code_firstUse (l : Launch) (hl0 : l.stackTraces = false) (D : va_G) (I : FieldType → ClassId) (q3089 : Nat) (q3090 : Nat) (q3091 : Nat) (q3092 : Nat) (q3093 : Nat) (q3094 : Nat) (q3095 : Nat) (q3096 : Nat) (q3097 : Nat) (q3098 : Nat) (p3099 : Int32) (p3100 : Int32) (p3101 : Int32) (p3102 : Int32) (p3103 : Int32) (f3104 : Nat → Int32) (f3105 : Nat → Int32) (f3106 : Nat → Int32) (f3107 : Nat → Int32) (f3108 : Nat → Int32) (f3109 : Nat → Int32) (f3110 : Nat → Int32) (f3111 : Nat → Int32) (f3112 : Nat → Int32) (bp3099 : gB p3099 0 199) (bp3100 : gB p3100 0 1) (bp3101 : gB p3101 0 40) (bp3102 : gB p3102 0 200) (bp3103 : gB p3103 0 1) (bf3104 : gF f3104 0 200) (bf3107 : gF f3107 0 21) : Ct (gV D I) l yX0_firstUse cX0_firstUse 3 (some FieldType.int) 0 0 0 0 [.ref q3089, .int p3099, .int p3100] [(q3089, .inr (5, [.ref q3090, .ref q3091, .ref q3092, .ref q3093, .ref q3094, .ref q3095, .ref q3096, .ref q3097, .ref q3098, .int p3101, .int p3102, .int p3103])), (q3090, .inl (I .int, 40, .inl f3104)), (q3091, .inl (I .int, 40, .inl f3105)), (q3092, .inl (I .int, 40, .inl f3106)), (q3093, .inl (I .int, 200, .inl f3107)), (q3094, .inl (I .int, 200, .inl f3108)), (q3095, .inl (I .int, 200, .inl f3109)), (q3096, .inl (I .int, 200, .inl f3110)), (q3097, .inl (I .int, 200, .inl f3111)), (q3098, .inl (I .int, 200, .inl f3112))] (po_3113_Code_firstUse I q3089 q3090 q3091 q3092 q3093 q3094 q3095 q3096 q3097 q3098 p3099 p3100 p3101 p3102 p3103 f3104 f3105 f3106 f3107 f3108 f3109 f3110 f3111 f3112) gN := by
  refine Ct_of hl0 (by decide) (Nat.le_of_ble_eq_true rfl) ?_
  refine G_iload_n 2 d_cX0_firstUse_0 rfl ?_
  refine G_if_eq 26 d_cX0_firstUse_1 (by decide +kernel) (fun hc3114 => ?_) (fun hc3114 => ?_)
  · have r3115 : p3100.toInt = 0 := gj_eq hc3114 (show Int32.toInt 0 = 0 by decide)
    have bp3100' : gB p3100 0 0 := ⟨by omega, by omega⟩
    refine G_aload_n 0 d_cX0_firstUse_26 rfl ?_
    refine G_getf 0 5 d_cX0_firstUse_27 rfl (gk_X0 D I) (Nat.le_of_ble_eq_true rfl) w_1_168 rfl ?_
    refine G_iload_n 1 d_cX0_firstUse_30 rfl ?_
    refine G_iald 6 0 d_cX0_firstUse_31 rfl rfl (gB_in bp3099 (by decide) (by decide)) (G_nam fun z3116 hz3116 => ?_)
    have bz3116 : gB z3116 (-2147483648) 2147483647 := gB_any z3116
    exact G_iret d_cX0_firstUse_32 rfl (Nat.le_of_ble_eq_true rfl) (Nat.le_of_ble_eq_true rfl) (Or.inl ⟨z3116, rfl, rfl, r3115, bz3116⟩)
  · have r3117 : p3100.toInt ≠ 0 := gj_neq hc3114 (show Int32.toInt 0 = 0 by decide)
    have bp3100' : gB p3100 1 1 := ⟨by omega, by omega⟩
    refine G_aload_n 0 d_cX0_firstUse_4 rfl ?_
    refine G_getf 0 3 d_cX0_firstUse_5 rfl (gk_X0 D I) (Nat.le_of_ble_eq_true rfl) w_1_159 rfl ?_
    refine G_iload_n 1 d_cX0_firstUse_8 rfl ?_
    refine G_iald 4 0 d_cX0_firstUse_9 rfl rfl (gB_in bp3099 (by decide) (by decide)) (G_nam fun z3118 hz3118 => ?_)
    have bz3118 : gB z3118 0 21 := by rw [hz3118]; exact bf3107 _
    refine G_bipush 17 d_cX0_firstUse_10 (by decide +kernel) ?_
    refine G_icmp_ne 24 d_cX0_firstUse_12 (by decide +kernel) (fun hc3119 => ?_) (fun hc3119 => ?_)
    · have r3120 : z3118.toInt ≠ 17 := gj_neq hc3119 (show Int32.toInt 17 = 17 by decide)
      refine G_iconst (-1) d_cX0_firstUse_24 (by decide +kernel) ?_
      exact G_iret d_cX0_firstUse_25 rfl (Nat.le_of_ble_eq_true rfl) (Nat.le_of_ble_eq_true rfl) (Or.inr (Or.inl ⟨z3118, rfl, rfl, r3117, r3120, bz3118⟩))
    · have r3121 : z3118.toInt = 17 := gj_eq hc3119 (show Int32.toInt 17 = 17 by decide)
      have bz3118' : gB z3118 17 17 := ⟨by omega, by omega⟩
      refine G_aload_n 0 d_cX0_firstUse_15 rfl ?_
      refine G_getf 0 8 d_cX0_firstUse_16 rfl (gk_X0 D I) (Nat.le_of_ble_eq_true rfl) w_1_183 rfl ?_
      refine G_iload_n 1 d_cX0_firstUse_19 rfl ?_
      refine G_iald 9 0 d_cX0_firstUse_20 rfl rfl (gB_in bp3099 (by decide) (by decide)) (G_nam fun z3122 hz3122 => ?_)
      have bz3122 : gB z3122 (-2147483648) 2147483647 := gB_any z3122
      refine G_goto 25 d_cX0_firstUse_21 (by decide +kernel) ?_
      exact G_iret d_cX0_firstUse_25 rfl (Nat.le_of_ble_eq_true rfl) (Nat.le_of_ble_eq_true rfl) (Or.inr (Or.inr (⟨z3122, z3118, rfl, rfl, r3117, r3121, bz3122, bz3118'⟩)))
abbrev ky_3147_Code_secondUse : gKey := (cX0_secondUse, 3, yX0_secondUse.cls, (some FieldType.int), [], yX0_secondUse.name, fun _ _ => True)
abbrev po_3147_Code_secondUse (I : FieldType → ClassId) (q3123 : Nat) (q3124 : Nat) (q3125 : Nat) (q3126 : Nat) (q3127 : Nat) (q3128 : Nat) (q3129 : Nat) (q3130 : Nat) (q3131 : Nat) (q3132 : Nat) (p3133 : Int32) (p3134 : Int32) (p3135 : Int32) (p3136 : Int32) (p3137 : Int32) (f3138 : Nat → Int32) (f3139 : Nat → Int32) (f3140 : Nat → Int32) (f3141 : Nat → Int32) (f3142 : Nat → Int32) (f3143 : Nat → Int32) (f3144 : Nat → Int32) (f3145 : Nat → Int32) (f3146 : Nat → Int32) : Option Value → va_W → Prop := fun r w => (∃ (z3150 : Int32), r = some (.int z3150) ∧ w = [(q3123, .inr (5, [.ref q3124, .ref q3125, .ref q3126, .ref q3127, .ref q3128, .ref q3129, .ref q3130, .ref q3131, .ref q3132, .int p3135, .int p3136, .int p3137])), (q3124, .inl (I .int, 40, .inl f3138)), (q3125, .inl (I .int, 40, .inl f3139)), (q3126, .inl (I .int, 40, .inl f3140)), (q3127, .inl (I .int, 200, .inl f3141)), (q3128, .inl (I .int, 200, .inl f3142)), (q3129, .inl (I .int, 200, .inl f3143)), (q3130, .inl (I .int, 200, .inl f3144)), (q3131, .inl (I .int, 200, .inl f3145)), (q3132, .inl (I .int, 200, .inl f3146))] ∧ p3134.toInt = 0 ∧ gB z3150 (-2147483648) 2147483647) ∨ (r = some (.int (-1)) ∧ w = [(q3123, .inr (5, [.ref q3124, .ref q3125, .ref q3126, .ref q3127, .ref q3128, .ref q3129, .ref q3130, .ref q3131, .ref q3132, .int p3135, .int p3136, .int p3137])), (q3124, .inl (I .int, 40, .inl f3138)), (q3125, .inl (I .int, 40, .inl f3139)), (q3126, .inl (I .int, 40, .inl f3140)), (q3127, .inl (I .int, 200, .inl f3141)), (q3128, .inl (I .int, 200, .inl f3142)), (q3129, .inl (I .int, 200, .inl f3143)), (q3130, .inl (I .int, 200, .inl f3144)), (q3131, .inl (I .int, 200, .inl f3145)), (q3132, .inl (I .int, 200, .inl f3146))] ∧ p3134.toInt ≠ 0)
set_option maxRecDepth 100000 in
set_option maxHeartbeats 4000000 in
theorem ct_3147_Code_secondUse (l : Launch) (hl0 : l.stackTraces = false) (D : va_G) (I : FieldType → ClassId) (q3123 : Nat) (q3124 : Nat) (q3125 : Nat) (q3126 : Nat) (q3127 : Nat) (q3128 : Nat) (q3129 : Nat) (q3130 : Nat) (q3131 : Nat) (q3132 : Nat) (p3133 : Int32) (p3134 : Int32) (p3135 : Int32) (p3136 : Int32) (p3137 : Int32) (f3138 : Nat → Int32) (f3139 : Nat → Int32) (f3140 : Nat → Int32) (f3141 : Nat → Int32) (f3142 : Nat → Int32) (f3143 : Nat → Int32) (f3144 : Nat → Int32) (f3145 : Nat → Int32) (f3146 : Nat → Int32) (bp3133 : gB p3133 0 199) (bp3134 : gB p3134 0 1) (bp3135 : gB p3135 0 40) (bp3136 : gB p3136 0 200) (bp3137 : gB p3137 0 1) (bf3138 : gF f3138 0 200) (bf3141 : gF f3141 0 21) : Ct (gV D I) l yX0_secondUse cX0_secondUse 3 (some FieldType.int) 0 0 0 0 [.ref q3123, .int p3133, .int p3134] [(q3123, .inr (5, [.ref q3124, .ref q3125, .ref q3126, .ref q3127, .ref q3128, .ref q3129, .ref q3130, .ref q3131, .ref q3132, .int p3135, .int p3136, .int p3137])), (q3124, .inl (I .int, 40, .inl f3138)), (q3125, .inl (I .int, 40, .inl f3139)), (q3126, .inl (I .int, 40, .inl f3140)), (q3127, .inl (I .int, 200, .inl f3141)), (q3128, .inl (I .int, 200, .inl f3142)), (q3129, .inl (I .int, 200, .inl f3143)), (q3130, .inl (I .int, 200, .inl f3144)), (q3131, .inl (I .int, 200, .inl f3145)), (q3132, .inl (I .int, 200, .inl f3146))] (po_3147_Code_secondUse I q3123 q3124 q3125 q3126 q3127 q3128 q3129 q3130 q3131 q3132 p3133 p3134 p3135 p3136 p3137 f3138 f3139 f3140 f3141 f3142 f3143 f3144 f3145 f3146) gN := by
  refine Ct_of hl0 (by decide) (Nat.le_of_ble_eq_true rfl) ?_
  refine G_iload_n 2 d_cX0_secondUse_0 rfl ?_
  refine G_if_eq 8 d_cX0_secondUse_1 (by decide +kernel) (fun hc3148 => ?_) (fun hc3148 => ?_)
  · have r3149 : p3134.toInt = 0 := gj_eq hc3148 (show Int32.toInt 0 = 0 by decide)
    have bp3134' : gB p3134 0 0 := ⟨by omega, by omega⟩
    refine G_aload_n 0 d_cX0_secondUse_8 rfl ?_
    refine G_getf 0 7 d_cX0_secondUse_9 rfl (gk_X0 D I) (Nat.le_of_ble_eq_true rfl) w_1_178 rfl ?_
    refine G_iload_n 1 d_cX0_secondUse_12 rfl ?_
    refine G_iald 8 0 d_cX0_secondUse_13 rfl rfl (gB_in bp3133 (by decide) (by decide)) (G_nam fun z3150 hz3150 => ?_)
    have bz3150 : gB z3150 (-2147483648) 2147483647 := gB_any z3150
    exact G_iret d_cX0_secondUse_14 rfl (Nat.le_of_ble_eq_true rfl) (Nat.le_of_ble_eq_true rfl) (Or.inl ⟨z3150, rfl, rfl, r3149, bz3150⟩)
  · have r3151 : p3134.toInt ≠ 0 := gj_neq hc3148 (show Int32.toInt 0 = 0 by decide)
    have bp3134' : gB p3134 1 1 := ⟨by omega, by omega⟩
    refine G_iconst (-1) d_cX0_secondUse_4 (by decide +kernel) ?_
    refine G_goto 14 d_cX0_secondUse_5 (by decide +kernel) ?_
    exact G_iret d_cX0_secondUse_14 rfl (Nat.le_of_ble_eq_true rfl) (Nat.le_of_ble_eq_true rfl) (Or.inr (⟨rfl, rfl, r3151⟩))
abbrev ky_3175_Code_drop : gKey := (cX0_drop, 4, yX0_drop.cls, none, [], yX0_drop.name, fun _ _ => True)
abbrev po_3175_Code_drop (I : FieldType → ClassId) (q3152 : Nat) (q3153 : Nat) (q3154 : Nat) (q3155 : Nat) (q3156 : Nat) (q3157 : Nat) (q3158 : Nat) (q3159 : Nat) (q3160 : Nat) (q3161 : Nat) (p3162 : Int32) (p3163 : Int32) (p3164 : Int32) (p3165 : Int32) (f3166 : Nat → Int32) (f3167 : Nat → Int32) (f3168 : Nat → Int32) (f3169 : Nat → Int32) (f3170 : Nat → Int32) (f3171 : Nat → Int32) (f3172 : Nat → Int32) (f3173 : Nat → Int32) (f3174 : Nat → Int32) : Option Value → va_W → Prop := fun r w => ∃ (o3281 : Int32) (f3282 : Nat → Int32) (f3283 : Nat → Int32) (f3284 : Nat → Int32) (f3285 : Nat → Int32) (f3286 : Nat → Int32) (f3287 : Nat → Int32) (f3288 : Nat → Int32), r = none ∧ w = [(q3152, .inr (5, [.ref q3153, .ref q3154, .ref q3155, .ref q3156, .ref q3157, .ref q3158, .ref q3159, .ref q3160, .ref q3161, .int p3163, .int o3281, .int p3165])), (q3153, .inl (I .int, 40, .inl f3282)), (q3154, .inl (I .int, 40, .inl f3167)), (q3155, .inl (I .int, 40, .inl f3168)), (q3156, .inl (I .int, 200, .inl f3283)), (q3157, .inl (I .int, 200, .inl f3284)), (q3158, .inl (I .int, 200, .inl f3285)), (q3159, .inl (I .int, 200, .inl f3286)), (q3160, .inl (I .int, 200, .inl f3287)), (q3161, .inl (I .int, 200, .inl f3288))] ∧ gB o3281 0 200 ∧ gF f3282 0 200 ∧ gF f3283 0 21 ∧ gF f3284 (-2147483648) 2147483647 ∧ gF f3285 (-2147483648) 2147483647 ∧ gF f3286 (-2147483648) 2147483647 ∧ gF f3287 (-2147483648) 2147483647 ∧ gF f3288 (-2147483648) 2147483647
set_option maxRecDepth 100000 in
set_option maxHeartbeats 4000000 in
theorem ct_3175_Code_drop (l : Launch) (hl0 : l.stackTraces = false) (D : va_G) (I : FieldType → ClassId) (q3152 : Nat) (q3153 : Nat) (q3154 : Nat) (q3155 : Nat) (q3156 : Nat) (q3157 : Nat) (q3158 : Nat) (q3159 : Nat) (q3160 : Nat) (q3161 : Nat) (p3162 : Int32) (p3163 : Int32) (p3164 : Int32) (p3165 : Int32) (f3166 : Nat → Int32) (f3167 : Nat → Int32) (f3168 : Nat → Int32) (f3169 : Nat → Int32) (f3170 : Nat → Int32) (f3171 : Nat → Int32) (f3172 : Nat → Int32) (f3173 : Nat → Int32) (f3174 : Nat → Int32) (bp3162 : gB p3162 0 199) (bp3163 : gB p3163 0 40) (bp3164 : gB p3164 0 200) (bp3165 : gB p3165 0 1) (bf3166 : gF f3166 0 200) (bf3169 : gF f3169 0 21) : Ct (gV D I) l yX0_drop cX0_drop 4 none 1 18 0 0 [.ref q3152, .int p3162] [(q3152, .inr (5, [.ref q3153, .ref q3154, .ref q3155, .ref q3156, .ref q3157, .ref q3158, .ref q3159, .ref q3160, .ref q3161, .int p3163, .int p3164, .int p3165])), (q3153, .inl (I .int, 40, .inl f3166)), (q3154, .inl (I .int, 40, .inl f3167)), (q3155, .inl (I .int, 40, .inl f3168)), (q3156, .inl (I .int, 200, .inl f3169)), (q3157, .inl (I .int, 200, .inl f3170)), (q3158, .inl (I .int, 200, .inl f3171)), (q3159, .inl (I .int, 200, .inl f3172)), (q3160, .inl (I .int, 200, .inl f3173)), (q3161, .inl (I .int, 200, .inl f3174))] (po_3175_Code_drop I q3152 q3153 q3154 q3155 q3156 q3157 q3158 q3159 q3160 q3161 p3162 p3163 p3164 p3165 f3166 f3167 f3168 f3169 f3170 f3171 f3172 f3173 f3174) gN := by
  refine Ct_of hl0 (by decide) (Nat.le_of_ble_eq_true rfl) ?_
  refine G_aload_n 0 d_cX0_drop_0 rfl ?_
  refine G_getf 0 10 d_cX0_drop_1 rfl (gk_X0 D I) (Nat.le_of_ble_eq_true rfl) w_1_197 rfl ?_
  refine G_iload_n 1 d_cX0_drop_4 rfl ?_
  refine G_isub d_cX0_drop_5 (G_nam fun z3176 hz3176 => ?_)
  have ez3176 : z3176.toInt = p3164.toInt - p3162.toInt := by rw [gI_sub hz3176 bp3164 bp3162 (by decide) (by decide)]
  have bz3176 : gB z3176 (-199) 200 := gB_sub (gI_sub hz3176 bp3164 bp3162 (by decide) (by decide)) bp3164 bp3162 (by decide) (by decide)
  refine G_iconst 1 d_cX0_drop_6 (by decide +kernel) ?_
  refine G_isub d_cX0_drop_7 (G_nam fun z3177 hz3177 => ?_)
  have ez3177 : z3177.toInt = z3176.toInt - 1 := by rw [gI_sub hz3177 bz3176 (gBl (show Int32.toInt 1 = 1 by decide)) (by decide) (by decide), show Int32.toInt 1 = 1 from by decide]
  have bz3177 : gB z3177 (-200) 199 := gB_sub (gI_sub hz3177 bz3176 (gBl (show Int32.toInt 1 = 1 by decide)) (by decide) (by decide)) bz3176 (gBl (show Int32.toInt 1 = 1 by decide)) (by decide) (by decide)
  refine G_istore_n (L' := [(2, .int z3177), (0, .ref q3152), (1, .int p3162)]) d_cX0_drop_8 (Nat.le_of_ble_eq_true rfl) rfl ?_
  refine G_iload_n 2 d_cX0_drop_9 rfl ?_
  refine G_if_lt 17 d_cX0_drop_10 (by decide +kernel) (fun hc => absurd (show False by have := gj_lt hc (show Int32.toInt 0 = 0 by decide); omega) not_false) (fun _ => ?_)
  refine G_iload_n 0 d_cX0_drop_13 rfl ?_
  refine G_if_ge 18 d_cX0_drop_14 (by decide +kernel) (fun hc3178 => ?_) (fun hc3178 => ?_)
  · have r3179 : 0 ≤ z3177.toInt := gj_leL hc3178 (show Int32.toInt 0 = 0 by decide)
    have bz3177' : gB z3177 0 199 := ⟨by omega, by omega⟩
    refine G_aload_n 1 d_cX0_drop_18 rfl ?_
    refine G_getf 0 3 d_cX0_drop_19 rfl (gk_X0 D I) (Nat.le_of_ble_eq_true rfl) w_1_159 rfl ?_
    refine G_iload_n 2 d_cX0_drop_22 rfl ?_
    refine G_iconst 1 d_cX0_drop_23 (by decide +kernel) ?_
    refine G_iadd d_cX0_drop_24 (G_nam fun z3180 hz3180 => ?_)
    have ez3180 : z3180.toInt = p3162.toInt + 1 := by rw [gI_add hz3180 bp3162 (gBl (show Int32.toInt 1 = 1 by decide)) (by decide) (by decide), show Int32.toInt 1 = 1 from by decide]
    have bz3180 : gB z3180 1 200 := gB_add (gI_add hz3180 bp3162 (gBl (show Int32.toInt 1 = 1 by decide)) (by decide) (by decide)) bp3162 (gBl (show Int32.toInt 1 = 1 by decide)) (by decide) (by decide)
    refine G_aload_n 1 d_cX0_drop_25 rfl ?_
    refine G_getf 0 3 d_cX0_drop_26 rfl (gk_X0 D I) (Nat.le_of_ble_eq_true rfl) w_1_159 rfl ?_
    refine G_iload_n 2 d_cX0_drop_29 rfl ?_
    refine G_iload_n 0 d_cX0_drop_30 rfl ?_
    refine G_copyi 4 4 0 0 d_cX0_drop_31 w_5_111 w_5_113 w_5_112 w_1_34 rfl rfl rfl rfl (by omega) (by omega) (by omega) (by omega) (by omega) (Nat.le_of_ble_eq_true rfl) (Nat.le_of_ble_eq_true rfl) (fun f3181 hf3181 => ?_)
    refine G_ws (ws' := [(q3152, .inr (5, [.ref q3153, .ref q3154, .ref q3155, .ref q3156, .ref q3157, .ref q3158, .ref q3159, .ref q3160, .ref q3161, .int p3163, .int p3164, .int p3165])), (q3153, .inl (I .int, 40, .inl f3166)), (q3154, .inl (I .int, 40, .inl f3167)), (q3155, .inl (I .int, 40, .inl f3168)), (q3156, .inl (I .int, 200, .inl f3181)), (q3157, .inl (I .int, 200, .inl f3170)), (q3158, .inl (I .int, 200, .inl f3171)), (q3159, .inl (I .int, 200, .inl f3172)), (q3160, .inl (I .int, 200, .inl f3173)), (q3161, .inl (I .int, 200, .inl f3174))]) (cs' := 0) (sl' := 0) rfl rfl rfl ?_
    have bf3181 : gF f3181 0 21 := gF_cpy hf3181 bf3169 bf3169
    refine G_aload_n 1 d_cX0_drop_34 rfl ?_
    refine G_getf 0 4 d_cX0_drop_35 rfl (gk_X0 D I) (Nat.le_of_ble_eq_true rfl) w_1_163 rfl ?_
    refine G_iload_n 2 d_cX0_drop_38 rfl ?_
    refine G_iconst 1 d_cX0_drop_39 (by decide +kernel) ?_
    refine G_iadd d_cX0_drop_40 (G_nam fun z3182 hz3182 => ?_)
    have ez3182 : z3182.toInt = p3162.toInt + 1 := by rw [gI_add hz3182 bp3162 (gBl (show Int32.toInt 1 = 1 by decide)) (by decide) (by decide), show Int32.toInt 1 = 1 from by decide]
    have bz3182 : gB z3182 1 200 := gB_add (gI_add hz3182 bp3162 (gBl (show Int32.toInt 1 = 1 by decide)) (by decide) (by decide)) bp3162 (gBl (show Int32.toInt 1 = 1 by decide)) (by decide) (by decide)
    refine G_aload_n 1 d_cX0_drop_41 rfl ?_
    refine G_getf 0 4 d_cX0_drop_42 rfl (gk_X0 D I) (Nat.le_of_ble_eq_true rfl) w_1_163 rfl ?_
    refine G_iload_n 2 d_cX0_drop_45 rfl ?_
    refine G_iload_n 0 d_cX0_drop_46 rfl ?_
    refine G_copyi 5 5 0 0 d_cX0_drop_47 w_5_111 w_5_113 w_5_112 w_1_34 rfl rfl rfl rfl (by omega) (by omega) (by omega) (by omega) (by omega) (Nat.le_of_ble_eq_true rfl) (Nat.le_of_ble_eq_true rfl) (fun f3183 hf3183 => ?_)
    refine G_ws (ws' := [(q3152, .inr (5, [.ref q3153, .ref q3154, .ref q3155, .ref q3156, .ref q3157, .ref q3158, .ref q3159, .ref q3160, .ref q3161, .int p3163, .int p3164, .int p3165])), (q3153, .inl (I .int, 40, .inl f3166)), (q3154, .inl (I .int, 40, .inl f3167)), (q3155, .inl (I .int, 40, .inl f3168)), (q3156, .inl (I .int, 200, .inl f3181)), (q3157, .inl (I .int, 200, .inl f3183)), (q3158, .inl (I .int, 200, .inl f3171)), (q3159, .inl (I .int, 200, .inl f3172)), (q3160, .inl (I .int, 200, .inl f3173)), (q3161, .inl (I .int, 200, .inl f3174))]) (cs' := 0) (sl' := 0) rfl rfl rfl ?_
    refine G_aload_n 1 d_cX0_drop_50 rfl ?_
    refine G_getf 0 5 d_cX0_drop_51 rfl (gk_X0 D I) (Nat.le_of_ble_eq_true rfl) w_1_168 rfl ?_
    refine G_iload_n 2 d_cX0_drop_54 rfl ?_
    refine G_iconst 1 d_cX0_drop_55 (by decide +kernel) ?_
    refine G_iadd d_cX0_drop_56 (G_nam fun z3184 hz3184 => ?_)
    have ez3184 : z3184.toInt = p3162.toInt + 1 := by rw [gI_add hz3184 bp3162 (gBl (show Int32.toInt 1 = 1 by decide)) (by decide) (by decide), show Int32.toInt 1 = 1 from by decide]
    have bz3184 : gB z3184 1 200 := gB_add (gI_add hz3184 bp3162 (gBl (show Int32.toInt 1 = 1 by decide)) (by decide) (by decide)) bp3162 (gBl (show Int32.toInt 1 = 1 by decide)) (by decide) (by decide)
    refine G_aload_n 1 d_cX0_drop_57 rfl ?_
    refine G_getf 0 5 d_cX0_drop_58 rfl (gk_X0 D I) (Nat.le_of_ble_eq_true rfl) w_1_168 rfl ?_
    refine G_iload_n 2 d_cX0_drop_61 rfl ?_
    refine G_iload_n 0 d_cX0_drop_62 rfl ?_
    refine G_copyi 6 6 0 0 d_cX0_drop_63 w_5_111 w_5_113 w_5_112 w_1_34 rfl rfl rfl rfl (by omega) (by omega) (by omega) (by omega) (by omega) (Nat.le_of_ble_eq_true rfl) (Nat.le_of_ble_eq_true rfl) (fun f3185 hf3185 => ?_)
    refine G_ws (ws' := [(q3152, .inr (5, [.ref q3153, .ref q3154, .ref q3155, .ref q3156, .ref q3157, .ref q3158, .ref q3159, .ref q3160, .ref q3161, .int p3163, .int p3164, .int p3165])), (q3153, .inl (I .int, 40, .inl f3166)), (q3154, .inl (I .int, 40, .inl f3167)), (q3155, .inl (I .int, 40, .inl f3168)), (q3156, .inl (I .int, 200, .inl f3181)), (q3157, .inl (I .int, 200, .inl f3183)), (q3158, .inl (I .int, 200, .inl f3185)), (q3159, .inl (I .int, 200, .inl f3172)), (q3160, .inl (I .int, 200, .inl f3173)), (q3161, .inl (I .int, 200, .inl f3174))]) (cs' := 0) (sl' := 0) rfl rfl rfl ?_
    refine G_aload_n 1 d_cX0_drop_66 rfl ?_
    refine G_getf 0 6 d_cX0_drop_67 rfl (gk_X0 D I) (Nat.le_of_ble_eq_true rfl) w_1_174 rfl ?_
    refine G_iload_n 2 d_cX0_drop_70 rfl ?_
    refine G_iconst 1 d_cX0_drop_71 (by decide +kernel) ?_
    refine G_iadd d_cX0_drop_72 (G_nam fun z3186 hz3186 => ?_)
    have ez3186 : z3186.toInt = p3162.toInt + 1 := by rw [gI_add hz3186 bp3162 (gBl (show Int32.toInt 1 = 1 by decide)) (by decide) (by decide), show Int32.toInt 1 = 1 from by decide]
    have bz3186 : gB z3186 1 200 := gB_add (gI_add hz3186 bp3162 (gBl (show Int32.toInt 1 = 1 by decide)) (by decide) (by decide)) bp3162 (gBl (show Int32.toInt 1 = 1 by decide)) (by decide) (by decide)
    refine G_aload_n 1 d_cX0_drop_73 rfl ?_
    refine G_getf 0 6 d_cX0_drop_74 rfl (gk_X0 D I) (Nat.le_of_ble_eq_true rfl) w_1_174 rfl ?_
    refine G_iload_n 2 d_cX0_drop_77 rfl ?_
    refine G_iload_n 0 d_cX0_drop_78 rfl ?_
    refine G_copyi 7 7 0 0 d_cX0_drop_79 w_5_111 w_5_113 w_5_112 w_1_34 rfl rfl rfl rfl (by omega) (by omega) (by omega) (by omega) (by omega) (Nat.le_of_ble_eq_true rfl) (Nat.le_of_ble_eq_true rfl) (fun f3187 hf3187 => ?_)
    refine G_ws (ws' := [(q3152, .inr (5, [.ref q3153, .ref q3154, .ref q3155, .ref q3156, .ref q3157, .ref q3158, .ref q3159, .ref q3160, .ref q3161, .int p3163, .int p3164, .int p3165])), (q3153, .inl (I .int, 40, .inl f3166)), (q3154, .inl (I .int, 40, .inl f3167)), (q3155, .inl (I .int, 40, .inl f3168)), (q3156, .inl (I .int, 200, .inl f3181)), (q3157, .inl (I .int, 200, .inl f3183)), (q3158, .inl (I .int, 200, .inl f3185)), (q3159, .inl (I .int, 200, .inl f3187)), (q3160, .inl (I .int, 200, .inl f3173)), (q3161, .inl (I .int, 200, .inl f3174))]) (cs' := 0) (sl' := 0) rfl rfl rfl ?_
    refine G_aload_n 1 d_cX0_drop_82 rfl ?_
    refine G_getf 0 7 d_cX0_drop_83 rfl (gk_X0 D I) (Nat.le_of_ble_eq_true rfl) w_1_178 rfl ?_
    refine G_iload_n 2 d_cX0_drop_86 rfl ?_
    refine G_iconst 1 d_cX0_drop_87 (by decide +kernel) ?_
    refine G_iadd d_cX0_drop_88 (G_nam fun z3188 hz3188 => ?_)
    have ez3188 : z3188.toInt = p3162.toInt + 1 := by rw [gI_add hz3188 bp3162 (gBl (show Int32.toInt 1 = 1 by decide)) (by decide) (by decide), show Int32.toInt 1 = 1 from by decide]
    have bz3188 : gB z3188 1 200 := gB_add (gI_add hz3188 bp3162 (gBl (show Int32.toInt 1 = 1 by decide)) (by decide) (by decide)) bp3162 (gBl (show Int32.toInt 1 = 1 by decide)) (by decide) (by decide)
    refine G_aload_n 1 d_cX0_drop_89 rfl ?_
    refine G_getf 0 7 d_cX0_drop_90 rfl (gk_X0 D I) (Nat.le_of_ble_eq_true rfl) w_1_178 rfl ?_
    refine G_iload_n 2 d_cX0_drop_93 rfl ?_
    refine G_iload_n 0 d_cX0_drop_94 rfl ?_
    refine G_copyi 8 8 0 0 d_cX0_drop_95 w_5_111 w_5_113 w_5_112 w_1_34 rfl rfl rfl rfl (by omega) (by omega) (by omega) (by omega) (by omega) (Nat.le_of_ble_eq_true rfl) (Nat.le_of_ble_eq_true rfl) (fun f3189 hf3189 => ?_)
    refine G_ws (ws' := [(q3152, .inr (5, [.ref q3153, .ref q3154, .ref q3155, .ref q3156, .ref q3157, .ref q3158, .ref q3159, .ref q3160, .ref q3161, .int p3163, .int p3164, .int p3165])), (q3153, .inl (I .int, 40, .inl f3166)), (q3154, .inl (I .int, 40, .inl f3167)), (q3155, .inl (I .int, 40, .inl f3168)), (q3156, .inl (I .int, 200, .inl f3181)), (q3157, .inl (I .int, 200, .inl f3183)), (q3158, .inl (I .int, 200, .inl f3185)), (q3159, .inl (I .int, 200, .inl f3187)), (q3160, .inl (I .int, 200, .inl f3189)), (q3161, .inl (I .int, 200, .inl f3174))]) (cs' := 0) (sl' := 0) rfl rfl rfl ?_
    refine G_aload_n 1 d_cX0_drop_98 rfl ?_
    refine G_getf 0 8 d_cX0_drop_99 rfl (gk_X0 D I) (Nat.le_of_ble_eq_true rfl) w_1_183 rfl ?_
    refine G_iload_n 2 d_cX0_drop_102 rfl ?_
    refine G_iconst 1 d_cX0_drop_103 (by decide +kernel) ?_
    refine G_iadd d_cX0_drop_104 (G_nam fun z3190 hz3190 => ?_)
    have ez3190 : z3190.toInt = p3162.toInt + 1 := by rw [gI_add hz3190 bp3162 (gBl (show Int32.toInt 1 = 1 by decide)) (by decide) (by decide), show Int32.toInt 1 = 1 from by decide]
    have bz3190 : gB z3190 1 200 := gB_add (gI_add hz3190 bp3162 (gBl (show Int32.toInt 1 = 1 by decide)) (by decide) (by decide)) bp3162 (gBl (show Int32.toInt 1 = 1 by decide)) (by decide) (by decide)
    refine G_aload_n 1 d_cX0_drop_105 rfl ?_
    refine G_getf 0 8 d_cX0_drop_106 rfl (gk_X0 D I) (Nat.le_of_ble_eq_true rfl) w_1_183 rfl ?_
    refine G_iload_n 2 d_cX0_drop_109 rfl ?_
    refine G_iload_n 0 d_cX0_drop_110 rfl ?_
    refine G_copyi 9 9 0 0 d_cX0_drop_111 w_5_111 w_5_113 w_5_112 w_1_34 rfl rfl rfl rfl (by omega) (by omega) (by omega) (by omega) (by omega) (Nat.le_of_ble_eq_true rfl) (Nat.le_of_ble_eq_true rfl) (fun f3191 hf3191 => ?_)
    refine G_ws (ws' := [(q3152, .inr (5, [.ref q3153, .ref q3154, .ref q3155, .ref q3156, .ref q3157, .ref q3158, .ref q3159, .ref q3160, .ref q3161, .int p3163, .int p3164, .int p3165])), (q3153, .inl (I .int, 40, .inl f3166)), (q3154, .inl (I .int, 40, .inl f3167)), (q3155, .inl (I .int, 40, .inl f3168)), (q3156, .inl (I .int, 200, .inl f3181)), (q3157, .inl (I .int, 200, .inl f3183)), (q3158, .inl (I .int, 200, .inl f3185)), (q3159, .inl (I .int, 200, .inl f3187)), (q3160, .inl (I .int, 200, .inl f3189)), (q3161, .inl (I .int, 200, .inl f3191))]) (cs' := 0) (sl' := 0) rfl rfl rfl ?_
    refine G_aload_n 1 d_cX0_drop_114 rfl ?_
    refine G_dup d_cX0_drop_115 rfl ?_
    refine G_getf 0 10 d_cX0_drop_116 rfl (gk_X0 D I) (Nat.le_of_ble_eq_true rfl) w_1_197 rfl ?_
    refine G_iconst 1 d_cX0_drop_119 (by decide +kernel) ?_
    refine G_isub d_cX0_drop_120 (G_nam fun z3192 hz3192 => ?_)
    have ez3192 : z3192.toInt = p3164.toInt - 1 := by rw [gI_sub hz3192 bp3164 (gBl (show Int32.toInt 1 = 1 by decide)) (by decide) (by decide), show Int32.toInt 1 = 1 from by decide]
    have bz3192 : gB z3192 (-1) 199 := gB_sub (gI_sub hz3192 bp3164 (gBl (show Int32.toInt 1 = 1 by decide)) (by decide) (by decide)) bp3164 (gBl (show Int32.toInt 1 = 1 by decide)) (by decide) (by decide)
    refine G_putf (ws' := [(q3152, .inr (5, [.ref q3153, .ref q3154, .ref q3155, .ref q3156, .ref q3157, .ref q3158, .ref q3159, .ref q3160, .ref q3161, .int p3163, .int z3192, .int p3165])), (q3153, .inl (I .int, 40, .inl f3166)), (q3154, .inl (I .int, 40, .inl f3167)), (q3155, .inl (I .int, 40, .inl f3168)), (q3156, .inl (I .int, 200, .inl f3181)), (q3157, .inl (I .int, 200, .inl f3183)), (q3158, .inl (I .int, 200, .inl f3185)), (q3159, .inl (I .int, 200, .inl f3187)), (q3160, .inl (I .int, 200, .inl f3189)), (q3161, .inl (I .int, 200, .inl f3191))]) 0 10 d_cX0_drop_121 rfl (gk_X0 D I) (Nat.le_of_ble_eq_true rfl) w_1_197 rfl rfl rfl (Nat.le_of_ble_eq_true rfl) rfl ?_
    refine G_iconst 0 d_cX0_drop_124 (by decide +kernel) ?_
    refine G_istore_n (L' := [(3, .int 0), (2, .int z3177), (0, .ref q3152), (1, .int p3162)]) d_cX0_drop_125 (Nat.le_of_ble_eq_true rfl) rfl ?_
    have hlp126_3268 : ∀ (n126_3268 : Nat) (g3267 : Int32) (f3268 : Nat → Int32), gB g3267 0 40 → gF f3268 0 200 → ((41 : Int) - g3267.toInt).toNat < n126_3268 → G (gV D I) l (gRm 1 18 0 0) (gM (gV D I) (po_3175_Code_drop I q3152 q3153 q3154 q3155 q3156 q3157 q3158 q3159 q3160 q3161 p3162 p3163 p3164 p3165 f3166 f3167 f3168 f3169 f3170 f3171 f3172 f3173 f3174) gN 0 0) ky_3175_Code_drop 126 [(3, .int g3267), (2, .int z3177), (0, .ref q3152), (1, .int p3162)] [] [(q3152, .inr (5, [.ref q3153, .ref q3154, .ref q3155, .ref q3156, .ref q3157, .ref q3158, .ref q3159, .ref q3160, .ref q3161, .int p3163, .int z3192, .int p3165])), (q3153, .inl (I .int, 40, .inl f3268)), (q3154, .inl (I .int, 40, .inl f3167)), (q3155, .inl (I .int, 40, .inl f3168)), (q3156, .inl (I .int, 200, .inl f3181)), (q3157, .inl (I .int, 200, .inl f3183)), (q3158, .inl (I .int, 200, .inl f3185)), (q3159, .inl (I .int, 200, .inl f3187)), (q3160, .inl (I .int, 200, .inl f3189)), (q3161, .inl (I .int, 200, .inl f3191))] 0 0 := by
      intro n126_3268
      induction n126_3268 with
      | zero => intro g3267 f3268 bg3267 bf3268 hm126_3268; exact absurd hm126_3268 (Nat.not_lt_zero _)
      | succ n126_3268 ih126_3268 =>
        intro g3267 f3268 bg3267 bf3268 hm126_3268
        refine G_iload_n 0 d_cX0_drop_126 rfl ?_
        refine G_aload_n 2 d_cX0_drop_127 rfl ?_
        refine G_getf 0 9 d_cX0_drop_128 rfl (gk_X0 D I) (Nat.le_of_ble_eq_true rfl) w_1_187 rfl ?_
        refine G_icmp_ge 160 d_cX0_drop_131 (by decide +kernel) (fun hc3269 => ?_) (fun hc3269 => ?_)
        · have r3270 : p3163.toInt ≤ g3267.toInt := gC_le hc3269
          exact G_vret d_cX0_drop_160 rfl (Nat.le_of_ble_eq_true rfl) (Nat.le_of_ble_eq_true rfl) ⟨z3192, f3268, f3181, f3183, f3185, f3187, f3189, f3191, rfl, rfl, ⟨by omega, by omega⟩, bf3268, bf3181, (gF_any f3183), (gF_any f3185), (gF_any f3187), (gF_any f3189), (gF_any f3191)⟩
        · have r3271 : g3267.toInt < p3163.toInt := gC_nle hc3269
          have bg3267' : gB g3267 0 39 := ⟨by omega, by omega⟩
          have bp3163' : gB p3163 1 40 := ⟨by omega, by omega⟩
          refine G_aload_n 2 d_cX0_drop_134 rfl ?_
          refine G_getf 0 0 d_cX0_drop_135 rfl (gk_X0 D I) (Nat.le_of_ble_eq_true rfl) w_1_142 rfl ?_
          refine G_iload_n 0 d_cX0_drop_138 rfl ?_
          refine G_iald 1 0 d_cX0_drop_139 rfl rfl (gB_in bg3267' (by decide) (by decide)) (G_nam fun z3272 hz3272 => ?_)
          have bz3272 : gB z3272 0 200 := by rw [hz3272]; exact bf3268 _
          refine G_iload_n 3 d_cX0_drop_140 rfl ?_
          refine G_icmp_le 154 d_cX0_drop_141 (by decide +kernel) (fun hc3273 => ?_) (fun hc3273 => ?_)
          · have r3274 : z3272.toInt ≤ p3162.toInt := gC_le hc3273
            have bz3272' : gB z3272 0 199 := ⟨by omega, by omega⟩
            obtain ⟨z3275, hz3275⟩ : ∃ z : Int32, z = g3267 + Int32.ofInt 1 := ⟨_, rfl⟩
            have ez3275 : z3275.toInt = g3267.toInt + 1 := gI_inc hz3275 (by decide) bg3267' (by decide) (by decide)
            have bz3275 : gB z3275 1 40 := ⟨by omega, by omega⟩
            refine G_iinc (L' := [(3, .int z3275), (2, .int z3177), (0, .ref q3152), (1, .int p3162)]) z3275 0 d_cX0_drop_154 rfl hz3275.symm (Nat.le_of_ble_eq_true rfl) rfl ?_
            refine G_goto 126 d_cX0_drop_157 (by decide +kernel) ?_
            exact ih126_3268 z3275 f3268 (gB_w bz3275 (by decide) (by decide)) bf3268 (by omega)
          · have r3276 : p3162.toInt < z3272.toInt := gC_nle hc3273
            have bz3272' : gB z3272 1 200 := ⟨by omega, by omega⟩
            refine G_aload_n 2 d_cX0_drop_144 rfl ?_
            refine G_getf 0 0 d_cX0_drop_145 rfl (gk_X0 D I) (Nat.le_of_ble_eq_true rfl) w_1_142 rfl ?_
            refine G_iload_n 0 d_cX0_drop_148 rfl ?_
            refine G_dup2_11 d_cX0_drop_149 rfl rfl ?_
            refine G_iald 1 0 d_cX0_drop_150 rfl rfl (gB_in bg3267' (by decide) (by decide)) (G_eqi (y := z3272) hz3272.symm ?_)
            refine G_iconst 1 d_cX0_drop_151 (by decide +kernel) ?_
            refine G_isub d_cX0_drop_152 (G_nam fun z3277 hz3277 => ?_)
            have ez3277 : z3277.toInt = z3272.toInt - 1 := by rw [gI_sub hz3277 bz3272' (gBl (show Int32.toInt 1 = 1 by decide)) (by decide) (by decide), show Int32.toInt 1 = 1 from by decide]
            have bz3277 : gB z3277 0 199 := gB_sub (gI_sub hz3277 bz3272' (gBl (show Int32.toInt 1 = 1 by decide)) (by decide) (by decide)) bz3272' (gBl (show Int32.toInt 1 = 1 by decide)) (by decide) (by decide)
            refine G_iastN 1 0 d_cX0_drop_153 rfl rfl (gB_in bg3267' (by decide) (by decide)) (fun f3278 hf3278 => ?_)
            refine G_ws (ws' := [(q3152, .inr (5, [.ref q3153, .ref q3154, .ref q3155, .ref q3156, .ref q3157, .ref q3158, .ref q3159, .ref q3160, .ref q3161, .int p3163, .int z3192, .int p3165])), (q3153, .inl (I .int, 40, .inl f3278)), (q3154, .inl (I .int, 40, .inl f3167)), (q3155, .inl (I .int, 40, .inl f3168)), (q3156, .inl (I .int, 200, .inl f3181)), (q3157, .inl (I .int, 200, .inl f3183)), (q3158, .inl (I .int, 200, .inl f3185)), (q3159, .inl (I .int, 200, .inl f3187)), (q3160, .inl (I .int, 200, .inl f3189)), (q3161, .inl (I .int, 200, .inl f3191))]) (cs' := 0) (sl' := 0) rfl rfl rfl ?_
            have bf3278 : gF f3278 0 200 := gF_upd hf3278 bf3268 (gB_w bz3277 (by decide) (by decide))
            obtain ⟨z3279, hz3279⟩ : ∃ z : Int32, z = g3267 + Int32.ofInt 1 := ⟨_, rfl⟩
            have ez3279 : z3279.toInt = g3267.toInt + 1 := gI_inc hz3279 (by decide) bg3267' (by decide) (by decide)
            have bz3279 : gB z3279 1 40 := ⟨by omega, by omega⟩
            refine G_iinc (L' := [(3, .int z3279), (2, .int z3177), (0, .ref q3152), (1, .int p3162)]) z3279 0 d_cX0_drop_154 rfl hz3279.symm (Nat.le_of_ble_eq_true rfl) rfl ?_
            refine G_goto 126 d_cX0_drop_157 (by decide +kernel) ?_
            exact ih126_3268 z3279 f3278 (gB_w bz3279 (by decide) (by decide)) bf3278 (by omega)
    exact hlp126_3268 (((41 : Int) - 0).toNat + 1) 0 f3166 (gB_w (gBl (show Int32.toInt 0 = 0 by decide)) (by decide) (by decide)) bf3166 (Nat.lt_succ_self _)
  · have r3280 : z3177.toInt < 0 := gj_nleL hc3178 (show Int32.toInt 0 = 0 by decide)
    have bz3177' : gB z3177 (-200) (-1) := ⟨by omega, by omega⟩
    exact G_vret d_cX0_drop_17 rfl (Nat.le_of_ble_eq_true rfl) (Nat.le_of_ble_eq_true rfl) ⟨p3164, f3166, f3169, f3170, f3171, f3172, f3173, f3174, rfl, rfl, bp3164, bf3166, bf3169, (gF_any f3170), (gF_any f3171), (gF_any f3172), (gF_any f3173), (gF_any f3174)⟩
