abbrev ky_2194_Code_renameSlots : gKey := (cX0_renameSlots, 3, yX0_renameSlots.cls, none, [], yX0_renameSlots.name, fun _ _ => True)
abbrev po_2194_Code_renameSlots (I : FieldType → ClassId) (q2170 : Nat) (q2171 : Nat) (q2172 : Nat) (q2173 : Nat) (q2174 : Nat) (q2175 : Nat) (q2176 : Nat) (q2177 : Nat) (q2178 : Nat) (q2179 : Nat) (q2180 : Nat) (p2181 : Int32) (p2182 : Int32) (p2183 : Int32) (f2184 : Nat → Int32) (f2185 : Nat → Int32) (f2186 : Nat → Int32) (f2187 : Nat → Int32) (f2188 : Nat → Int32) (f2189 : Nat → Int32) (f2190 : Nat → Int32) (f2191 : Nat → Int32) (f2192 : Nat → Int32) (f2193 : Nat → Int32) : Option Value → va_W → Prop := fun r w => ∃ (f2480 : Nat → Int32), r = none ∧ w = [(q2170, .inr (5, [.ref q2172, .ref q2173, .ref q2174, .ref q2175, .ref q2176, .ref q2177, .ref q2178, .ref q2179, .ref q2180, .int p2181, .int p2182, .int p2183])), (q2171, .inl (I .int, 720, .inl f2184)), (q2172, .inl (I .int, 40, .inl f2185)), (q2173, .inl (I .int, 40, .inl f2186)), (q2174, .inl (I .int, 40, .inl f2187)), (q2175, .inl (I .int, 200, .inl f2188)), (q2176, .inl (I .int, 200, .inl f2189)), (q2177, .inl (I .int, 200, .inl f2190)), (q2178, .inl (I .int, 200, .inl f2191)), (q2179, .inl (I .int, 200, .inl f2192)), (q2180, .inl (I .int, 200, .inl f2480))] ∧ gF f2480 (-2147483648) 2147483647
set_option maxRecDepth 100000 in
set_option maxHeartbeats 4000000 in
theorem ct_2194_Code_renameSlots (l : Launch) (hl0 : l.stackTraces = false) (D : va_G) (I : FieldType → ClassId) (q2170 : Nat) (q2171 : Nat) (q2172 : Nat) (q2173 : Nat) (q2174 : Nat) (q2175 : Nat) (q2176 : Nat) (q2177 : Nat) (q2178 : Nat) (q2179 : Nat) (q2180 : Nat) (p2181 : Int32) (p2182 : Int32) (p2183 : Int32) (f2184 : Nat → Int32) (f2185 : Nat → Int32) (f2186 : Nat → Int32) (f2187 : Nat → Int32) (f2188 : Nat → Int32) (f2189 : Nat → Int32) (f2190 : Nat → Int32) (f2191 : Nat → Int32) (f2192 : Nat → Int32) (f2193 : Nat → Int32) (bp2181 : gB p2181 0 40) (bp2182 : gB p2182 0 200) (bp2183 : gB p2183 0 1) (bf2185 : gF f2185 0 200) : Ct (gV D I) l yX0_renameSlots cX0_renameSlots 3 none 1 21 0 0 [.ref q2170, .ref q2171] [(q2170, .inr (5, [.ref q2172, .ref q2173, .ref q2174, .ref q2175, .ref q2176, .ref q2177, .ref q2178, .ref q2179, .ref q2180, .int p2181, .int p2182, .int p2183])), (q2171, .inl (I .int, 720, .inl f2184)), (q2172, .inl (I .int, 40, .inl f2185)), (q2173, .inl (I .int, 40, .inl f2186)), (q2174, .inl (I .int, 40, .inl f2187)), (q2175, .inl (I .int, 200, .inl f2188)), (q2176, .inl (I .int, 200, .inl f2189)), (q2177, .inl (I .int, 200, .inl f2190)), (q2178, .inl (I .int, 200, .inl f2191)), (q2179, .inl (I .int, 200, .inl f2192)), (q2180, .inl (I .int, 200, .inl f2193))] (po_2194_Code_renameSlots I q2170 q2171 q2172 q2173 q2174 q2175 q2176 q2177 q2178 q2179 q2180 p2181 p2182 p2183 f2184 f2185 f2186 f2187 f2188 f2189 f2190 f2191 f2192 f2193) gN := by
  refine Ct_of hl0 (by decide) (Nat.le_of_ble_eq_true rfl) ?_
  refine G_iconst 0 d_cX0_renameSlots_0 (by decide +kernel) ?_
  refine G_istore_n (L' := [(2, .int 0), (0, .ref q2170), (1, .ref q2171)]) d_cX0_renameSlots_1 (Nat.le_of_ble_eq_true rfl) rfl ?_
  have hlp2_2439 : ∀ (n2_2439 : Nat) (g2438 : Int32) (f2439 : Nat → Int32), gB g2438 0 200 → gF f2439 (-2147483648) 2147483647 → ((201 : Int) - g2438.toInt).toNat < n2_2439 → G (gV D I) l (gRm 1 21 0 0) (gM (gV D I) (po_2194_Code_renameSlots I q2170 q2171 q2172 q2173 q2174 q2175 q2176 q2177 q2178 q2179 q2180 p2181 p2182 p2183 f2184 f2185 f2186 f2187 f2188 f2189 f2190 f2191 f2192 f2193) gN 0 0) ky_2194_Code_renameSlots 2 [(2, .int g2438), (0, .ref q2170), (1, .ref q2171)] [] [(q2170, .inr (5, [.ref q2172, .ref q2173, .ref q2174, .ref q2175, .ref q2176, .ref q2177, .ref q2178, .ref q2179, .ref q2180, .int p2181, .int p2182, .int p2183])), (q2171, .inl (I .int, 720, .inl f2184)), (q2172, .inl (I .int, 40, .inl f2185)), (q2173, .inl (I .int, 40, .inl f2186)), (q2174, .inl (I .int, 40, .inl f2187)), (q2175, .inl (I .int, 200, .inl f2188)), (q2176, .inl (I .int, 200, .inl f2189)), (q2177, .inl (I .int, 200, .inl f2190)), (q2178, .inl (I .int, 200, .inl f2191)), (q2179, .inl (I .int, 200, .inl f2192)), (q2180, .inl (I .int, 200, .inl f2439))] 0 0 := by
    intro n2_2439
    induction n2_2439 with
    | zero => intro g2438 f2439 bg2438 bf2439 hm2_2439; exact absurd hm2_2439 (Nat.not_lt_zero _)
    | succ n2_2439 ih2_2439 =>
      intro g2438 f2439 bg2438 bf2439 hm2_2439
      refine G_iload_n 0 d_cX0_renameSlots_2 rfl ?_
      refine G_aload_n 1 d_cX0_renameSlots_3 rfl ?_
      refine G_getf 0 10 d_cX0_renameSlots_4 rfl (gk_X0 D I) (Nat.le_of_ble_eq_true rfl) w_1_197 rfl ?_
      refine G_icmp_ge 54 d_cX0_renameSlots_7 (by decide +kernel) (fun hc2440 => ?_) (fun hc2440 => ?_)
      · have r2441 : p2182.toInt ≤ g2438.toInt := gC_le hc2440
        exact G_vret d_cX0_renameSlots_54 rfl (Nat.le_of_ble_eq_true rfl) (Nat.le_of_ble_eq_true rfl) ⟨f2439, rfl, rfl, bf2439⟩
      · have r2442 : g2438.toInt < p2182.toInt := gC_nle hc2440
        have bg2438' : gB g2438 0 199 := ⟨by omega, by omega⟩
        have bp2182' : gB p2182 1 200 := ⟨by omega, by omega⟩
        refine G_aload_n 1 d_cX0_renameSlots_10 rfl ?_
        refine G_getf 0 3 d_cX0_renameSlots_11 rfl (gk_X0 D I) (Nat.le_of_ble_eq_true rfl) w_1_159 rfl ?_
        refine G_iload_n 0 d_cX0_renameSlots_14 rfl ?_
        refine G_iald 5 0 d_cX0_renameSlots_15 rfl rfl (gB_in bg2438' (by decide) (by decide)) (G_nam fun z2443 hz2443 => ?_)
        have bz2443 : gB z2443 (-2147483648) 2147483647 := gB_any z2443
        refine G_bipush 17 d_cX0_renameSlots_16 (by decide +kernel) ?_
        refine G_icmp_eq 32 d_cX0_renameSlots_18 (by decide +kernel) (fun hc2444 => ?_) (fun hc2444 => ?_)
        · have r2445 : z2443.toInt = 17 := gj_eq hc2444 (show Int32.toInt 17 = 17 by decide)
          have bz2443' : gB z2443 17 17 := ⟨by omega, by omega⟩
          refine G_aload_n 1 d_cX0_renameSlots_32 rfl ?_
          refine G_getf 0 8 d_cX0_renameSlots_33 rfl (gk_X0 D I) (Nat.le_of_ble_eq_true rfl) w_1_183 rfl ?_
          refine G_iload_n 0 d_cX0_renameSlots_36 rfl ?_
          refine G_aload_n 2 d_cX0_renameSlots_37 rfl ?_
          refine G_aload_n 1 d_cX0_renameSlots_38 rfl ?_
          refine G_getf 0 8 d_cX0_renameSlots_39 rfl (gk_X0 D I) (Nat.le_of_ble_eq_true rfl) w_1_183 rfl ?_
          refine G_iload_n 0 d_cX0_renameSlots_42 rfl ?_
          refine G_iald 10 0 d_cX0_renameSlots_43 rfl rfl (gB_in bg2438' (by decide) (by decide)) (G_nam fun z2446 hz2446 => ?_)
          have bz2446 : gB z2446 (-2147483648) 2147483647 := by rw [hz2446]; exact bf2439 _
          refine G_callS (As := [.ref q2171, .int z2446]) (wr := [(q2170, .inr (5, [.ref q2172, .ref q2173, .ref q2174, .ref q2175, .ref q2176, .ref q2177, .ref q2178, .ref q2179, .ref q2180, .int p2181, .int p2182, .int p2183])), (q2172, .inl (I .int, 40, .inl f2185)), (q2173, .inl (I .int, 40, .inl f2186)), (q2174, .inl (I .int, 40, .inl f2187)), (q2175, .inl (I .int, 200, .inl f2188)), (q2176, .inl (I .int, 200, .inl f2189)), (q2177, .inl (I .int, 200, .inl f2190)), (q2178, .inl (I .int, 200, .inl f2191)), (q2179, .inl (I .int, 200, .inl f2192)), (q2180, .inl (I .int, 200, .inl f2439))]) (gV_ok D I) (ct_955_Code_nameIn l hl0 D I q2171 z2446 f2184 ) d_cX0_renameSlots_44 ⟨w_5_154, w_1_5, w_5_156, by decide, rfl, (Nat.le_of_ble_eq_true rfl), (Nat.le_of_ble_eq_true rfl)⟩ w_5_155 [1] [0, 2, 3, 4, 5, 6, 7, 8, 9, 10] rfl rfl rfl rfl (by decide) (Nat.le_of_ble_eq_true rfl) (Nat.le_of_ble_eq_true rfl) (Nat.le_of_ble_eq_true rfl) (fun r w hp => ?_) (fun _ _ _ z => z.elim)
          rcases hp with ⟨rfl, rfl, r2447⟩ | ⟨rfl, rfl, r2448, r2449⟩ | ⟨z2450, rfl, rfl, r2451, r2452, r2453⟩
          · have bz2446' : gB z2446 (-2147483648) (-1) := ⟨by omega, by omega⟩
            change G _ _ _ _ _ _ _ (.int z2446 :: _) _ _ _
            refine G_ws (ws' := [(q2170, .inr (5, [.ref q2172, .ref q2173, .ref q2174, .ref q2175, .ref q2176, .ref q2177, .ref q2178, .ref q2179, .ref q2180, .int p2181, .int p2182, .int p2183])), (q2172, .inl (I .int, 40, .inl f2185)), (q2173, .inl (I .int, 40, .inl f2186)), (q2174, .inl (I .int, 40, .inl f2187)), (q2175, .inl (I .int, 200, .inl f2188)), (q2176, .inl (I .int, 200, .inl f2189)), (q2177, .inl (I .int, 200, .inl f2190)), (q2178, .inl (I .int, 200, .inl f2191)), (q2179, .inl (I .int, 200, .inl f2192)), (q2180, .inl (I .int, 200, .inl f2439)), (q2171, .inl (I .int, 720, .inl f2184))]) (cs' := 0) (sl' := 0) rfl rfl rfl ?_
            refine G_iastN 9 0 d_cX0_renameSlots_47 rfl rfl (gB_in bg2438' (by decide) (by decide)) (fun f2454 hf2454 => ?_)
            refine G_ws (ws' := [(q2170, .inr (5, [.ref q2172, .ref q2173, .ref q2174, .ref q2175, .ref q2176, .ref q2177, .ref q2178, .ref q2179, .ref q2180, .int p2181, .int p2182, .int p2183])), (q2172, .inl (I .int, 40, .inl f2185)), (q2173, .inl (I .int, 40, .inl f2186)), (q2174, .inl (I .int, 40, .inl f2187)), (q2175, .inl (I .int, 200, .inl f2188)), (q2176, .inl (I .int, 200, .inl f2189)), (q2177, .inl (I .int, 200, .inl f2190)), (q2178, .inl (I .int, 200, .inl f2191)), (q2179, .inl (I .int, 200, .inl f2192)), (q2180, .inl (I .int, 200, .inl f2454)), (q2171, .inl (I .int, 720, .inl f2184))]) (cs' := 0) (sl' := 0) rfl rfl rfl ?_
            obtain ⟨z2455, hz2455⟩ : ∃ z : Int32, z = g2438 + Int32.ofInt 1 := ⟨_, rfl⟩
            have ez2455 : z2455.toInt = g2438.toInt + 1 := gI_inc hz2455 (by decide) bg2438' (by decide) (by decide)
            have bz2455 : gB z2455 1 200 := ⟨by omega, by omega⟩
            refine G_iinc (L' := [(2, .int z2455), (0, .ref q2170), (1, .ref q2171)]) z2455 0 d_cX0_renameSlots_48 rfl hz2455.symm (Nat.le_of_ble_eq_true rfl) rfl ?_
            refine G_goto 2 d_cX0_renameSlots_51 (by decide +kernel) ?_
            refine G_sub (ws' := [(q2170, .inr (5, [.ref q2172, .ref q2173, .ref q2174, .ref q2175, .ref q2176, .ref q2177, .ref q2178, .ref q2179, .ref q2180, .int p2181, .int p2182, .int p2183])), (q2171, .inl (I .int, 720, .inl f2184)), (q2172, .inl (I .int, 40, .inl f2185)), (q2173, .inl (I .int, 40, .inl f2186)), (q2174, .inl (I .int, 40, .inl f2187)), (q2175, .inl (I .int, 200, .inl f2188)), (q2176, .inl (I .int, 200, .inl f2189)), (q2177, .inl (I .int, 200, .inl f2190)), (q2178, .inl (I .int, 200, .inl f2191)), (q2179, .inl (I .int, 200, .inl f2192)), (q2180, .inl (I .int, 200, .inl f2454))]) [0, 10, 1, 2, 3, 4, 5, 6, 7, 8, 9] rfl rfl ?_
            exact ih2_2439 z2455 f2454 (gB_w bz2455 (by decide) (by decide)) (gF_any f2454) (by omega)
          · have bz2446' : gB z2446 0 2147483647 := ⟨by omega, by omega⟩
            have bz2446'' : gB z2446 720 2147483647 := ⟨by omega, by omega⟩
            change G _ _ _ _ _ _ _ (.int z2446 :: _) _ _ _
            refine G_ws (ws' := [(q2170, .inr (5, [.ref q2172, .ref q2173, .ref q2174, .ref q2175, .ref q2176, .ref q2177, .ref q2178, .ref q2179, .ref q2180, .int p2181, .int p2182, .int p2183])), (q2172, .inl (I .int, 40, .inl f2185)), (q2173, .inl (I .int, 40, .inl f2186)), (q2174, .inl (I .int, 40, .inl f2187)), (q2175, .inl (I .int, 200, .inl f2188)), (q2176, .inl (I .int, 200, .inl f2189)), (q2177, .inl (I .int, 200, .inl f2190)), (q2178, .inl (I .int, 200, .inl f2191)), (q2179, .inl (I .int, 200, .inl f2192)), (q2180, .inl (I .int, 200, .inl f2439)), (q2171, .inl (I .int, 720, .inl f2184))]) (cs' := 0) (sl' := 0) rfl rfl rfl ?_
            refine G_iastN 9 0 d_cX0_renameSlots_47 rfl rfl (gB_in bg2438' (by decide) (by decide)) (fun f2456 hf2456 => ?_)
            refine G_ws (ws' := [(q2170, .inr (5, [.ref q2172, .ref q2173, .ref q2174, .ref q2175, .ref q2176, .ref q2177, .ref q2178, .ref q2179, .ref q2180, .int p2181, .int p2182, .int p2183])), (q2172, .inl (I .int, 40, .inl f2185)), (q2173, .inl (I .int, 40, .inl f2186)), (q2174, .inl (I .int, 40, .inl f2187)), (q2175, .inl (I .int, 200, .inl f2188)), (q2176, .inl (I .int, 200, .inl f2189)), (q2177, .inl (I .int, 200, .inl f2190)), (q2178, .inl (I .int, 200, .inl f2191)), (q2179, .inl (I .int, 200, .inl f2192)), (q2180, .inl (I .int, 200, .inl f2456)), (q2171, .inl (I .int, 720, .inl f2184))]) (cs' := 0) (sl' := 0) rfl rfl rfl ?_
            obtain ⟨z2457, hz2457⟩ : ∃ z : Int32, z = g2438 + Int32.ofInt 1 := ⟨_, rfl⟩
            have ez2457 : z2457.toInt = g2438.toInt + 1 := gI_inc hz2457 (by decide) bg2438' (by decide) (by decide)
            have bz2457 : gB z2457 1 200 := ⟨by omega, by omega⟩
            refine G_iinc (L' := [(2, .int z2457), (0, .ref q2170), (1, .ref q2171)]) z2457 0 d_cX0_renameSlots_48 rfl hz2457.symm (Nat.le_of_ble_eq_true rfl) rfl ?_
            refine G_goto 2 d_cX0_renameSlots_51 (by decide +kernel) ?_
            refine G_sub (ws' := [(q2170, .inr (5, [.ref q2172, .ref q2173, .ref q2174, .ref q2175, .ref q2176, .ref q2177, .ref q2178, .ref q2179, .ref q2180, .int p2181, .int p2182, .int p2183])), (q2171, .inl (I .int, 720, .inl f2184)), (q2172, .inl (I .int, 40, .inl f2185)), (q2173, .inl (I .int, 40, .inl f2186)), (q2174, .inl (I .int, 40, .inl f2187)), (q2175, .inl (I .int, 200, .inl f2188)), (q2176, .inl (I .int, 200, .inl f2189)), (q2177, .inl (I .int, 200, .inl f2190)), (q2178, .inl (I .int, 200, .inl f2191)), (q2179, .inl (I .int, 200, .inl f2192)), (q2180, .inl (I .int, 200, .inl f2456))]) [0, 10, 1, 2, 3, 4, 5, 6, 7, 8, 9] rfl rfl ?_
            exact ih2_2439 z2457 f2456 (gB_w bz2457 (by decide) (by decide)) (gF_any f2456) (by omega)
          · have bz2446' : gB z2446 0 2147483647 := ⟨by omega, by omega⟩
            have bz2446'' : gB z2446 0 719 := ⟨by omega, by omega⟩
            change G _ _ _ _ _ _ _ (.int z2450 :: _) _ _ _
            refine G_ws (ws' := [(q2170, .inr (5, [.ref q2172, .ref q2173, .ref q2174, .ref q2175, .ref q2176, .ref q2177, .ref q2178, .ref q2179, .ref q2180, .int p2181, .int p2182, .int p2183])), (q2172, .inl (I .int, 40, .inl f2185)), (q2173, .inl (I .int, 40, .inl f2186)), (q2174, .inl (I .int, 40, .inl f2187)), (q2175, .inl (I .int, 200, .inl f2188)), (q2176, .inl (I .int, 200, .inl f2189)), (q2177, .inl (I .int, 200, .inl f2190)), (q2178, .inl (I .int, 200, .inl f2191)), (q2179, .inl (I .int, 200, .inl f2192)), (q2180, .inl (I .int, 200, .inl f2439)), (q2171, .inl (I .int, 720, .inl f2184))]) (cs' := 0) (sl' := 0) rfl rfl rfl ?_
            refine G_iastN 9 0 d_cX0_renameSlots_47 rfl rfl (gB_in bg2438' (by decide) (by decide)) (fun f2458 hf2458 => ?_)
            refine G_ws (ws' := [(q2170, .inr (5, [.ref q2172, .ref q2173, .ref q2174, .ref q2175, .ref q2176, .ref q2177, .ref q2178, .ref q2179, .ref q2180, .int p2181, .int p2182, .int p2183])), (q2172, .inl (I .int, 40, .inl f2185)), (q2173, .inl (I .int, 40, .inl f2186)), (q2174, .inl (I .int, 40, .inl f2187)), (q2175, .inl (I .int, 200, .inl f2188)), (q2176, .inl (I .int, 200, .inl f2189)), (q2177, .inl (I .int, 200, .inl f2190)), (q2178, .inl (I .int, 200, .inl f2191)), (q2179, .inl (I .int, 200, .inl f2192)), (q2180, .inl (I .int, 200, .inl f2458)), (q2171, .inl (I .int, 720, .inl f2184))]) (cs' := 0) (sl' := 0) rfl rfl rfl ?_
            obtain ⟨z2459, hz2459⟩ : ∃ z : Int32, z = g2438 + Int32.ofInt 1 := ⟨_, rfl⟩
            have ez2459 : z2459.toInt = g2438.toInt + 1 := gI_inc hz2459 (by decide) bg2438' (by decide) (by decide)
            have bz2459 : gB z2459 1 200 := ⟨by omega, by omega⟩
            refine G_iinc (L' := [(2, .int z2459), (0, .ref q2170), (1, .ref q2171)]) z2459 0 d_cX0_renameSlots_48 rfl hz2459.symm (Nat.le_of_ble_eq_true rfl) rfl ?_
            refine G_goto 2 d_cX0_renameSlots_51 (by decide +kernel) ?_
            refine G_sub (ws' := [(q2170, .inr (5, [.ref q2172, .ref q2173, .ref q2174, .ref q2175, .ref q2176, .ref q2177, .ref q2178, .ref q2179, .ref q2180, .int p2181, .int p2182, .int p2183])), (q2171, .inl (I .int, 720, .inl f2184)), (q2172, .inl (I .int, 40, .inl f2185)), (q2173, .inl (I .int, 40, .inl f2186)), (q2174, .inl (I .int, 40, .inl f2187)), (q2175, .inl (I .int, 200, .inl f2188)), (q2176, .inl (I .int, 200, .inl f2189)), (q2177, .inl (I .int, 200, .inl f2190)), (q2178, .inl (I .int, 200, .inl f2191)), (q2179, .inl (I .int, 200, .inl f2192)), (q2180, .inl (I .int, 200, .inl f2458))]) [0, 10, 1, 2, 3, 4, 5, 6, 7, 8, 9] rfl rfl ?_
            exact ih2_2439 z2459 f2458 (gB_w bz2459 (by decide) (by decide)) (gF_any f2458) (by omega)
        · have r2460 : z2443.toInt ≠ 17 := gj_neq hc2444 (show Int32.toInt 17 = 17 by decide)
          refine G_aload_n 1 d_cX0_renameSlots_21 rfl ?_
          refine G_getf 0 3 d_cX0_renameSlots_22 rfl (gk_X0 D I) (Nat.le_of_ble_eq_true rfl) w_1_159 rfl ?_
          refine G_iload_n 0 d_cX0_renameSlots_25 rfl ?_
          refine G_iald 5 0 d_cX0_renameSlots_26 rfl rfl (gB_in bg2438' (by decide) (by decide)) (G_nam fun z2461 hz2461 => ?_)
          have bz2461 : gB z2461 (-2147483648) 2147483647 := gB_any z2461
          refine G_bipush 18 d_cX0_renameSlots_27 (by decide +kernel) ?_
          refine G_icmp_ne 48 d_cX0_renameSlots_29 (by decide +kernel) (fun hc2462 => ?_) (fun hc2462 => ?_)
          · have r2463 : z2461.toInt ≠ 18 := gj_neq hc2462 (show Int32.toInt 18 = 18 by decide)
            obtain ⟨z2464, hz2464⟩ : ∃ z : Int32, z = g2438 + Int32.ofInt 1 := ⟨_, rfl⟩
            have ez2464 : z2464.toInt = g2438.toInt + 1 := gI_inc hz2464 (by decide) bg2438' (by decide) (by decide)
            have bz2464 : gB z2464 1 200 := ⟨by omega, by omega⟩
            refine G_iinc (L' := [(2, .int z2464), (0, .ref q2170), (1, .ref q2171)]) z2464 0 d_cX0_renameSlots_48 rfl hz2464.symm (Nat.le_of_ble_eq_true rfl) rfl ?_
            refine G_goto 2 d_cX0_renameSlots_51 (by decide +kernel) ?_
            exact ih2_2439 z2464 f2439 (gB_w bz2464 (by decide) (by decide)) bf2439 (by omega)
          · have r2465 : z2461.toInt = 18 := gj_eq hc2462 (show Int32.toInt 18 = 18 by decide)
            have bz2461' : gB z2461 18 18 := ⟨by omega, by omega⟩
            refine G_aload_n 1 d_cX0_renameSlots_32 rfl ?_
            refine G_getf 0 8 d_cX0_renameSlots_33 rfl (gk_X0 D I) (Nat.le_of_ble_eq_true rfl) w_1_183 rfl ?_
            refine G_iload_n 0 d_cX0_renameSlots_36 rfl ?_
            refine G_aload_n 2 d_cX0_renameSlots_37 rfl ?_
            refine G_aload_n 1 d_cX0_renameSlots_38 rfl ?_
            refine G_getf 0 8 d_cX0_renameSlots_39 rfl (gk_X0 D I) (Nat.le_of_ble_eq_true rfl) w_1_183 rfl ?_
            refine G_iload_n 0 d_cX0_renameSlots_42 rfl ?_
            refine G_iald 10 0 d_cX0_renameSlots_43 rfl rfl (gB_in bg2438' (by decide) (by decide)) (G_nam fun z2466 hz2466 => ?_)
            have bz2466 : gB z2466 (-2147483648) 2147483647 := by rw [hz2466]; exact bf2439 _
            refine G_callS (As := [.ref q2171, .int z2466]) (wr := [(q2170, .inr (5, [.ref q2172, .ref q2173, .ref q2174, .ref q2175, .ref q2176, .ref q2177, .ref q2178, .ref q2179, .ref q2180, .int p2181, .int p2182, .int p2183])), (q2172, .inl (I .int, 40, .inl f2185)), (q2173, .inl (I .int, 40, .inl f2186)), (q2174, .inl (I .int, 40, .inl f2187)), (q2175, .inl (I .int, 200, .inl f2188)), (q2176, .inl (I .int, 200, .inl f2189)), (q2177, .inl (I .int, 200, .inl f2190)), (q2178, .inl (I .int, 200, .inl f2191)), (q2179, .inl (I .int, 200, .inl f2192)), (q2180, .inl (I .int, 200, .inl f2439))]) (gV_ok D I) (ct_955_Code_nameIn l hl0 D I q2171 z2466 f2184 ) d_cX0_renameSlots_44 ⟨w_5_154, w_1_5, w_5_156, by decide, rfl, (Nat.le_of_ble_eq_true rfl), (Nat.le_of_ble_eq_true rfl)⟩ w_5_155 [1] [0, 2, 3, 4, 5, 6, 7, 8, 9, 10] rfl rfl rfl rfl (by decide) (Nat.le_of_ble_eq_true rfl) (Nat.le_of_ble_eq_true rfl) (Nat.le_of_ble_eq_true rfl) (fun r w hp => ?_) (fun _ _ _ z => z.elim)
            rcases hp with ⟨rfl, rfl, r2467⟩ | ⟨rfl, rfl, r2468, r2469⟩ | ⟨z2470, rfl, rfl, r2471, r2472, r2473⟩
            · have bz2466' : gB z2466 (-2147483648) (-1) := ⟨by omega, by omega⟩
              change G _ _ _ _ _ _ _ (.int z2466 :: _) _ _ _
              refine G_ws (ws' := [(q2170, .inr (5, [.ref q2172, .ref q2173, .ref q2174, .ref q2175, .ref q2176, .ref q2177, .ref q2178, .ref q2179, .ref q2180, .int p2181, .int p2182, .int p2183])), (q2172, .inl (I .int, 40, .inl f2185)), (q2173, .inl (I .int, 40, .inl f2186)), (q2174, .inl (I .int, 40, .inl f2187)), (q2175, .inl (I .int, 200, .inl f2188)), (q2176, .inl (I .int, 200, .inl f2189)), (q2177, .inl (I .int, 200, .inl f2190)), (q2178, .inl (I .int, 200, .inl f2191)), (q2179, .inl (I .int, 200, .inl f2192)), (q2180, .inl (I .int, 200, .inl f2439)), (q2171, .inl (I .int, 720, .inl f2184))]) (cs' := 0) (sl' := 0) rfl rfl rfl ?_
              refine G_iastN 9 0 d_cX0_renameSlots_47 rfl rfl (gB_in bg2438' (by decide) (by decide)) (fun f2474 hf2474 => ?_)
              refine G_ws (ws' := [(q2170, .inr (5, [.ref q2172, .ref q2173, .ref q2174, .ref q2175, .ref q2176, .ref q2177, .ref q2178, .ref q2179, .ref q2180, .int p2181, .int p2182, .int p2183])), (q2172, .inl (I .int, 40, .inl f2185)), (q2173, .inl (I .int, 40, .inl f2186)), (q2174, .inl (I .int, 40, .inl f2187)), (q2175, .inl (I .int, 200, .inl f2188)), (q2176, .inl (I .int, 200, .inl f2189)), (q2177, .inl (I .int, 200, .inl f2190)), (q2178, .inl (I .int, 200, .inl f2191)), (q2179, .inl (I .int, 200, .inl f2192)), (q2180, .inl (I .int, 200, .inl f2474)), (q2171, .inl (I .int, 720, .inl f2184))]) (cs' := 0) (sl' := 0) rfl rfl rfl ?_
              obtain ⟨z2475, hz2475⟩ : ∃ z : Int32, z = g2438 + Int32.ofInt 1 := ⟨_, rfl⟩
              have ez2475 : z2475.toInt = g2438.toInt + 1 := gI_inc hz2475 (by decide) bg2438' (by decide) (by decide)
              have bz2475 : gB z2475 1 200 := ⟨by omega, by omega⟩
              refine G_iinc (L' := [(2, .int z2475), (0, .ref q2170), (1, .ref q2171)]) z2475 0 d_cX0_renameSlots_48 rfl hz2475.symm (Nat.le_of_ble_eq_true rfl) rfl ?_
              refine G_goto 2 d_cX0_renameSlots_51 (by decide +kernel) ?_
              refine G_sub (ws' := [(q2170, .inr (5, [.ref q2172, .ref q2173, .ref q2174, .ref q2175, .ref q2176, .ref q2177, .ref q2178, .ref q2179, .ref q2180, .int p2181, .int p2182, .int p2183])), (q2171, .inl (I .int, 720, .inl f2184)), (q2172, .inl (I .int, 40, .inl f2185)), (q2173, .inl (I .int, 40, .inl f2186)), (q2174, .inl (I .int, 40, .inl f2187)), (q2175, .inl (I .int, 200, .inl f2188)), (q2176, .inl (I .int, 200, .inl f2189)), (q2177, .inl (I .int, 200, .inl f2190)), (q2178, .inl (I .int, 200, .inl f2191)), (q2179, .inl (I .int, 200, .inl f2192)), (q2180, .inl (I .int, 200, .inl f2474))]) [0, 10, 1, 2, 3, 4, 5, 6, 7, 8, 9] rfl rfl ?_
              exact ih2_2439 z2475 f2474 (gB_w bz2475 (by decide) (by decide)) (gF_any f2474) (by omega)
            · have bz2466' : gB z2466 0 2147483647 := ⟨by omega, by omega⟩
              have bz2466'' : gB z2466 720 2147483647 := ⟨by omega, by omega⟩
              change G _ _ _ _ _ _ _ (.int z2466 :: _) _ _ _
              refine G_ws (ws' := [(q2170, .inr (5, [.ref q2172, .ref q2173, .ref q2174, .ref q2175, .ref q2176, .ref q2177, .ref q2178, .ref q2179, .ref q2180, .int p2181, .int p2182, .int p2183])), (q2172, .inl (I .int, 40, .inl f2185)), (q2173, .inl (I .int, 40, .inl f2186)), (q2174, .inl (I .int, 40, .inl f2187)), (q2175, .inl (I .int, 200, .inl f2188)), (q2176, .inl (I .int, 200, .inl f2189)), (q2177, .inl (I .int, 200, .inl f2190)), (q2178, .inl (I .int, 200, .inl f2191)), (q2179, .inl (I .int, 200, .inl f2192)), (q2180, .inl (I .int, 200, .inl f2439)), (q2171, .inl (I .int, 720, .inl f2184))]) (cs' := 0) (sl' := 0) rfl rfl rfl ?_
              refine G_iastN 9 0 d_cX0_renameSlots_47 rfl rfl (gB_in bg2438' (by decide) (by decide)) (fun f2476 hf2476 => ?_)
              refine G_ws (ws' := [(q2170, .inr (5, [.ref q2172, .ref q2173, .ref q2174, .ref q2175, .ref q2176, .ref q2177, .ref q2178, .ref q2179, .ref q2180, .int p2181, .int p2182, .int p2183])), (q2172, .inl (I .int, 40, .inl f2185)), (q2173, .inl (I .int, 40, .inl f2186)), (q2174, .inl (I .int, 40, .inl f2187)), (q2175, .inl (I .int, 200, .inl f2188)), (q2176, .inl (I .int, 200, .inl f2189)), (q2177, .inl (I .int, 200, .inl f2190)), (q2178, .inl (I .int, 200, .inl f2191)), (q2179, .inl (I .int, 200, .inl f2192)), (q2180, .inl (I .int, 200, .inl f2476)), (q2171, .inl (I .int, 720, .inl f2184))]) (cs' := 0) (sl' := 0) rfl rfl rfl ?_
              obtain ⟨z2477, hz2477⟩ : ∃ z : Int32, z = g2438 + Int32.ofInt 1 := ⟨_, rfl⟩
              have ez2477 : z2477.toInt = g2438.toInt + 1 := gI_inc hz2477 (by decide) bg2438' (by decide) (by decide)
              have bz2477 : gB z2477 1 200 := ⟨by omega, by omega⟩
              refine G_iinc (L' := [(2, .int z2477), (0, .ref q2170), (1, .ref q2171)]) z2477 0 d_cX0_renameSlots_48 rfl hz2477.symm (Nat.le_of_ble_eq_true rfl) rfl ?_
              refine G_goto 2 d_cX0_renameSlots_51 (by decide +kernel) ?_
              refine G_sub (ws' := [(q2170, .inr (5, [.ref q2172, .ref q2173, .ref q2174, .ref q2175, .ref q2176, .ref q2177, .ref q2178, .ref q2179, .ref q2180, .int p2181, .int p2182, .int p2183])), (q2171, .inl (I .int, 720, .inl f2184)), (q2172, .inl (I .int, 40, .inl f2185)), (q2173, .inl (I .int, 40, .inl f2186)), (q2174, .inl (I .int, 40, .inl f2187)), (q2175, .inl (I .int, 200, .inl f2188)), (q2176, .inl (I .int, 200, .inl f2189)), (q2177, .inl (I .int, 200, .inl f2190)), (q2178, .inl (I .int, 200, .inl f2191)), (q2179, .inl (I .int, 200, .inl f2192)), (q2180, .inl (I .int, 200, .inl f2476))]) [0, 10, 1, 2, 3, 4, 5, 6, 7, 8, 9] rfl rfl ?_
              exact ih2_2439 z2477 f2476 (gB_w bz2477 (by decide) (by decide)) (gF_any f2476) (by omega)
            · have bz2466' : gB z2466 0 2147483647 := ⟨by omega, by omega⟩
              have bz2466'' : gB z2466 0 719 := ⟨by omega, by omega⟩
              change G _ _ _ _ _ _ _ (.int z2470 :: _) _ _ _
              refine G_ws (ws' := [(q2170, .inr (5, [.ref q2172, .ref q2173, .ref q2174, .ref q2175, .ref q2176, .ref q2177, .ref q2178, .ref q2179, .ref q2180, .int p2181, .int p2182, .int p2183])), (q2172, .inl (I .int, 40, .inl f2185)), (q2173, .inl (I .int, 40, .inl f2186)), (q2174, .inl (I .int, 40, .inl f2187)), (q2175, .inl (I .int, 200, .inl f2188)), (q2176, .inl (I .int, 200, .inl f2189)), (q2177, .inl (I .int, 200, .inl f2190)), (q2178, .inl (I .int, 200, .inl f2191)), (q2179, .inl (I .int, 200, .inl f2192)), (q2180, .inl (I .int, 200, .inl f2439)), (q2171, .inl (I .int, 720, .inl f2184))]) (cs' := 0) (sl' := 0) rfl rfl rfl ?_
              refine G_iastN 9 0 d_cX0_renameSlots_47 rfl rfl (gB_in bg2438' (by decide) (by decide)) (fun f2478 hf2478 => ?_)
              refine G_ws (ws' := [(q2170, .inr (5, [.ref q2172, .ref q2173, .ref q2174, .ref q2175, .ref q2176, .ref q2177, .ref q2178, .ref q2179, .ref q2180, .int p2181, .int p2182, .int p2183])), (q2172, .inl (I .int, 40, .inl f2185)), (q2173, .inl (I .int, 40, .inl f2186)), (q2174, .inl (I .int, 40, .inl f2187)), (q2175, .inl (I .int, 200, .inl f2188)), (q2176, .inl (I .int, 200, .inl f2189)), (q2177, .inl (I .int, 200, .inl f2190)), (q2178, .inl (I .int, 200, .inl f2191)), (q2179, .inl (I .int, 200, .inl f2192)), (q2180, .inl (I .int, 200, .inl f2478)), (q2171, .inl (I .int, 720, .inl f2184))]) (cs' := 0) (sl' := 0) rfl rfl rfl ?_
              obtain ⟨z2479, hz2479⟩ : ∃ z : Int32, z = g2438 + Int32.ofInt 1 := ⟨_, rfl⟩
              have ez2479 : z2479.toInt = g2438.toInt + 1 := gI_inc hz2479 (by decide) bg2438' (by decide) (by decide)
              have bz2479 : gB z2479 1 200 := ⟨by omega, by omega⟩
              refine G_iinc (L' := [(2, .int z2479), (0, .ref q2170), (1, .ref q2171)]) z2479 0 d_cX0_renameSlots_48 rfl hz2479.symm (Nat.le_of_ble_eq_true rfl) rfl ?_
              refine G_goto 2 d_cX0_renameSlots_51 (by decide +kernel) ?_
              refine G_sub (ws' := [(q2170, .inr (5, [.ref q2172, .ref q2173, .ref q2174, .ref q2175, .ref q2176, .ref q2177, .ref q2178, .ref q2179, .ref q2180, .int p2181, .int p2182, .int p2183])), (q2171, .inl (I .int, 720, .inl f2184)), (q2172, .inl (I .int, 40, .inl f2185)), (q2173, .inl (I .int, 40, .inl f2186)), (q2174, .inl (I .int, 40, .inl f2187)), (q2175, .inl (I .int, 200, .inl f2188)), (q2176, .inl (I .int, 200, .inl f2189)), (q2177, .inl (I .int, 200, .inl f2190)), (q2178, .inl (I .int, 200, .inl f2191)), (q2179, .inl (I .int, 200, .inl f2192)), (q2180, .inl (I .int, 200, .inl f2478))]) [0, 10, 1, 2, 3, 4, 5, 6, 7, 8, 9] rfl rfl ?_
              exact ih2_2439 z2479 f2478 (gB_w bz2479 (by decide) (by decide)) (gF_any f2478) (by omega)
  exact hlp2_2439 (((201 : Int) - 0).toNat + 1) 0 f2193 (gB_w (gBl (show Int32.toInt 0 = 0 by decide)) (by decide) (by decide)) (gF_any f2193) (Nat.lt_succ_self _)
abbrev ky_2505_Code_replace : gKey := (cX0_replace, 4, yX0_replace.cls, none, [], yX0_replace.name, fun _ _ => True)
abbrev po_2505_Code_replace (I : FieldType → ClassId) (q2481 : Nat) (q2482 : Nat) (q2483 : Nat) (q2484 : Nat) (q2485 : Nat) (q2486 : Nat) (q2487 : Nat) (q2488 : Nat) (q2489 : Nat) (q2490 : Nat) (p2491 : Int32) (p2492 : Int32) (p2493 : Int32) (p2494 : Int32) (p2495 : Int32) (f2496 : Nat → Int32) (f2497 : Nat → Int32) (f2498 : Nat → Int32) (f2499 : Nat → Int32) (f2500 : Nat → Int32) (f2501 : Nat → Int32) (f2502 : Nat → Int32) (f2503 : Nat → Int32) (f2504 : Nat → Int32) : Option Value → va_W → Prop := fun r w => ∃ (f2942 : Nat → Int32) (f2943 : Nat → Int32) (f2944 : Nat → Int32), r = none ∧ w = [(q2481, .inr (5, [.ref q2482, .ref q2483, .ref q2484, .ref q2485, .ref q2486, .ref q2487, .ref q2488, .ref q2489, .ref q2490, .int p2493, .int p2494, .int p2495])), (q2482, .inl (I .int, 40, .inl f2496)), (q2483, .inl (I .int, 40, .inl f2497)), (q2484, .inl (I .int, 40, .inl f2498)), (q2485, .inl (I .int, 200, .inl f2499)), (q2486, .inl (I .int, 200, .inl f2942)), (q2487, .inl (I .int, 200, .inl f2943)), (q2488, .inl (I .int, 200, .inl f2502)), (q2489, .inl (I .int, 200, .inl f2944)), (q2490, .inl (I .int, 200, .inl f2504))] ∧ gF f2942 (-2147483648) 2147483647 ∧ gF f2943 (-2147483648) 2147483647 ∧ gF f2944 (-2147483648) 2147483647
set_option maxRecDepth 100000 in
set_option maxHeartbeats 4000000 in
theorem ct_2505_Code_replace (l : Launch) (hl0 : l.stackTraces = false) (D : va_G) (I : FieldType → ClassId) (q2481 : Nat) (q2482 : Nat) (q2483 : Nat) (q2484 : Nat) (q2485 : Nat) (q2486 : Nat) (q2487 : Nat) (q2488 : Nat) (q2489 : Nat) (q2490 : Nat) (p2491 : Int32) (p2492 : Int32) (p2493 : Int32) (p2494 : Int32) (p2495 : Int32) (f2496 : Nat → Int32) (f2497 : Nat → Int32) (f2498 : Nat → Int32) (f2499 : Nat → Int32) (f2500 : Nat → Int32) (f2501 : Nat → Int32) (f2502 : Nat → Int32) (f2503 : Nat → Int32) (f2504 : Nat → Int32) (bp2493 : gB p2493 0 40) (bp2494 : gB p2494 0 200) (bp2495 : gB p2495 0 1) (bf2496 : gF f2496 0 200) : Ct (gV D I) l yX0_replace cX0_replace 4 none 0 0 0 0 [.ref q2481, .int p2491, .int p2492] [(q2481, .inr (5, [.ref q2482, .ref q2483, .ref q2484, .ref q2485, .ref q2486, .ref q2487, .ref q2488, .ref q2489, .ref q2490, .int p2493, .int p2494, .int p2495])), (q2482, .inl (I .int, 40, .inl f2496)), (q2483, .inl (I .int, 40, .inl f2497)), (q2484, .inl (I .int, 40, .inl f2498)), (q2485, .inl (I .int, 200, .inl f2499)), (q2486, .inl (I .int, 200, .inl f2500)), (q2487, .inl (I .int, 200, .inl f2501)), (q2488, .inl (I .int, 200, .inl f2502)), (q2489, .inl (I .int, 200, .inl f2503)), (q2490, .inl (I .int, 200, .inl f2504))] (po_2505_Code_replace I q2481 q2482 q2483 q2484 q2485 q2486 q2487 q2488 q2489 q2490 p2491 p2492 p2493 p2494 p2495 f2496 f2497 f2498 f2499 f2500 f2501 f2502 f2503 f2504) gN := by
  refine Ct_of hl0 (by decide) (Nat.le_of_ble_eq_true rfl) ?_
  have bp2491 := gB_any p2491
  have bp2492 := gB_any p2492
  refine G_iconst 0 d_cX0_replace_0 (by decide +kernel) ?_
  refine G_istore_n (L' := [(3, .int 0), (0, .ref q2481), (1, .int p2491), (2, .int p2492)]) d_cX0_replace_1 (Nat.le_of_ble_eq_true rfl) rfl ?_
  have hlp2_2881 : ∀ (n2_2881 : Nat) (g2878 : Int32) (f2879 : Nat → Int32) (f2880 : Nat → Int32) (f2881 : Nat → Int32), gB g2878 0 200 → gF f2879 (-2147483648) 2147483647 → gF f2880 (-2147483648) 2147483647 → gF f2881 (-2147483648) 2147483647 → ((201 : Int) - g2878.toInt).toNat < n2_2881 → G (gV D I) l (gRm 0 0 0 0) (gM (gV D I) (po_2505_Code_replace I q2481 q2482 q2483 q2484 q2485 q2486 q2487 q2488 q2489 q2490 p2491 p2492 p2493 p2494 p2495 f2496 f2497 f2498 f2499 f2500 f2501 f2502 f2503 f2504) gN 0 0) ky_2505_Code_replace 2 [(3, .int g2878), (0, .ref q2481), (1, .int p2491), (2, .int p2492)] [] [(q2481, .inr (5, [.ref q2482, .ref q2483, .ref q2484, .ref q2485, .ref q2486, .ref q2487, .ref q2488, .ref q2489, .ref q2490, .int p2493, .int p2494, .int p2495])), (q2482, .inl (I .int, 40, .inl f2496)), (q2483, .inl (I .int, 40, .inl f2497)), (q2484, .inl (I .int, 40, .inl f2498)), (q2485, .inl (I .int, 200, .inl f2499)), (q2486, .inl (I .int, 200, .inl f2879)), (q2487, .inl (I .int, 200, .inl f2880)), (q2488, .inl (I .int, 200, .inl f2502)), (q2489, .inl (I .int, 200, .inl f2881)), (q2490, .inl (I .int, 200, .inl f2504))] 0 0 := by
    intro n2_2881
    induction n2_2881 with
    | zero => intro g2878 f2879 f2880 f2881 bg2878 bf2879 bf2880 bf2881 hm2_2881; exact absurd hm2_2881 (Nat.not_lt_zero _)
    | succ n2_2881 ih2_2881 =>
      intro g2878 f2879 f2880 f2881 bg2878 bf2879 bf2880 bf2881 hm2_2881
      refine G_iload_n 0 d_cX0_replace_2 rfl ?_
      refine G_aload_n 1 d_cX0_replace_3 rfl ?_
      refine G_getf 0 10 d_cX0_replace_4 rfl (gk_X0 D I) (Nat.le_of_ble_eq_true rfl) w_1_197 rfl ?_
      refine G_icmp_ge 94 d_cX0_replace_7 (by decide +kernel) (fun hc2882 => ?_) (fun hc2882 => ?_)
      · have r2883 : p2494.toInt ≤ g2878.toInt := gC_le hc2882
        exact G_vret d_cX0_replace_94 rfl (Nat.le_of_ble_eq_true rfl) (Nat.le_of_ble_eq_true rfl) ⟨f2879, f2880, f2881, rfl, rfl, bf2879, bf2880, bf2881⟩
      · have r2884 : g2878.toInt < p2494.toInt := gC_nle hc2882
        have bg2878' : gB g2878 0 199 := ⟨by omega, by omega⟩
        have bp2494' : gB p2494 1 200 := ⟨by omega, by omega⟩
        refine G_aload_n 1 d_cX0_replace_10 rfl ?_
        refine G_getf 0 4 d_cX0_replace_11 rfl (gk_X0 D I) (Nat.le_of_ble_eq_true rfl) w_1_163 rfl ?_
        refine G_iload_n 0 d_cX0_replace_14 rfl ?_
        refine G_aload_n 1 d_cX0_replace_15 rfl ?_
        refine G_getf 0 4 d_cX0_replace_16 rfl (gk_X0 D I) (Nat.le_of_ble_eq_true rfl) w_1_163 rfl ?_
        refine G_iload_n 0 d_cX0_replace_19 rfl ?_
        refine G_iald 5 0 d_cX0_replace_20 rfl rfl (gB_in bg2878' (by decide) (by decide)) (G_nam fun z2885 hz2885 => ?_)
        have bz2885 : gB z2885 (-2147483648) 2147483647 := by rw [hz2885]; exact bf2879 _
        refine G_iload_n 2 d_cX0_replace_21 rfl ?_
        refine G_icmp_ne 29 d_cX0_replace_22 (by decide +kernel) (fun hc2886 => ?_) (fun hc2886 => ?_)
        · have r2887 : z2885.toInt ≠ p2491.toInt := gC_ne hc2886
          refine G_aload_n 1 d_cX0_replace_29 rfl ?_
          refine G_getf 0 4 d_cX0_replace_30 rfl (gk_X0 D I) (Nat.le_of_ble_eq_true rfl) w_1_163 rfl ?_
          refine G_iload_n 0 d_cX0_replace_33 rfl ?_
          refine G_iald 5 0 d_cX0_replace_34 rfl rfl (gB_in bg2878' (by decide) (by decide)) (G_nam fun z2888 hz2888 => ?_)
          have bz2888 : gB z2888 (-2147483648) 2147483647 := by rw [hz2888]; exact bf2879 _
          refine G_iastN 5 0 d_cX0_replace_35 rfl rfl (gB_in bg2878' (by decide) (by decide)) (fun f2889 hf2889 => ?_)
          refine G_ws (ws' := [(q2481, .inr (5, [.ref q2482, .ref q2483, .ref q2484, .ref q2485, .ref q2486, .ref q2487, .ref q2488, .ref q2489, .ref q2490, .int p2493, .int p2494, .int p2495])), (q2482, .inl (I .int, 40, .inl f2496)), (q2483, .inl (I .int, 40, .inl f2497)), (q2484, .inl (I .int, 40, .inl f2498)), (q2485, .inl (I .int, 200, .inl f2499)), (q2486, .inl (I .int, 200, .inl f2889)), (q2487, .inl (I .int, 200, .inl f2880)), (q2488, .inl (I .int, 200, .inl f2502)), (q2489, .inl (I .int, 200, .inl f2881)), (q2490, .inl (I .int, 200, .inl f2504))]) (cs' := 0) (sl' := 0) rfl rfl rfl ?_
          refine G_aload_n 1 d_cX0_replace_36 rfl ?_
          refine G_getf 0 5 d_cX0_replace_37 rfl (gk_X0 D I) (Nat.le_of_ble_eq_true rfl) w_1_168 rfl ?_
          refine G_iload_n 0 d_cX0_replace_40 rfl ?_
          refine G_aload_n 1 d_cX0_replace_41 rfl ?_
          refine G_getf 0 5 d_cX0_replace_42 rfl (gk_X0 D I) (Nat.le_of_ble_eq_true rfl) w_1_168 rfl ?_
          refine G_iload_n 0 d_cX0_replace_45 rfl ?_
          refine G_iald 6 0 d_cX0_replace_46 rfl rfl (gB_in bg2878' (by decide) (by decide)) (G_nam fun z2890 hz2890 => ?_)
          have bz2890 : gB z2890 (-2147483648) 2147483647 := by rw [hz2890]; exact bf2880 _
          refine G_iload_n 2 d_cX0_replace_47 rfl ?_
          refine G_icmp_ne 55 d_cX0_replace_48 (by decide +kernel) (fun hc2891 => ?_) (fun hc2891 => ?_)
          · have r2892 : z2890.toInt ≠ p2491.toInt := gC_ne hc2891
            refine G_aload_n 1 d_cX0_replace_55 rfl ?_
            refine G_getf 0 5 d_cX0_replace_56 rfl (gk_X0 D I) (Nat.le_of_ble_eq_true rfl) w_1_168 rfl ?_
            refine G_iload_n 0 d_cX0_replace_59 rfl ?_
            refine G_iald 6 0 d_cX0_replace_60 rfl rfl (gB_in bg2878' (by decide) (by decide)) (G_nam fun z2893 hz2893 => ?_)
            have bz2893 : gB z2893 (-2147483648) 2147483647 := by rw [hz2893]; exact bf2880 _
            refine G_iastN 6 0 d_cX0_replace_61 rfl rfl (gB_in bg2878' (by decide) (by decide)) (fun f2894 hf2894 => ?_)
            refine G_ws (ws' := [(q2481, .inr (5, [.ref q2482, .ref q2483, .ref q2484, .ref q2485, .ref q2486, .ref q2487, .ref q2488, .ref q2489, .ref q2490, .int p2493, .int p2494, .int p2495])), (q2482, .inl (I .int, 40, .inl f2496)), (q2483, .inl (I .int, 40, .inl f2497)), (q2484, .inl (I .int, 40, .inl f2498)), (q2485, .inl (I .int, 200, .inl f2499)), (q2486, .inl (I .int, 200, .inl f2889)), (q2487, .inl (I .int, 200, .inl f2894)), (q2488, .inl (I .int, 200, .inl f2502)), (q2489, .inl (I .int, 200, .inl f2881)), (q2490, .inl (I .int, 200, .inl f2504))]) (cs' := 0) (sl' := 0) rfl rfl rfl ?_
            refine G_aload_n 1 d_cX0_replace_62 rfl ?_
            refine G_getf 0 7 d_cX0_replace_63 rfl (gk_X0 D I) (Nat.le_of_ble_eq_true rfl) w_1_178 rfl ?_
            refine G_iload_n 0 d_cX0_replace_66 rfl ?_
            refine G_aload_n 1 d_cX0_replace_67 rfl ?_
            refine G_getf 0 7 d_cX0_replace_68 rfl (gk_X0 D I) (Nat.le_of_ble_eq_true rfl) w_1_178 rfl ?_
            refine G_iload_n 0 d_cX0_replace_71 rfl ?_
            refine G_iald 8 0 d_cX0_replace_72 rfl rfl (gB_in bg2878' (by decide) (by decide)) (G_nam fun z2895 hz2895 => ?_)
            have bz2895 : gB z2895 (-2147483648) 2147483647 := by rw [hz2895]; exact bf2881 _
            refine G_iload_n 2 d_cX0_replace_73 rfl ?_
            refine G_icmp_ne 81 d_cX0_replace_74 (by decide +kernel) (fun hc2896 => ?_) (fun hc2896 => ?_)
            · have r2897 : z2895.toInt ≠ p2491.toInt := gC_ne hc2896
              refine G_aload_n 1 d_cX0_replace_81 rfl ?_
              refine G_getf 0 7 d_cX0_replace_82 rfl (gk_X0 D I) (Nat.le_of_ble_eq_true rfl) w_1_178 rfl ?_
              refine G_iload_n 0 d_cX0_replace_85 rfl ?_
              refine G_iald 8 0 d_cX0_replace_86 rfl rfl (gB_in bg2878' (by decide) (by decide)) (G_nam fun z2898 hz2898 => ?_)
              have bz2898 : gB z2898 (-2147483648) 2147483647 := by rw [hz2898]; exact bf2881 _
              refine G_iastN 8 0 d_cX0_replace_87 rfl rfl (gB_in bg2878' (by decide) (by decide)) (fun f2899 hf2899 => ?_)
              refine G_ws (ws' := [(q2481, .inr (5, [.ref q2482, .ref q2483, .ref q2484, .ref q2485, .ref q2486, .ref q2487, .ref q2488, .ref q2489, .ref q2490, .int p2493, .int p2494, .int p2495])), (q2482, .inl (I .int, 40, .inl f2496)), (q2483, .inl (I .int, 40, .inl f2497)), (q2484, .inl (I .int, 40, .inl f2498)), (q2485, .inl (I .int, 200, .inl f2499)), (q2486, .inl (I .int, 200, .inl f2889)), (q2487, .inl (I .int, 200, .inl f2894)), (q2488, .inl (I .int, 200, .inl f2502)), (q2489, .inl (I .int, 200, .inl f2899)), (q2490, .inl (I .int, 200, .inl f2504))]) (cs' := 0) (sl' := 0) rfl rfl rfl ?_
              obtain ⟨z2900, hz2900⟩ : ∃ z : Int32, z = g2878 + Int32.ofInt 1 := ⟨_, rfl⟩
              have ez2900 : z2900.toInt = g2878.toInt + 1 := gI_inc hz2900 (by decide) bg2878' (by decide) (by decide)
              have bz2900 : gB z2900 1 200 := ⟨by omega, by omega⟩
              refine G_iinc (L' := [(3, .int z2900), (0, .ref q2481), (1, .int p2491), (2, .int p2492)]) z2900 0 d_cX0_replace_88 rfl hz2900.symm (Nat.le_of_ble_eq_true rfl) rfl ?_
              refine G_goto 2 d_cX0_replace_91 (by decide +kernel) ?_
              exact ih2_2881 z2900 f2889 f2894 f2899 (gB_w bz2900 (by decide) (by decide)) (gF_any f2889) (gF_any f2894) (gF_any f2899) (by omega)
            · have r2901 : z2895.toInt = p2491.toInt := gC_eq hc2896
              refine G_iload_n 3 d_cX0_replace_77 rfl ?_
              refine G_goto 87 d_cX0_replace_78 (by decide +kernel) ?_
              refine G_iastN 8 0 d_cX0_replace_87 rfl rfl (gB_in bg2878' (by decide) (by decide)) (fun f2902 hf2902 => ?_)
              refine G_ws (ws' := [(q2481, .inr (5, [.ref q2482, .ref q2483, .ref q2484, .ref q2485, .ref q2486, .ref q2487, .ref q2488, .ref q2489, .ref q2490, .int p2493, .int p2494, .int p2495])), (q2482, .inl (I .int, 40, .inl f2496)), (q2483, .inl (I .int, 40, .inl f2497)), (q2484, .inl (I .int, 40, .inl f2498)), (q2485, .inl (I .int, 200, .inl f2499)), (q2486, .inl (I .int, 200, .inl f2889)), (q2487, .inl (I .int, 200, .inl f2894)), (q2488, .inl (I .int, 200, .inl f2502)), (q2489, .inl (I .int, 200, .inl f2902)), (q2490, .inl (I .int, 200, .inl f2504))]) (cs' := 0) (sl' := 0) rfl rfl rfl ?_
              obtain ⟨z2903, hz2903⟩ : ∃ z : Int32, z = g2878 + Int32.ofInt 1 := ⟨_, rfl⟩
              have ez2903 : z2903.toInt = g2878.toInt + 1 := gI_inc hz2903 (by decide) bg2878' (by decide) (by decide)
              have bz2903 : gB z2903 1 200 := ⟨by omega, by omega⟩
              refine G_iinc (L' := [(3, .int z2903), (0, .ref q2481), (1, .int p2491), (2, .int p2492)]) z2903 0 d_cX0_replace_88 rfl hz2903.symm (Nat.le_of_ble_eq_true rfl) rfl ?_
              refine G_goto 2 d_cX0_replace_91 (by decide +kernel) ?_
              exact ih2_2881 z2903 f2889 f2894 f2902 (gB_w bz2903 (by decide) (by decide)) (gF_any f2889) (gF_any f2894) (gF_any f2902) (by omega)
          · have r2904 : z2890.toInt = p2491.toInt := gC_eq hc2891
            refine G_iload_n 3 d_cX0_replace_51 rfl ?_
            refine G_goto 61 d_cX0_replace_52 (by decide +kernel) ?_
            refine G_iastN 6 0 d_cX0_replace_61 rfl rfl (gB_in bg2878' (by decide) (by decide)) (fun f2905 hf2905 => ?_)
            refine G_ws (ws' := [(q2481, .inr (5, [.ref q2482, .ref q2483, .ref q2484, .ref q2485, .ref q2486, .ref q2487, .ref q2488, .ref q2489, .ref q2490, .int p2493, .int p2494, .int p2495])), (q2482, .inl (I .int, 40, .inl f2496)), (q2483, .inl (I .int, 40, .inl f2497)), (q2484, .inl (I .int, 40, .inl f2498)), (q2485, .inl (I .int, 200, .inl f2499)), (q2486, .inl (I .int, 200, .inl f2889)), (q2487, .inl (I .int, 200, .inl f2905)), (q2488, .inl (I .int, 200, .inl f2502)), (q2489, .inl (I .int, 200, .inl f2881)), (q2490, .inl (I .int, 200, .inl f2504))]) (cs' := 0) (sl' := 0) rfl rfl rfl ?_
            refine G_aload_n 1 d_cX0_replace_62 rfl ?_
            refine G_getf 0 7 d_cX0_replace_63 rfl (gk_X0 D I) (Nat.le_of_ble_eq_true rfl) w_1_178 rfl ?_
            refine G_iload_n 0 d_cX0_replace_66 rfl ?_
            refine G_aload_n 1 d_cX0_replace_67 rfl ?_
            refine G_getf 0 7 d_cX0_replace_68 rfl (gk_X0 D I) (Nat.le_of_ble_eq_true rfl) w_1_178 rfl ?_
            refine G_iload_n 0 d_cX0_replace_71 rfl ?_
            refine G_iald 8 0 d_cX0_replace_72 rfl rfl (gB_in bg2878' (by decide) (by decide)) (G_nam fun z2906 hz2906 => ?_)
            have bz2906 : gB z2906 (-2147483648) 2147483647 := by rw [hz2906]; exact bf2881 _
            refine G_iload_n 2 d_cX0_replace_73 rfl ?_
            refine G_icmp_ne 81 d_cX0_replace_74 (by decide +kernel) (fun hc2907 => ?_) (fun hc2907 => ?_)
            · have r2908 : z2906.toInt ≠ p2491.toInt := gC_ne hc2907
              refine G_aload_n 1 d_cX0_replace_81 rfl ?_
              refine G_getf 0 7 d_cX0_replace_82 rfl (gk_X0 D I) (Nat.le_of_ble_eq_true rfl) w_1_178 rfl ?_
              refine G_iload_n 0 d_cX0_replace_85 rfl ?_
              refine G_iald 8 0 d_cX0_replace_86 rfl rfl (gB_in bg2878' (by decide) (by decide)) (G_nam fun z2909 hz2909 => ?_)
              have bz2909 : gB z2909 (-2147483648) 2147483647 := by rw [hz2909]; exact bf2881 _
              refine G_iastN 8 0 d_cX0_replace_87 rfl rfl (gB_in bg2878' (by decide) (by decide)) (fun f2910 hf2910 => ?_)
              refine G_ws (ws' := [(q2481, .inr (5, [.ref q2482, .ref q2483, .ref q2484, .ref q2485, .ref q2486, .ref q2487, .ref q2488, .ref q2489, .ref q2490, .int p2493, .int p2494, .int p2495])), (q2482, .inl (I .int, 40, .inl f2496)), (q2483, .inl (I .int, 40, .inl f2497)), (q2484, .inl (I .int, 40, .inl f2498)), (q2485, .inl (I .int, 200, .inl f2499)), (q2486, .inl (I .int, 200, .inl f2889)), (q2487, .inl (I .int, 200, .inl f2905)), (q2488, .inl (I .int, 200, .inl f2502)), (q2489, .inl (I .int, 200, .inl f2910)), (q2490, .inl (I .int, 200, .inl f2504))]) (cs' := 0) (sl' := 0) rfl rfl rfl ?_
              obtain ⟨z2911, hz2911⟩ : ∃ z : Int32, z = g2878 + Int32.ofInt 1 := ⟨_, rfl⟩
              have ez2911 : z2911.toInt = g2878.toInt + 1 := gI_inc hz2911 (by decide) bg2878' (by decide) (by decide)
              have bz2911 : gB z2911 1 200 := ⟨by omega, by omega⟩
              refine G_iinc (L' := [(3, .int z2911), (0, .ref q2481), (1, .int p2491), (2, .int p2492)]) z2911 0 d_cX0_replace_88 rfl hz2911.symm (Nat.le_of_ble_eq_true rfl) rfl ?_
              refine G_goto 2 d_cX0_replace_91 (by decide +kernel) ?_
              exact ih2_2881 z2911 f2889 f2905 f2910 (gB_w bz2911 (by decide) (by decide)) (gF_any f2889) (gF_any f2905) (gF_any f2910) (by omega)
            · have r2912 : z2906.toInt = p2491.toInt := gC_eq hc2907
              refine G_iload_n 3 d_cX0_replace_77 rfl ?_
              refine G_goto 87 d_cX0_replace_78 (by decide +kernel) ?_
              refine G_iastN 8 0 d_cX0_replace_87 rfl rfl (gB_in bg2878' (by decide) (by decide)) (fun f2913 hf2913 => ?_)
              refine G_ws (ws' := [(q2481, .inr (5, [.ref q2482, .ref q2483, .ref q2484, .ref q2485, .ref q2486, .ref q2487, .ref q2488, .ref q2489, .ref q2490, .int p2493, .int p2494, .int p2495])), (q2482, .inl (I .int, 40, .inl f2496)), (q2483, .inl (I .int, 40, .inl f2497)), (q2484, .inl (I .int, 40, .inl f2498)), (q2485, .inl (I .int, 200, .inl f2499)), (q2486, .inl (I .int, 200, .inl f2889)), (q2487, .inl (I .int, 200, .inl f2905)), (q2488, .inl (I .int, 200, .inl f2502)), (q2489, .inl (I .int, 200, .inl f2913)), (q2490, .inl (I .int, 200, .inl f2504))]) (cs' := 0) (sl' := 0) rfl rfl rfl ?_
              obtain ⟨z2914, hz2914⟩ : ∃ z : Int32, z = g2878 + Int32.ofInt 1 := ⟨_, rfl⟩
              have ez2914 : z2914.toInt = g2878.toInt + 1 := gI_inc hz2914 (by decide) bg2878' (by decide) (by decide)
              have bz2914 : gB z2914 1 200 := ⟨by omega, by omega⟩
              refine G_iinc (L' := [(3, .int z2914), (0, .ref q2481), (1, .int p2491), (2, .int p2492)]) z2914 0 d_cX0_replace_88 rfl hz2914.symm (Nat.le_of_ble_eq_true rfl) rfl ?_
              refine G_goto 2 d_cX0_replace_91 (by decide +kernel) ?_
              exact ih2_2881 z2914 f2889 f2905 f2913 (gB_w bz2914 (by decide) (by decide)) (gF_any f2889) (gF_any f2905) (gF_any f2913) (by omega)
        · have r2915 : z2885.toInt = p2491.toInt := gC_eq hc2886
          refine G_iload_n 3 d_cX0_replace_25 rfl ?_
          refine G_goto 35 d_cX0_replace_26 (by decide +kernel) ?_
          refine G_iastN 5 0 d_cX0_replace_35 rfl rfl (gB_in bg2878' (by decide) (by decide)) (fun f2916 hf2916 => ?_)
          refine G_ws (ws' := [(q2481, .inr (5, [.ref q2482, .ref q2483, .ref q2484, .ref q2485, .ref q2486, .ref q2487, .ref q2488, .ref q2489, .ref q2490, .int p2493, .int p2494, .int p2495])), (q2482, .inl (I .int, 40, .inl f2496)), (q2483, .inl (I .int, 40, .inl f2497)), (q2484, .inl (I .int, 40, .inl f2498)), (q2485, .inl (I .int, 200, .inl f2499)), (q2486, .inl (I .int, 200, .inl f2916)), (q2487, .inl (I .int, 200, .inl f2880)), (q2488, .inl (I .int, 200, .inl f2502)), (q2489, .inl (I .int, 200, .inl f2881)), (q2490, .inl (I .int, 200, .inl f2504))]) (cs' := 0) (sl' := 0) rfl rfl rfl ?_
          refine G_aload_n 1 d_cX0_replace_36 rfl ?_
          refine G_getf 0 5 d_cX0_replace_37 rfl (gk_X0 D I) (Nat.le_of_ble_eq_true rfl) w_1_168 rfl ?_
          refine G_iload_n 0 d_cX0_replace_40 rfl ?_
          refine G_aload_n 1 d_cX0_replace_41 rfl ?_
          refine G_getf 0 5 d_cX0_replace_42 rfl (gk_X0 D I) (Nat.le_of_ble_eq_true rfl) w_1_168 rfl ?_
          refine G_iload_n 0 d_cX0_replace_45 rfl ?_
          refine G_iald 6 0 d_cX0_replace_46 rfl rfl (gB_in bg2878' (by decide) (by decide)) (G_nam fun z2917 hz2917 => ?_)
          have bz2917 : gB z2917 (-2147483648) 2147483647 := by rw [hz2917]; exact bf2880 _
          refine G_iload_n 2 d_cX0_replace_47 rfl ?_
          refine G_icmp_ne 55 d_cX0_replace_48 (by decide +kernel) (fun hc2918 => ?_) (fun hc2918 => ?_)
          · have r2919 : z2917.toInt ≠ p2491.toInt := gC_ne hc2918
            refine G_aload_n 1 d_cX0_replace_55 rfl ?_
            refine G_getf 0 5 d_cX0_replace_56 rfl (gk_X0 D I) (Nat.le_of_ble_eq_true rfl) w_1_168 rfl ?_
            refine G_iload_n 0 d_cX0_replace_59 rfl ?_
            refine G_iald 6 0 d_cX0_replace_60 rfl rfl (gB_in bg2878' (by decide) (by decide)) (G_nam fun z2920 hz2920 => ?_)
            have bz2920 : gB z2920 (-2147483648) 2147483647 := by rw [hz2920]; exact bf2880 _
            refine G_iastN 6 0 d_cX0_replace_61 rfl rfl (gB_in bg2878' (by decide) (by decide)) (fun f2921 hf2921 => ?_)
            refine G_ws (ws' := [(q2481, .inr (5, [.ref q2482, .ref q2483, .ref q2484, .ref q2485, .ref q2486, .ref q2487, .ref q2488, .ref q2489, .ref q2490, .int p2493, .int p2494, .int p2495])), (q2482, .inl (I .int, 40, .inl f2496)), (q2483, .inl (I .int, 40, .inl f2497)), (q2484, .inl (I .int, 40, .inl f2498)), (q2485, .inl (I .int, 200, .inl f2499)), (q2486, .inl (I .int, 200, .inl f2916)), (q2487, .inl (I .int, 200, .inl f2921)), (q2488, .inl (I .int, 200, .inl f2502)), (q2489, .inl (I .int, 200, .inl f2881)), (q2490, .inl (I .int, 200, .inl f2504))]) (cs' := 0) (sl' := 0) rfl rfl rfl ?_
            refine G_aload_n 1 d_cX0_replace_62 rfl ?_
            refine G_getf 0 7 d_cX0_replace_63 rfl (gk_X0 D I) (Nat.le_of_ble_eq_true rfl) w_1_178 rfl ?_
            refine G_iload_n 0 d_cX0_replace_66 rfl ?_
            refine G_aload_n 1 d_cX0_replace_67 rfl ?_
            refine G_getf 0 7 d_cX0_replace_68 rfl (gk_X0 D I) (Nat.le_of_ble_eq_true rfl) w_1_178 rfl ?_
            refine G_iload_n 0 d_cX0_replace_71 rfl ?_
            refine G_iald 8 0 d_cX0_replace_72 rfl rfl (gB_in bg2878' (by decide) (by decide)) (G_nam fun z2922 hz2922 => ?_)
            have bz2922 : gB z2922 (-2147483648) 2147483647 := by rw [hz2922]; exact bf2881 _
            refine G_iload_n 2 d_cX0_replace_73 rfl ?_
            refine G_icmp_ne 81 d_cX0_replace_74 (by decide +kernel) (fun hc2923 => ?_) (fun hc2923 => ?_)
            · have r2924 : z2922.toInt ≠ p2491.toInt := gC_ne hc2923
              refine G_aload_n 1 d_cX0_replace_81 rfl ?_
              refine G_getf 0 7 d_cX0_replace_82 rfl (gk_X0 D I) (Nat.le_of_ble_eq_true rfl) w_1_178 rfl ?_
              refine G_iload_n 0 d_cX0_replace_85 rfl ?_
              refine G_iald 8 0 d_cX0_replace_86 rfl rfl (gB_in bg2878' (by decide) (by decide)) (G_nam fun z2925 hz2925 => ?_)
              have bz2925 : gB z2925 (-2147483648) 2147483647 := by rw [hz2925]; exact bf2881 _
              refine G_iastN 8 0 d_cX0_replace_87 rfl rfl (gB_in bg2878' (by decide) (by decide)) (fun f2926 hf2926 => ?_)
              refine G_ws (ws' := [(q2481, .inr (5, [.ref q2482, .ref q2483, .ref q2484, .ref q2485, .ref q2486, .ref q2487, .ref q2488, .ref q2489, .ref q2490, .int p2493, .int p2494, .int p2495])), (q2482, .inl (I .int, 40, .inl f2496)), (q2483, .inl (I .int, 40, .inl f2497)), (q2484, .inl (I .int, 40, .inl f2498)), (q2485, .inl (I .int, 200, .inl f2499)), (q2486, .inl (I .int, 200, .inl f2916)), (q2487, .inl (I .int, 200, .inl f2921)), (q2488, .inl (I .int, 200, .inl f2502)), (q2489, .inl (I .int, 200, .inl f2926)), (q2490, .inl (I .int, 200, .inl f2504))]) (cs' := 0) (sl' := 0) rfl rfl rfl ?_
              obtain ⟨z2927, hz2927⟩ : ∃ z : Int32, z = g2878 + Int32.ofInt 1 := ⟨_, rfl⟩
              have ez2927 : z2927.toInt = g2878.toInt + 1 := gI_inc hz2927 (by decide) bg2878' (by decide) (by decide)
              have bz2927 : gB z2927 1 200 := ⟨by omega, by omega⟩
              refine G_iinc (L' := [(3, .int z2927), (0, .ref q2481), (1, .int p2491), (2, .int p2492)]) z2927 0 d_cX0_replace_88 rfl hz2927.symm (Nat.le_of_ble_eq_true rfl) rfl ?_
              refine G_goto 2 d_cX0_replace_91 (by decide +kernel) ?_
              exact ih2_2881 z2927 f2916 f2921 f2926 (gB_w bz2927 (by decide) (by decide)) (gF_any f2916) (gF_any f2921) (gF_any f2926) (by omega)
            · have r2928 : z2922.toInt = p2491.toInt := gC_eq hc2923
              refine G_iload_n 3 d_cX0_replace_77 rfl ?_
              refine G_goto 87 d_cX0_replace_78 (by decide +kernel) ?_
              refine G_iastN 8 0 d_cX0_replace_87 rfl rfl (gB_in bg2878' (by decide) (by decide)) (fun f2929 hf2929 => ?_)
              refine G_ws (ws' := [(q2481, .inr (5, [.ref q2482, .ref q2483, .ref q2484, .ref q2485, .ref q2486, .ref q2487, .ref q2488, .ref q2489, .ref q2490, .int p2493, .int p2494, .int p2495])), (q2482, .inl (I .int, 40, .inl f2496)), (q2483, .inl (I .int, 40, .inl f2497)), (q2484, .inl (I .int, 40, .inl f2498)), (q2485, .inl (I .int, 200, .inl f2499)), (q2486, .inl (I .int, 200, .inl f2916)), (q2487, .inl (I .int, 200, .inl f2921)), (q2488, .inl (I .int, 200, .inl f2502)), (q2489, .inl (I .int, 200, .inl f2929)), (q2490, .inl (I .int, 200, .inl f2504))]) (cs' := 0) (sl' := 0) rfl rfl rfl ?_
              obtain ⟨z2930, hz2930⟩ : ∃ z : Int32, z = g2878 + Int32.ofInt 1 := ⟨_, rfl⟩
              have ez2930 : z2930.toInt = g2878.toInt + 1 := gI_inc hz2930 (by decide) bg2878' (by decide) (by decide)
              have bz2930 : gB z2930 1 200 := ⟨by omega, by omega⟩
              refine G_iinc (L' := [(3, .int z2930), (0, .ref q2481), (1, .int p2491), (2, .int p2492)]) z2930 0 d_cX0_replace_88 rfl hz2930.symm (Nat.le_of_ble_eq_true rfl) rfl ?_
              refine G_goto 2 d_cX0_replace_91 (by decide +kernel) ?_
              exact ih2_2881 z2930 f2916 f2921 f2929 (gB_w bz2930 (by decide) (by decide)) (gF_any f2916) (gF_any f2921) (gF_any f2929) (by omega)
          · have r2931 : z2917.toInt = p2491.toInt := gC_eq hc2918
            refine G_iload_n 3 d_cX0_replace_51 rfl ?_
            refine G_goto 61 d_cX0_replace_52 (by decide +kernel) ?_
            refine G_iastN 6 0 d_cX0_replace_61 rfl rfl (gB_in bg2878' (by decide) (by decide)) (fun f2932 hf2932 => ?_)
            refine G_ws (ws' := [(q2481, .inr (5, [.ref q2482, .ref q2483, .ref q2484, .ref q2485, .ref q2486, .ref q2487, .ref q2488, .ref q2489, .ref q2490, .int p2493, .int p2494, .int p2495])), (q2482, .inl (I .int, 40, .inl f2496)), (q2483, .inl (I .int, 40, .inl f2497)), (q2484, .inl (I .int, 40, .inl f2498)), (q2485, .inl (I .int, 200, .inl f2499)), (q2486, .inl (I .int, 200, .inl f2916)), (q2487, .inl (I .int, 200, .inl f2932)), (q2488, .inl (I .int, 200, .inl f2502)), (q2489, .inl (I .int, 200, .inl f2881)), (q2490, .inl (I .int, 200, .inl f2504))]) (cs' := 0) (sl' := 0) rfl rfl rfl ?_
            refine G_aload_n 1 d_cX0_replace_62 rfl ?_
            refine G_getf 0 7 d_cX0_replace_63 rfl (gk_X0 D I) (Nat.le_of_ble_eq_true rfl) w_1_178 rfl ?_
            refine G_iload_n 0 d_cX0_replace_66 rfl ?_
            refine G_aload_n 1 d_cX0_replace_67 rfl ?_
            refine G_getf 0 7 d_cX0_replace_68 rfl (gk_X0 D I) (Nat.le_of_ble_eq_true rfl) w_1_178 rfl ?_
            refine G_iload_n 0 d_cX0_replace_71 rfl ?_
            refine G_iald 8 0 d_cX0_replace_72 rfl rfl (gB_in bg2878' (by decide) (by decide)) (G_nam fun z2933 hz2933 => ?_)
            have bz2933 : gB z2933 (-2147483648) 2147483647 := by rw [hz2933]; exact bf2881 _
            refine G_iload_n 2 d_cX0_replace_73 rfl ?_
            refine G_icmp_ne 81 d_cX0_replace_74 (by decide +kernel) (fun hc2934 => ?_) (fun hc2934 => ?_)
            · have r2935 : z2933.toInt ≠ p2491.toInt := gC_ne hc2934
              refine G_aload_n 1 d_cX0_replace_81 rfl ?_
              refine G_getf 0 7 d_cX0_replace_82 rfl (gk_X0 D I) (Nat.le_of_ble_eq_true rfl) w_1_178 rfl ?_
              refine G_iload_n 0 d_cX0_replace_85 rfl ?_
              refine G_iald 8 0 d_cX0_replace_86 rfl rfl (gB_in bg2878' (by decide) (by decide)) (G_nam fun z2936 hz2936 => ?_)
              have bz2936 : gB z2936 (-2147483648) 2147483647 := by rw [hz2936]; exact bf2881 _
              refine G_iastN 8 0 d_cX0_replace_87 rfl rfl (gB_in bg2878' (by decide) (by decide)) (fun f2937 hf2937 => ?_)
              refine G_ws (ws' := [(q2481, .inr (5, [.ref q2482, .ref q2483, .ref q2484, .ref q2485, .ref q2486, .ref q2487, .ref q2488, .ref q2489, .ref q2490, .int p2493, .int p2494, .int p2495])), (q2482, .inl (I .int, 40, .inl f2496)), (q2483, .inl (I .int, 40, .inl f2497)), (q2484, .inl (I .int, 40, .inl f2498)), (q2485, .inl (I .int, 200, .inl f2499)), (q2486, .inl (I .int, 200, .inl f2916)), (q2487, .inl (I .int, 200, .inl f2932)), (q2488, .inl (I .int, 200, .inl f2502)), (q2489, .inl (I .int, 200, .inl f2937)), (q2490, .inl (I .int, 200, .inl f2504))]) (cs' := 0) (sl' := 0) rfl rfl rfl ?_
              obtain ⟨z2938, hz2938⟩ : ∃ z : Int32, z = g2878 + Int32.ofInt 1 := ⟨_, rfl⟩
              have ez2938 : z2938.toInt = g2878.toInt + 1 := gI_inc hz2938 (by decide) bg2878' (by decide) (by decide)
              have bz2938 : gB z2938 1 200 := ⟨by omega, by omega⟩
              refine G_iinc (L' := [(3, .int z2938), (0, .ref q2481), (1, .int p2491), (2, .int p2492)]) z2938 0 d_cX0_replace_88 rfl hz2938.symm (Nat.le_of_ble_eq_true rfl) rfl ?_
              refine G_goto 2 d_cX0_replace_91 (by decide +kernel) ?_
              exact ih2_2881 z2938 f2916 f2932 f2937 (gB_w bz2938 (by decide) (by decide)) (gF_any f2916) (gF_any f2932) (gF_any f2937) (by omega)
            · have r2939 : z2933.toInt = p2491.toInt := gC_eq hc2934
              refine G_iload_n 3 d_cX0_replace_77 rfl ?_
              refine G_goto 87 d_cX0_replace_78 (by decide +kernel) ?_
              refine G_iastN 8 0 d_cX0_replace_87 rfl rfl (gB_in bg2878' (by decide) (by decide)) (fun f2940 hf2940 => ?_)
              refine G_ws (ws' := [(q2481, .inr (5, [.ref q2482, .ref q2483, .ref q2484, .ref q2485, .ref q2486, .ref q2487, .ref q2488, .ref q2489, .ref q2490, .int p2493, .int p2494, .int p2495])), (q2482, .inl (I .int, 40, .inl f2496)), (q2483, .inl (I .int, 40, .inl f2497)), (q2484, .inl (I .int, 40, .inl f2498)), (q2485, .inl (I .int, 200, .inl f2499)), (q2486, .inl (I .int, 200, .inl f2916)), (q2487, .inl (I .int, 200, .inl f2932)), (q2488, .inl (I .int, 200, .inl f2502)), (q2489, .inl (I .int, 200, .inl f2940)), (q2490, .inl (I .int, 200, .inl f2504))]) (cs' := 0) (sl' := 0) rfl rfl rfl ?_
              obtain ⟨z2941, hz2941⟩ : ∃ z : Int32, z = g2878 + Int32.ofInt 1 := ⟨_, rfl⟩
              have ez2941 : z2941.toInt = g2878.toInt + 1 := gI_inc hz2941 (by decide) bg2878' (by decide) (by decide)
              have bz2941 : gB z2941 1 200 := ⟨by omega, by omega⟩
              refine G_iinc (L' := [(3, .int z2941), (0, .ref q2481), (1, .int p2491), (2, .int p2492)]) z2941 0 d_cX0_replace_88 rfl hz2941.symm (Nat.le_of_ble_eq_true rfl) rfl ?_
              refine G_goto 2 d_cX0_replace_91 (by decide +kernel) ?_
              exact ih2_2881 z2941 f2916 f2932 f2940 (gB_w bz2941 (by decide) (by decide)) (gF_any f2916) (gF_any f2932) (gF_any f2940) (by omega)
  exact hlp2_2881 (((201 : Int) - 0).toNat + 1) 0 f2500 f2501 f2503 (gB_w (gBl (show Int32.toInt 0 = 0 by decide)) (by decide) (by decide)) (gF_any f2500) (gF_any f2501) (gF_any f2503) (Nat.lt_succ_self _)
abbrev ky_2968_Code_linesThat : gKey := (cX0_linesThat, 4, yX0_linesThat.cls, (some FieldType.int), [], yX0_linesThat.name, fun _ _ => True)
abbrev po_2968_Code_linesThat (I : FieldType → ClassId) (q2945 : Nat) (q2946 : Nat) (q2947 : Nat) (q2948 : Nat) (q2949 : Nat) (q2950 : Nat) (q2951 : Nat) (q2952 : Nat) (q2953 : Nat) (q2954 : Nat) (p2955 : Int32) (p2956 : Int32) (p2957 : Int32) (p2958 : Int32) (f2959 : Nat → Int32) (f2960 : Nat → Int32) (f2961 : Nat → Int32) (f2962 : Nat → Int32) (f2963 : Nat → Int32) (f2964 : Nat → Int32) (f2965 : Nat → Int32) (f2966 : Nat → Int32) (f2967 : Nat → Int32) : Option Value → va_W → Prop := fun r w => ∃ (o3067 : Int32), r = some (.int o3067) ∧ w = [(q2945, .inr (5, [.ref q2946, .ref q2947, .ref q2948, .ref q2949, .ref q2950, .ref q2951, .ref q2952, .ref q2953, .ref q2954, .int p2956, .int p2957, .int p2958])), (q2946, .inl (I .int, 40, .inl f2959)), (q2947, .inl (I .int, 40, .inl f2960)), (q2948, .inl (I .int, 40, .inl f2961)), (q2949, .inl (I .int, 200, .inl f2962)), (q2950, .inl (I .int, 200, .inl f2963)), (q2951, .inl (I .int, 200, .inl f2964)), (q2952, .inl (I .int, 200, .inl f2965)), (q2953, .inl (I .int, 200, .inl f2966)), (q2954, .inl (I .int, 200, .inl f2967))] ∧ gB o3067 (-2147483648) 2147483647
set_option maxRecDepth 100000 in
set_option maxHeartbeats 4000000 in
theorem ct_2968_Code_linesThat (l : Launch) (hl0 : l.stackTraces = false) (D : va_G) (I : FieldType → ClassId) (q2945 : Nat) (q2946 : Nat) (q2947 : Nat) (q2948 : Nat) (q2949 : Nat) (q2950 : Nat) (q2951 : Nat) (q2952 : Nat) (q2953 : Nat) (q2954 : Nat) (p2955 : Int32) (p2956 : Int32) (p2957 : Int32) (p2958 : Int32) (f2959 : Nat → Int32) (f2960 : Nat → Int32) (f2961 : Nat → Int32) (f2962 : Nat → Int32) (f2963 : Nat → Int32) (f2964 : Nat → Int32) (f2965 : Nat → Int32) (f2966 : Nat → Int32) (f2967 : Nat → Int32) (bp2956 : gB p2956 0 40) (bp2957 : gB p2957 0 200) (bp2958 : gB p2958 0 1) (bf2959 : gF f2959 0 200) : Ct (gV D I) l yX0_linesThat cX0_linesThat 4 (some FieldType.int) 0 0 0 0 [.ref q2945, .int p2955] [(q2945, .inr (5, [.ref q2946, .ref q2947, .ref q2948, .ref q2949, .ref q2950, .ref q2951, .ref q2952, .ref q2953, .ref q2954, .int p2956, .int p2957, .int p2958])), (q2946, .inl (I .int, 40, .inl f2959)), (q2947, .inl (I .int, 40, .inl f2960)), (q2948, .inl (I .int, 40, .inl f2961)), (q2949, .inl (I .int, 200, .inl f2962)), (q2950, .inl (I .int, 200, .inl f2963)), (q2951, .inl (I .int, 200, .inl f2964)), (q2952, .inl (I .int, 200, .inl f2965)), (q2953, .inl (I .int, 200, .inl f2966)), (q2954, .inl (I .int, 200, .inl f2967))] (po_2968_Code_linesThat I q2945 q2946 q2947 q2948 q2949 q2950 q2951 q2952 q2953 q2954 p2955 p2956 p2957 p2958 f2959 f2960 f2961 f2962 f2963 f2964 f2965 f2966 f2967) gN := by
  refine Ct_of hl0 (by decide) (Nat.le_of_ble_eq_true rfl) ?_
  have bp2955 := gB_any p2955
  refine G_iconst 0 d_cX0_linesThat_0 (by decide +kernel) ?_
  refine G_istore_n (L' := [(2, .int 0), (0, .ref q2945), (1, .int p2955)]) d_cX0_linesThat_1 (Nat.le_of_ble_eq_true rfl) rfl ?_
  refine G_iconst 0 d_cX0_linesThat_2 (by decide +kernel) ?_
  refine G_istore_n (L' := [(3, .int 0), (2, .int 0), (0, .ref q2945), (1, .int p2955)]) d_cX0_linesThat_3 (Nat.le_of_ble_eq_true rfl) rfl ?_
  have hlp4_3055 : ∀ (n4_3055 : Nat) (g3054 : Int32) (g3055 : Int32), gB g3054 0 200 → gB g3055 (-2147483648) 2147483647 → ((201 : Int) - g3054.toInt).toNat < n4_3055 → G (gV D I) l (gRm 0 0 0 0) (gM (gV D I) (po_2968_Code_linesThat I q2945 q2946 q2947 q2948 q2949 q2950 q2951 q2952 q2953 q2954 p2955 p2956 p2957 p2958 f2959 f2960 f2961 f2962 f2963 f2964 f2965 f2966 f2967) gN 0 0) ky_2968_Code_linesThat 4 [(3, .int g3054), (2, .int g3055), (0, .ref q2945), (1, .int p2955)] [] [(q2945, .inr (5, [.ref q2946, .ref q2947, .ref q2948, .ref q2949, .ref q2950, .ref q2951, .ref q2952, .ref q2953, .ref q2954, .int p2956, .int p2957, .int p2958])), (q2946, .inl (I .int, 40, .inl f2959)), (q2947, .inl (I .int, 40, .inl f2960)), (q2948, .inl (I .int, 40, .inl f2961)), (q2949, .inl (I .int, 200, .inl f2962)), (q2950, .inl (I .int, 200, .inl f2963)), (q2951, .inl (I .int, 200, .inl f2964)), (q2952, .inl (I .int, 200, .inl f2965)), (q2953, .inl (I .int, 200, .inl f2966)), (q2954, .inl (I .int, 200, .inl f2967))] 0 0 := by
    intro n4_3055
    induction n4_3055 with
    | zero => intro g3054 g3055 bg3054 bg3055 hm4_3055; exact absurd hm4_3055 (Nat.not_lt_zero _)
    | succ n4_3055 ih4_3055 =>
      intro g3054 g3055 bg3054 bg3055 hm4_3055
      refine G_iload_n 0 d_cX0_linesThat_4 rfl ?_
      refine G_aload_n 2 d_cX0_linesThat_5 rfl ?_
      refine G_getf 0 10 d_cX0_linesThat_6 rfl (gk_X0 D I) (Nat.le_of_ble_eq_true rfl) w_1_197 rfl ?_
      refine G_icmp_ge 36 d_cX0_linesThat_9 (by decide +kernel) (fun hc3056 => ?_) (fun hc3056 => ?_)
      · have r3057 : p2957.toInt ≤ g3054.toInt := gC_le hc3056
        refine G_iload_n 1 d_cX0_linesThat_36 rfl ?_
        exact G_iret d_cX0_linesThat_37 rfl (Nat.le_of_ble_eq_true rfl) (Nat.le_of_ble_eq_true rfl) ⟨g3055, rfl, rfl, bg3055⟩
      · have r3058 : g3054.toInt < p2957.toInt := gC_nle hc3056
        have bg3054' : gB g3054 0 199 := ⟨by omega, by omega⟩
        have bp2957' : gB p2957 1 200 := ⟨by omega, by omega⟩
        refine G_iload_n 1 d_cX0_linesThat_12 rfl ?_
        refine G_aload_n 2 d_cX0_linesThat_13 rfl ?_
        refine G_getf 0 3 d_cX0_linesThat_14 rfl (gk_X0 D I) (Nat.le_of_ble_eq_true rfl) w_1_159 rfl ?_
        refine G_iload_n 0 d_cX0_linesThat_17 rfl ?_
        refine G_iald 4 0 d_cX0_linesThat_18 rfl rfl (gB_in bg3054' (by decide) (by decide)) (G_nam fun z3059 hz3059 => ?_)
        have bz3059 : gB z3059 (-2147483648) 2147483647 := gB_any z3059
        refine G_iload_n 3 d_cX0_linesThat_19 rfl ?_
        refine G_icmp_ne 27 d_cX0_linesThat_20 (by decide +kernel) (fun hc3060 => ?_) (fun hc3060 => ?_)
        · have r3061 : z3059.toInt ≠ p2955.toInt := gC_ne hc3060
          refine G_iconst 0 d_cX0_linesThat_27 (by decide +kernel) ?_
          refine G_iadd d_cX0_linesThat_28 (G_nam fun z3062 hz3062 => ?_)
          have ez3062 : z3062.toInt = g3055.toInt + 0 := by rw [gI_add hz3062 bg3055 (gBl (show Int32.toInt 0 = 0 by decide)) (by decide) (by decide), show Int32.toInt 0 = 0 from by decide]
          have bz3062 : gB z3062 (-2147483648) 2147483647 := gB_add (gI_add hz3062 bg3055 (gBl (show Int32.toInt 0 = 0 by decide)) (by decide) (by decide)) bg3055 (gBl (show Int32.toInt 0 = 0 by decide)) (by decide) (by decide)
          refine G_istore_n (L' := [(2, .int z3062), (3, .int g3054), (0, .ref q2945), (1, .int p2955)]) d_cX0_linesThat_29 (Nat.le_of_ble_eq_true rfl) rfl ?_
          obtain ⟨z3063, hz3063⟩ : ∃ z : Int32, z = g3054 + Int32.ofInt 1 := ⟨_, rfl⟩
          have ez3063 : z3063.toInt = g3054.toInt + 1 := gI_inc hz3063 (by decide) bg3054' (by decide) (by decide)
          have bz3063 : gB z3063 1 200 := ⟨by omega, by omega⟩
          refine G_iinc (L' := [(3, .int z3063), (2, .int z3062), (0, .ref q2945), (1, .int p2955)]) z3063 1 d_cX0_linesThat_30 rfl hz3063.symm (Nat.le_of_ble_eq_true rfl) rfl ?_
          refine G_goto 4 d_cX0_linesThat_33 (by decide +kernel) ?_
          exact ih4_3055 z3063 z3062 (gB_w bz3063 (by decide) (by decide)) bz3062 (by omega)
        · have r3064 : z3059.toInt = p2955.toInt := gC_eq hc3060
          refine G_iconst 1 d_cX0_linesThat_23 (by decide +kernel) ?_
          refine G_goto 28 d_cX0_linesThat_24 (by decide +kernel) ?_
          refine G_iadd d_cX0_linesThat_28 (G_nam fun z3065 hz3065 => ?_)
          have bz3065 : gB z3065 (-2147483648) 2147483647 := gB_any z3065
          refine G_istore_n (L' := [(2, .int z3065), (3, .int g3054), (0, .ref q2945), (1, .int p2955)]) d_cX0_linesThat_29 (Nat.le_of_ble_eq_true rfl) rfl ?_
          obtain ⟨z3066, hz3066⟩ : ∃ z : Int32, z = g3054 + Int32.ofInt 1 := ⟨_, rfl⟩
          have ez3066 : z3066.toInt = g3054.toInt + 1 := gI_inc hz3066 (by decide) bg3054' (by decide) (by decide)
          have bz3066 : gB z3066 1 200 := ⟨by omega, by omega⟩
          refine G_iinc (L' := [(3, .int z3066), (2, .int z3065), (0, .ref q2945), (1, .int p2955)]) z3066 1 d_cX0_linesThat_30 rfl hz3066.symm (Nat.le_of_ble_eq_true rfl) rfl ?_
          refine G_goto 4 d_cX0_linesThat_33 (by decide +kernel) ?_
          exact ih4_3055 z3066 z3065 (gB_w bz3066 (by decide) (by decide)) bz3065 (by omega)
  exact hlp4_3055 (((201 : Int) - 0).toNat + 1) 0 0 (gB_w (gBl (show Int32.toInt 0 = 0 by decide)) (by decide) (by decide)) (gB_w (gBl (show Int32.toInt 0 = 0 by decide)) (by decide) (by decide)) (Nat.lt_succ_self _)
abbrev ky_3091_Code_copiesRegister : gKey := (cX0_copiesRegister, 2, yX0_copiesRegister.cls, (some FieldType.boolean), [], yX0_copiesRegister.name, fun _ _ => True)
abbrev po_3091_Code_copiesRegister (I : FieldType → ClassId) (q3068 : Nat) (q3069 : Nat) (q3070 : Nat) (q3071 : Nat) (q3072 : Nat) (q3073 : Nat) (q3074 : Nat) (q3075 : Nat) (q3076 : Nat) (q3077 : Nat) (p3078 : Int32) (p3079 : Int32) (p3080 : Int32) (p3081 : Int32) (f3082 : Nat → Int32) (f3083 : Nat → Int32) (f3084 : Nat → Int32) (f3085 : Nat → Int32) (f3086 : Nat → Int32) (f3087 : Nat → Int32) (f3088 : Nat → Int32) (f3089 : Nat → Int32) (f3090 : Nat → Int32) : Option Value → va_W → Prop := fun r w => (∃ (z3092 : Int32), r = some (.int 0) ∧ w = [(q3068, .inr (5, [.ref q3069, .ref q3070, .ref q3071, .ref q3072, .ref q3073, .ref q3074, .ref q3075, .ref q3076, .ref q3077, .int p3079, .int p3080, .int p3081])), (q3069, .inl (I .int, 40, .inl f3082)), (q3070, .inl (I .int, 40, .inl f3083)), (q3071, .inl (I .int, 40, .inl f3084)), (q3072, .inl (I .int, 200, .inl f3085)), (q3073, .inl (I .int, 200, .inl f3086)), (q3074, .inl (I .int, 200, .inl f3087)), (q3075, .inl (I .int, 200, .inl f3088)), (q3076, .inl (I .int, 200, .inl f3089)), (q3077, .inl (I .int, 200, .inl f3090))] ∧ z3092.toInt ≠ 14 ∧ gB z3092 (-2147483648) 2147483647) ∨ (∃ (z3092 : Int32) (z3096 : Int32), r = some (.int 0) ∧ w = [(q3068, .inr (5, [.ref q3069, .ref q3070, .ref q3071, .ref q3072, .ref q3073, .ref q3074, .ref q3075, .ref q3076, .ref q3077, .int p3079, .int p3080, .int p3081])), (q3069, .inl (I .int, 40, .inl f3082)), (q3070, .inl (I .int, 40, .inl f3083)), (q3071, .inl (I .int, 40, .inl f3084)), (q3072, .inl (I .int, 200, .inl f3085)), (q3073, .inl (I .int, 200, .inl f3086)), (q3074, .inl (I .int, 200, .inl f3087)), (q3075, .inl (I .int, 200, .inl f3088)), (q3076, .inl (I .int, 200, .inl f3089)), (q3077, .inl (I .int, 200, .inl f3090))] ∧ z3092.toInt = 14 ∧ z3096.toInt < 0 ∧ gB z3092 14 14 ∧ gB z3096 (-2147483648) (-1)) ∨ (∃ (z3092 : Int32) (z3096 : Int32) (z3100 : Int32), r = some (.int 0) ∧ w = [(q3068, .inr (5, [.ref q3069, .ref q3070, .ref q3071, .ref q3072, .ref q3073, .ref q3074, .ref q3075, .ref q3076, .ref q3077, .int p3079, .int p3080, .int p3081])), (q3069, .inl (I .int, 40, .inl f3082)), (q3070, .inl (I .int, 40, .inl f3083)), (q3071, .inl (I .int, 40, .inl f3084)), (q3072, .inl (I .int, 200, .inl f3085)), (q3073, .inl (I .int, 200, .inl f3086)), (q3074, .inl (I .int, 200, .inl f3087)), (q3075, .inl (I .int, 200, .inl f3088)), (q3076, .inl (I .int, 200, .inl f3089)), (q3077, .inl (I .int, 200, .inl f3090))] ∧ z3092.toInt = 14 ∧ 0 ≤ z3096.toInt ∧ z3100.toInt < 0 ∧ gB z3092 14 14 ∧ gB z3096 0 2147483647 ∧ gB z3100 (-2147483648) (-1)) ∨ (∃ (z3092 : Int32) (z3096 : Int32) (z3100 : Int32), r = some (.int 1) ∧ w = [(q3068, .inr (5, [.ref q3069, .ref q3070, .ref q3071, .ref q3072, .ref q3073, .ref q3074, .ref q3075, .ref q3076, .ref q3077, .int p3079, .int p3080, .int p3081])), (q3069, .inl (I .int, 40, .inl f3082)), (q3070, .inl (I .int, 40, .inl f3083)), (q3071, .inl (I .int, 40, .inl f3084)), (q3072, .inl (I .int, 200, .inl f3085)), (q3073, .inl (I .int, 200, .inl f3086)), (q3074, .inl (I .int, 200, .inl f3087)), (q3075, .inl (I .int, 200, .inl f3088)), (q3076, .inl (I .int, 200, .inl f3089)), (q3077, .inl (I .int, 200, .inl f3090))] ∧ z3092.toInt = 14 ∧ 0 ≤ z3096.toInt ∧ 0 ≤ z3100.toInt ∧ gB z3092 14 14 ∧ gB z3096 0 2147483647 ∧ gB z3100 0 2147483647)
set_option maxRecDepth 100000 in
set_option maxHeartbeats 4000000 in
theorem ct_3091_Code_copiesRegister (l : Launch) (hl0 : l.stackTraces = false) (D : va_G) (I : FieldType → ClassId) (q3068 : Nat) (q3069 : Nat) (q3070 : Nat) (q3071 : Nat) (q3072 : Nat) (q3073 : Nat) (q3074 : Nat) (q3075 : Nat) (q3076 : Nat) (q3077 : Nat) (p3078 : Int32) (p3079 : Int32) (p3080 : Int32) (p3081 : Int32) (f3082 : Nat → Int32) (f3083 : Nat → Int32) (f3084 : Nat → Int32) (f3085 : Nat → Int32) (f3086 : Nat → Int32) (f3087 : Nat → Int32) (f3088 : Nat → Int32) (f3089 : Nat → Int32) (f3090 : Nat → Int32) (bp3078 : gB p3078 0 199) (bp3079 : gB p3079 0 40) (bp3080 : gB p3080 0 200) (bp3081 : gB p3081 0 1) (bf3082 : gF f3082 0 200) : Ct (gV D I) l yX0_copiesRegister cX0_copiesRegister 2 (some FieldType.boolean) 0 0 0 0 [.ref q3068, .int p3078] [(q3068, .inr (5, [.ref q3069, .ref q3070, .ref q3071, .ref q3072, .ref q3073, .ref q3074, .ref q3075, .ref q3076, .ref q3077, .int p3079, .int p3080, .int p3081])), (q3069, .inl (I .int, 40, .inl f3082)), (q3070, .inl (I .int, 40, .inl f3083)), (q3071, .inl (I .int, 40, .inl f3084)), (q3072, .inl (I .int, 200, .inl f3085)), (q3073, .inl (I .int, 200, .inl f3086)), (q3074, .inl (I .int, 200, .inl f3087)), (q3075, .inl (I .int, 200, .inl f3088)), (q3076, .inl (I .int, 200, .inl f3089)), (q3077, .inl (I .int, 200, .inl f3090))] (po_3091_Code_copiesRegister I q3068 q3069 q3070 q3071 q3072 q3073 q3074 q3075 q3076 q3077 p3078 p3079 p3080 p3081 f3082 f3083 f3084 f3085 f3086 f3087 f3088 f3089 f3090) gN := by
  refine Ct_of hl0 (by decide) (Nat.le_of_ble_eq_true rfl) ?_
  refine G_aload_n 0 d_cX0_copiesRegister_0 rfl ?_
  refine G_getf 0 3 d_cX0_copiesRegister_1 rfl (gk_X0 D I) (Nat.le_of_ble_eq_true rfl) w_1_159 rfl ?_
  refine G_iload_n 1 d_cX0_copiesRegister_4 rfl ?_
  refine G_iald 4 0 d_cX0_copiesRegister_5 rfl rfl (gB_in bp3078 (by decide) (by decide)) (G_nam fun z3092 hz3092 => ?_)
  have bz3092 : gB z3092 (-2147483648) 2147483647 := gB_any z3092
  refine G_bipush 14 d_cX0_copiesRegister_6 (by decide +kernel) ?_
  refine G_icmp_ne 33 d_cX0_copiesRegister_8 (by decide +kernel) (fun hc3093 => ?_) (fun hc3093 => ?_)
  · have r3094 : z3092.toInt ≠ 14 := gj_neq hc3093 (show Int32.toInt 14 = 14 by decide)
    refine G_iconst 0 d_cX0_copiesRegister_33 (by decide +kernel) ?_
    exact G_zret FieldType.boolean d_cX0_copiesRegister_34 rfl rfl (Nat.le_of_ble_eq_true rfl) (Nat.le_of_ble_eq_true rfl) (Or.inl ⟨z3092, rfl, rfl, r3094, bz3092⟩)
  · have r3095 : z3092.toInt = 14 := gj_eq hc3093 (show Int32.toInt 14 = 14 by decide)
    have bz3092' : gB z3092 14 14 := ⟨by omega, by omega⟩
    refine G_aload_n 0 d_cX0_copiesRegister_11 rfl ?_
    refine G_getf 0 4 d_cX0_copiesRegister_12 rfl (gk_X0 D I) (Nat.le_of_ble_eq_true rfl) w_1_163 rfl ?_
    refine G_iload_n 1 d_cX0_copiesRegister_15 rfl ?_
    refine G_iald 5 0 d_cX0_copiesRegister_16 rfl rfl (gB_in bp3078 (by decide) (by decide)) (G_nam fun z3096 hz3096 => ?_)
    have bz3096 : gB z3096 (-2147483648) 2147483647 := gB_any z3096
    refine G_if_lt 33 d_cX0_copiesRegister_17 (by decide +kernel) (fun hc3097 => ?_) (fun hc3097 => ?_)
    · have r3098 : z3096.toInt < 0 := gj_lt hc3097 (show Int32.toInt 0 = 0 by decide)
      have bz3096' : gB z3096 (-2147483648) (-1) := ⟨by omega, by omega⟩
      refine G_iconst 0 d_cX0_copiesRegister_33 (by decide +kernel) ?_
      exact G_zret FieldType.boolean d_cX0_copiesRegister_34 rfl rfl (Nat.le_of_ble_eq_true rfl) (Nat.le_of_ble_eq_true rfl) (Or.inr (Or.inl ⟨z3092, z3096, rfl, rfl, r3095, r3098, bz3092', bz3096'⟩))
    · have r3099 : 0 ≤ z3096.toInt := gj_nlt hc3097 (show Int32.toInt 0 = 0 by decide)
      have bz3096' : gB z3096 0 2147483647 := ⟨by omega, by omega⟩
      refine G_aload_n 0 d_cX0_copiesRegister_20 rfl ?_
      refine G_getf 0 5 d_cX0_copiesRegister_21 rfl (gk_X0 D I) (Nat.le_of_ble_eq_true rfl) w_1_168 rfl ?_
      refine G_iload_n 1 d_cX0_copiesRegister_24 rfl ?_
      refine G_iald 6 0 d_cX0_copiesRegister_25 rfl rfl (gB_in bp3078 (by decide) (by decide)) (G_nam fun z3100 hz3100 => ?_)
      have bz3100 : gB z3100 (-2147483648) 2147483647 := gB_any z3100
      refine G_if_lt 33 d_cX0_copiesRegister_26 (by decide +kernel) (fun hc3101 => ?_) (fun hc3101 => ?_)
      · have r3102 : z3100.toInt < 0 := gj_lt hc3101 (show Int32.toInt 0 = 0 by decide)
        have bz3100' : gB z3100 (-2147483648) (-1) := ⟨by omega, by omega⟩
        refine G_iconst 0 d_cX0_copiesRegister_33 (by decide +kernel) ?_
        exact G_zret FieldType.boolean d_cX0_copiesRegister_34 rfl rfl (Nat.le_of_ble_eq_true rfl) (Nat.le_of_ble_eq_true rfl) (Or.inr (Or.inr (Or.inl ⟨z3092, z3096, z3100, rfl, rfl, r3095, r3099, r3102, bz3092', bz3096', bz3100'⟩)))
      · have r3103 : 0 ≤ z3100.toInt := gj_nlt hc3101 (show Int32.toInt 0 = 0 by decide)
        have bz3100' : gB z3100 0 2147483647 := ⟨by omega, by omega⟩
        refine G_iconst 1 d_cX0_copiesRegister_29 (by decide +kernel) ?_
        refine G_goto 34 d_cX0_copiesRegister_30 (by decide +kernel) ?_
        exact G_zret FieldType.boolean d_cX0_copiesRegister_34 rfl rfl (Nat.le_of_ble_eq_true rfl) (Nat.le_of_ble_eq_true rfl) (Or.inr (Or.inr (Or.inr (⟨z3092, z3096, z3100, rfl, rfl, r3095, r3099, r3103, bz3092', bz3096', bz3100'⟩))))
abbrev ky_3128_Code_setBy : gKey := (cX0_setBy, 3, yX0_setBy.cls, (some FieldType.int), [], yX0_setBy.name, fun _ _ => True)
abbrev po_3128_Code_setBy (I : FieldType → ClassId) (q3104 : Nat) (q3105 : Nat) (q3106 : Nat) (q3107 : Nat) (q3108 : Nat) (q3109 : Nat) (q3110 : Nat) (q3111 : Nat) (q3112 : Nat) (q3113 : Nat) (p3114 : Int32) (p3115 : Int32) (p3116 : Int32) (p3117 : Int32) (p3118 : Int32) (f3119 : Nat → Int32) (f3120 : Nat → Int32) (f3121 : Nat → Int32) (f3122 : Nat → Int32) (f3123 : Nat → Int32) (f3124 : Nat → Int32) (f3125 : Nat → Int32) (f3126 : Nat → Int32) (f3127 : Nat → Int32) : Option Value → va_W → Prop := fun r w => (∃ (z3131 : Int32), r = some (.int z3131) ∧ w = [(q3104, .inr (5, [.ref q3105, .ref q3106, .ref q3107, .ref q3108, .ref q3109, .ref q3110, .ref q3111, .ref q3112, .ref q3113, .int p3116, .int p3117, .int p3118])), (q3105, .inl (I .int, 40, .inl f3119)), (q3106, .inl (I .int, 40, .inl f3120)), (q3107, .inl (I .int, 40, .inl f3121)), (q3108, .inl (I .int, 200, .inl f3122)), (q3109, .inl (I .int, 200, .inl f3123)), (q3110, .inl (I .int, 200, .inl f3124)), (q3111, .inl (I .int, 200, .inl f3125)), (q3112, .inl (I .int, 200, .inl f3126)), (q3113, .inl (I .int, 200, .inl f3127))] ∧ p3115.toInt = 0 ∧ gB z3131 (-2147483648) 2147483647) ∨ (∃ (z3133 : Int32), r = some (.int (-1)) ∧ w = [(q3104, .inr (5, [.ref q3105, .ref q3106, .ref q3107, .ref q3108, .ref q3109, .ref q3110, .ref q3111, .ref q3112, .ref q3113, .int p3116, .int p3117, .int p3118])), (q3105, .inl (I .int, 40, .inl f3119)), (q3106, .inl (I .int, 40, .inl f3120)), (q3107, .inl (I .int, 40, .inl f3121)), (q3108, .inl (I .int, 200, .inl f3122)), (q3109, .inl (I .int, 200, .inl f3123)), (q3110, .inl (I .int, 200, .inl f3124)), (q3111, .inl (I .int, 200, .inl f3125)), (q3112, .inl (I .int, 200, .inl f3126)), (q3113, .inl (I .int, 200, .inl f3127))] ∧ p3115.toInt ≠ 0 ∧ z3133.toInt ≠ 18 ∧ gB z3133 (-2147483648) 2147483647) ∨ (∃ (z3137 : Int32) (z3133 : Int32), r = some (.int z3137) ∧ w = [(q3104, .inr (5, [.ref q3105, .ref q3106, .ref q3107, .ref q3108, .ref q3109, .ref q3110, .ref q3111, .ref q3112, .ref q3113, .int p3116, .int p3117, .int p3118])), (q3105, .inl (I .int, 40, .inl f3119)), (q3106, .inl (I .int, 40, .inl f3120)), (q3107, .inl (I .int, 40, .inl f3121)), (q3108, .inl (I .int, 200, .inl f3122)), (q3109, .inl (I .int, 200, .inl f3123)), (q3110, .inl (I .int, 200, .inl f3124)), (q3111, .inl (I .int, 200, .inl f3125)), (q3112, .inl (I .int, 200, .inl f3126)), (q3113, .inl (I .int, 200, .inl f3127))] ∧ p3115.toInt ≠ 0 ∧ z3133.toInt = 18 ∧ gB z3137 (-2147483648) 2147483647 ∧ gB z3133 18 18)
set_option maxRecDepth 100000 in
set_option maxHeartbeats 4000000 in
theorem ct_3128_Code_setBy (l : Launch) (hl0 : l.stackTraces = false) (D : va_G) (I : FieldType → ClassId) (q3104 : Nat) (q3105 : Nat) (q3106 : Nat) (q3107 : Nat) (q3108 : Nat) (q3109 : Nat) (q3110 : Nat) (q3111 : Nat) (q3112 : Nat) (q3113 : Nat) (p3114 : Int32) (p3115 : Int32) (p3116 : Int32) (p3117 : Int32) (p3118 : Int32) (f3119 : Nat → Int32) (f3120 : Nat → Int32) (f3121 : Nat → Int32) (f3122 : Nat → Int32) (f3123 : Nat → Int32) (f3124 : Nat → Int32) (f3125 : Nat → Int32) (f3126 : Nat → Int32) (f3127 : Nat → Int32) (bp3114 : gB p3114 0 199) (bp3115 : gB p3115 0 1) (bp3116 : gB p3116 0 40) (bp3117 : gB p3117 0 200) (bp3118 : gB p3118 0 1) (bf3119 : gF f3119 0 200) : Ct (gV D I) l yX0_setBy cX0_setBy 3 (some FieldType.int) 0 0 0 0 [.ref q3104, .int p3114, .int p3115] [(q3104, .inr (5, [.ref q3105, .ref q3106, .ref q3107, .ref q3108, .ref q3109, .ref q3110, .ref q3111, .ref q3112, .ref q3113, .int p3116, .int p3117, .int p3118])), (q3105, .inl (I .int, 40, .inl f3119)), (q3106, .inl (I .int, 40, .inl f3120)), (q3107, .inl (I .int, 40, .inl f3121)), (q3108, .inl (I .int, 200, .inl f3122)), (q3109, .inl (I .int, 200, .inl f3123)), (q3110, .inl (I .int, 200, .inl f3124)), (q3111, .inl (I .int, 200, .inl f3125)), (q3112, .inl (I .int, 200, .inl f3126)), (q3113, .inl (I .int, 200, .inl f3127))] (po_3128_Code_setBy I q3104 q3105 q3106 q3107 q3108 q3109 q3110 q3111 q3112 q3113 p3114 p3115 p3116 p3117 p3118 f3119 f3120 f3121 f3122 f3123 f3124 f3125 f3126 f3127) gN := by
  refine Ct_of hl0 (by decide) (Nat.le_of_ble_eq_true rfl) ?_
  refine G_iload_n 2 d_cX0_setBy_0 rfl ?_
  refine G_if_eq 26 d_cX0_setBy_1 (by decide +kernel) (fun hc3129 => ?_) (fun hc3129 => ?_)
  · have r3130 : p3115.toInt = 0 := gj_eq hc3129 (show Int32.toInt 0 = 0 by decide)
    have bp3115' : gB p3115 0 0 := ⟨by omega, by omega⟩
    refine G_aload_n 0 d_cX0_setBy_26 rfl ?_
    refine G_getf 0 4 d_cX0_setBy_27 rfl (gk_X0 D I) (Nat.le_of_ble_eq_true rfl) w_1_163 rfl ?_
    refine G_iload_n 1 d_cX0_setBy_30 rfl ?_
    refine G_iald 5 0 d_cX0_setBy_31 rfl rfl (gB_in bp3114 (by decide) (by decide)) (G_nam fun z3131 hz3131 => ?_)
    have bz3131 : gB z3131 (-2147483648) 2147483647 := gB_any z3131
    exact G_iret d_cX0_setBy_32 rfl (Nat.le_of_ble_eq_true rfl) (Nat.le_of_ble_eq_true rfl) (Or.inl ⟨z3131, rfl, rfl, r3130, bz3131⟩)
  · have r3132 : p3115.toInt ≠ 0 := gj_neq hc3129 (show Int32.toInt 0 = 0 by decide)
    have bp3115' : gB p3115 1 1 := ⟨by omega, by omega⟩
    refine G_aload_n 0 d_cX0_setBy_4 rfl ?_
    refine G_getf 0 3 d_cX0_setBy_5 rfl (gk_X0 D I) (Nat.le_of_ble_eq_true rfl) w_1_159 rfl ?_
    refine G_iload_n 1 d_cX0_setBy_8 rfl ?_
    refine G_iald 4 0 d_cX0_setBy_9 rfl rfl (gB_in bp3114 (by decide) (by decide)) (G_nam fun z3133 hz3133 => ?_)
    have bz3133 : gB z3133 (-2147483648) 2147483647 := gB_any z3133
    refine G_bipush 18 d_cX0_setBy_10 (by decide +kernel) ?_
    refine G_icmp_ne 24 d_cX0_setBy_12 (by decide +kernel) (fun hc3134 => ?_) (fun hc3134 => ?_)
    · have r3135 : z3133.toInt ≠ 18 := gj_neq hc3134 (show Int32.toInt 18 = 18 by decide)
      refine G_iconst (-1) d_cX0_setBy_24 (by decide +kernel) ?_
      exact G_iret d_cX0_setBy_25 rfl (Nat.le_of_ble_eq_true rfl) (Nat.le_of_ble_eq_true rfl) (Or.inr (Or.inl ⟨z3133, rfl, rfl, r3132, r3135, bz3133⟩))
    · have r3136 : z3133.toInt = 18 := gj_eq hc3134 (show Int32.toInt 18 = 18 by decide)
      have bz3133' : gB z3133 18 18 := ⟨by omega, by omega⟩
      refine G_aload_n 0 d_cX0_setBy_15 rfl ?_
      refine G_getf 0 8 d_cX0_setBy_16 rfl (gk_X0 D I) (Nat.le_of_ble_eq_true rfl) w_1_183 rfl ?_
      refine G_iload_n 1 d_cX0_setBy_19 rfl ?_
      refine G_iald 9 0 d_cX0_setBy_20 rfl rfl (gB_in bp3114 (by decide) (by decide)) (G_nam fun z3137 hz3137 => ?_)
      have bz3137 : gB z3137 (-2147483648) 2147483647 := gB_any z3137
      refine G_goto 25 d_cX0_setBy_21 (by decide +kernel) ?_
      exact G_iret d_cX0_setBy_25 rfl (Nat.le_of_ble_eq_true rfl) (Nat.le_of_ble_eq_true rfl) (Or.inr (Or.inr (⟨z3137, z3133, rfl, rfl, r3132, r3136, bz3137, bz3133'⟩)))
abbrev ky_3162_Code_firstUse : gKey := (cX0_firstUse, 3, yX0_firstUse.cls, (some FieldType.int), [], yX0_firstUse.name, fun _ _ => True)
abbrev po_3162_Code_firstUse (I : FieldType → ClassId) (q3138 : Nat) (q3139 : Nat) (q3140 : Nat) (q3141 : Nat) (q3142 : Nat) (q3143 : Nat) (q3144 : Nat) (q3145 : Nat) (q3146 : Nat) (q3147 : Nat) (p3148 : Int32) (p3149 : Int32) (p3150 : Int32) (p3151 : Int32) (p3152 : Int32) (f3153 : Nat → Int32) (f3154 : Nat → Int32) (f3155 : Nat → Int32) (f3156 : Nat → Int32) (f3157 : Nat → Int32) (f3158 : Nat → Int32) (f3159 : Nat → Int32) (f3160 : Nat → Int32) (f3161 : Nat → Int32) : Option Value → va_W → Prop := fun r w => (∃ (z3165 : Int32), r = some (.int z3165) ∧ w = [(q3138, .inr (5, [.ref q3139, .ref q3140, .ref q3141, .ref q3142, .ref q3143, .ref q3144, .ref q3145, .ref q3146, .ref q3147, .int p3150, .int p3151, .int p3152])), (q3139, .inl (I .int, 40, .inl f3153)), (q3140, .inl (I .int, 40, .inl f3154)), (q3141, .inl (I .int, 40, .inl f3155)), (q3142, .inl (I .int, 200, .inl f3156)), (q3143, .inl (I .int, 200, .inl f3157)), (q3144, .inl (I .int, 200, .inl f3158)), (q3145, .inl (I .int, 200, .inl f3159)), (q3146, .inl (I .int, 200, .inl f3160)), (q3147, .inl (I .int, 200, .inl f3161))] ∧ p3149.toInt = 0 ∧ gB z3165 (-2147483648) 2147483647) ∨ (∃ (z3167 : Int32), r = some (.int (-1)) ∧ w = [(q3138, .inr (5, [.ref q3139, .ref q3140, .ref q3141, .ref q3142, .ref q3143, .ref q3144, .ref q3145, .ref q3146, .ref q3147, .int p3150, .int p3151, .int p3152])), (q3139, .inl (I .int, 40, .inl f3153)), (q3140, .inl (I .int, 40, .inl f3154)), (q3141, .inl (I .int, 40, .inl f3155)), (q3142, .inl (I .int, 200, .inl f3156)), (q3143, .inl (I .int, 200, .inl f3157)), (q3144, .inl (I .int, 200, .inl f3158)), (q3145, .inl (I .int, 200, .inl f3159)), (q3146, .inl (I .int, 200, .inl f3160)), (q3147, .inl (I .int, 200, .inl f3161))] ∧ p3149.toInt ≠ 0 ∧ z3167.toInt ≠ 17 ∧ gB z3167 (-2147483648) 2147483647) ∨ (∃ (z3171 : Int32) (z3167 : Int32), r = some (.int z3171) ∧ w = [(q3138, .inr (5, [.ref q3139, .ref q3140, .ref q3141, .ref q3142, .ref q3143, .ref q3144, .ref q3145, .ref q3146, .ref q3147, .int p3150, .int p3151, .int p3152])), (q3139, .inl (I .int, 40, .inl f3153)), (q3140, .inl (I .int, 40, .inl f3154)), (q3141, .inl (I .int, 40, .inl f3155)), (q3142, .inl (I .int, 200, .inl f3156)), (q3143, .inl (I .int, 200, .inl f3157)), (q3144, .inl (I .int, 200, .inl f3158)), (q3145, .inl (I .int, 200, .inl f3159)), (q3146, .inl (I .int, 200, .inl f3160)), (q3147, .inl (I .int, 200, .inl f3161))] ∧ p3149.toInt ≠ 0 ∧ z3167.toInt = 17 ∧ gB z3171 (-2147483648) 2147483647 ∧ gB z3167 17 17)
set_option maxRecDepth 100000 in
set_option maxHeartbeats 4000000 in
theorem ct_3162_Code_firstUse (l : Launch) (hl0 : l.stackTraces = false) (D : va_G) (I : FieldType → ClassId) (q3138 : Nat) (q3139 : Nat) (q3140 : Nat) (q3141 : Nat) (q3142 : Nat) (q3143 : Nat) (q3144 : Nat) (q3145 : Nat) (q3146 : Nat) (q3147 : Nat) (p3148 : Int32) (p3149 : Int32) (p3150 : Int32) (p3151 : Int32) (p3152 : Int32) (f3153 : Nat → Int32) (f3154 : Nat → Int32) (f3155 : Nat → Int32) (f3156 : Nat → Int32) (f3157 : Nat → Int32) (f3158 : Nat → Int32) (f3159 : Nat → Int32) (f3160 : Nat → Int32) (f3161 : Nat → Int32) (bp3148 : gB p3148 0 199) (bp3149 : gB p3149 0 1) (bp3150 : gB p3150 0 40) (bp3151 : gB p3151 0 200) (bp3152 : gB p3152 0 1) (bf3153 : gF f3153 0 200) : Ct (gV D I) l yX0_firstUse cX0_firstUse 3 (some FieldType.int) 0 0 0 0 [.ref q3138, .int p3148, .int p3149] [(q3138, .inr (5, [.ref q3139, .ref q3140, .ref q3141, .ref q3142, .ref q3143, .ref q3144, .ref q3145, .ref q3146, .ref q3147, .int p3150, .int p3151, .int p3152])), (q3139, .inl (I .int, 40, .inl f3153)), (q3140, .inl (I .int, 40, .inl f3154)), (q3141, .inl (I .int, 40, .inl f3155)), (q3142, .inl (I .int, 200, .inl f3156)), (q3143, .inl (I .int, 200, .inl f3157)), (q3144, .inl (I .int, 200, .inl f3158)), (q3145, .inl (I .int, 200, .inl f3159)), (q3146, .inl (I .int, 200, .inl f3160)), (q3147, .inl (I .int, 200, .inl f3161))] (po_3162_Code_firstUse I q3138 q3139 q3140 q3141 q3142 q3143 q3144 q3145 q3146 q3147 p3148 p3149 p3150 p3151 p3152 f3153 f3154 f3155 f3156 f3157 f3158 f3159 f3160 f3161) gN := by
  refine Ct_of hl0 (by decide) (Nat.le_of_ble_eq_true rfl) ?_
  refine G_iload_n 2 d_cX0_firstUse_0 rfl ?_
  refine G_if_eq 26 d_cX0_firstUse_1 (by decide +kernel) (fun hc3163 => ?_) (fun hc3163 => ?_)
  · have r3164 : p3149.toInt = 0 := gj_eq hc3163 (show Int32.toInt 0 = 0 by decide)
    have bp3149' : gB p3149 0 0 := ⟨by omega, by omega⟩
    refine G_aload_n 0 d_cX0_firstUse_26 rfl ?_
    refine G_getf 0 5 d_cX0_firstUse_27 rfl (gk_X0 D I) (Nat.le_of_ble_eq_true rfl) w_1_168 rfl ?_
    refine G_iload_n 1 d_cX0_firstUse_30 rfl ?_
    refine G_iald 6 0 d_cX0_firstUse_31 rfl rfl (gB_in bp3148 (by decide) (by decide)) (G_nam fun z3165 hz3165 => ?_)
    have bz3165 : gB z3165 (-2147483648) 2147483647 := gB_any z3165
    exact G_iret d_cX0_firstUse_32 rfl (Nat.le_of_ble_eq_true rfl) (Nat.le_of_ble_eq_true rfl) (Or.inl ⟨z3165, rfl, rfl, r3164, bz3165⟩)
  · have r3166 : p3149.toInt ≠ 0 := gj_neq hc3163 (show Int32.toInt 0 = 0 by decide)
    have bp3149' : gB p3149 1 1 := ⟨by omega, by omega⟩
    refine G_aload_n 0 d_cX0_firstUse_4 rfl ?_
    refine G_getf 0 3 d_cX0_firstUse_5 rfl (gk_X0 D I) (Nat.le_of_ble_eq_true rfl) w_1_159 rfl ?_
    refine G_iload_n 1 d_cX0_firstUse_8 rfl ?_
    refine G_iald 4 0 d_cX0_firstUse_9 rfl rfl (gB_in bp3148 (by decide) (by decide)) (G_nam fun z3167 hz3167 => ?_)
    have bz3167 : gB z3167 (-2147483648) 2147483647 := gB_any z3167
    refine G_bipush 17 d_cX0_firstUse_10 (by decide +kernel) ?_
    refine G_icmp_ne 24 d_cX0_firstUse_12 (by decide +kernel) (fun hc3168 => ?_) (fun hc3168 => ?_)
    · have r3169 : z3167.toInt ≠ 17 := gj_neq hc3168 (show Int32.toInt 17 = 17 by decide)
      refine G_iconst (-1) d_cX0_firstUse_24 (by decide +kernel) ?_
      exact G_iret d_cX0_firstUse_25 rfl (Nat.le_of_ble_eq_true rfl) (Nat.le_of_ble_eq_true rfl) (Or.inr (Or.inl ⟨z3167, rfl, rfl, r3166, r3169, bz3167⟩))
    · have r3170 : z3167.toInt = 17 := gj_eq hc3168 (show Int32.toInt 17 = 17 by decide)
      have bz3167' : gB z3167 17 17 := ⟨by omega, by omega⟩
      refine G_aload_n 0 d_cX0_firstUse_15 rfl ?_
      refine G_getf 0 8 d_cX0_firstUse_16 rfl (gk_X0 D I) (Nat.le_of_ble_eq_true rfl) w_1_183 rfl ?_
      refine G_iload_n 1 d_cX0_firstUse_19 rfl ?_
      refine G_iald 9 0 d_cX0_firstUse_20 rfl rfl (gB_in bp3148 (by decide) (by decide)) (G_nam fun z3171 hz3171 => ?_)
      have bz3171 : gB z3171 (-2147483648) 2147483647 := gB_any z3171
      refine G_goto 25 d_cX0_firstUse_21 (by decide +kernel) ?_
      exact G_iret d_cX0_firstUse_25 rfl (Nat.le_of_ble_eq_true rfl) (Nat.le_of_ble_eq_true rfl) (Or.inr (Or.inr (⟨z3171, z3167, rfl, rfl, r3166, r3170, bz3171, bz3167'⟩)))
abbrev ky_3196_Code_secondUse : gKey := (cX0_secondUse, 3, yX0_secondUse.cls, (some FieldType.int), [], yX0_secondUse.name, fun _ _ => True)
abbrev po_3196_Code_secondUse (I : FieldType → ClassId) (q3172 : Nat) (q3173 : Nat) (q3174 : Nat) (q3175 : Nat) (q3176 : Nat) (q3177 : Nat) (q3178 : Nat) (q3179 : Nat) (q3180 : Nat) (q3181 : Nat) (p3182 : Int32) (p3183 : Int32) (p3184 : Int32) (p3185 : Int32) (p3186 : Int32) (f3187 : Nat → Int32) (f3188 : Nat → Int32) (f3189 : Nat → Int32) (f3190 : Nat → Int32) (f3191 : Nat → Int32) (f3192 : Nat → Int32) (f3193 : Nat → Int32) (f3194 : Nat → Int32) (f3195 : Nat → Int32) : Option Value → va_W → Prop := fun r w => (∃ (z3199 : Int32), r = some (.int z3199) ∧ w = [(q3172, .inr (5, [.ref q3173, .ref q3174, .ref q3175, .ref q3176, .ref q3177, .ref q3178, .ref q3179, .ref q3180, .ref q3181, .int p3184, .int p3185, .int p3186])), (q3173, .inl (I .int, 40, .inl f3187)), (q3174, .inl (I .int, 40, .inl f3188)), (q3175, .inl (I .int, 40, .inl f3189)), (q3176, .inl (I .int, 200, .inl f3190)), (q3177, .inl (I .int, 200, .inl f3191)), (q3178, .inl (I .int, 200, .inl f3192)), (q3179, .inl (I .int, 200, .inl f3193)), (q3180, .inl (I .int, 200, .inl f3194)), (q3181, .inl (I .int, 200, .inl f3195))] ∧ p3183.toInt = 0 ∧ gB z3199 (-2147483648) 2147483647) ∨ (r = some (.int (-1)) ∧ w = [(q3172, .inr (5, [.ref q3173, .ref q3174, .ref q3175, .ref q3176, .ref q3177, .ref q3178, .ref q3179, .ref q3180, .ref q3181, .int p3184, .int p3185, .int p3186])), (q3173, .inl (I .int, 40, .inl f3187)), (q3174, .inl (I .int, 40, .inl f3188)), (q3175, .inl (I .int, 40, .inl f3189)), (q3176, .inl (I .int, 200, .inl f3190)), (q3177, .inl (I .int, 200, .inl f3191)), (q3178, .inl (I .int, 200, .inl f3192)), (q3179, .inl (I .int, 200, .inl f3193)), (q3180, .inl (I .int, 200, .inl f3194)), (q3181, .inl (I .int, 200, .inl f3195))] ∧ p3183.toInt ≠ 0)
set_option maxRecDepth 100000 in
set_option maxHeartbeats 4000000 in
theorem ct_3196_Code_secondUse (l : Launch) (hl0 : l.stackTraces = false) (D : va_G) (I : FieldType → ClassId) (q3172 : Nat) (q3173 : Nat) (q3174 : Nat) (q3175 : Nat) (q3176 : Nat) (q3177 : Nat) (q3178 : Nat) (q3179 : Nat) (q3180 : Nat) (q3181 : Nat) (p3182 : Int32) (p3183 : Int32) (p3184 : Int32) (p3185 : Int32) (p3186 : Int32) (f3187 : Nat → Int32) (f3188 : Nat → Int32) (f3189 : Nat → Int32) (f3190 : Nat → Int32) (f3191 : Nat → Int32) (f3192 : Nat → Int32) (f3193 : Nat → Int32) (f3194 : Nat → Int32) (f3195 : Nat → Int32) (bp3182 : gB p3182 0 199) (bp3183 : gB p3183 0 1) (bp3184 : gB p3184 0 40) (bp3185 : gB p3185 0 200) (bp3186 : gB p3186 0 1) (bf3187 : gF f3187 0 200) : Ct (gV D I) l yX0_secondUse cX0_secondUse 3 (some FieldType.int) 0 0 0 0 [.ref q3172, .int p3182, .int p3183] [(q3172, .inr (5, [.ref q3173, .ref q3174, .ref q3175, .ref q3176, .ref q3177, .ref q3178, .ref q3179, .ref q3180, .ref q3181, .int p3184, .int p3185, .int p3186])), (q3173, .inl (I .int, 40, .inl f3187)), (q3174, .inl (I .int, 40, .inl f3188)), (q3175, .inl (I .int, 40, .inl f3189)), (q3176, .inl (I .int, 200, .inl f3190)), (q3177, .inl (I .int, 200, .inl f3191)), (q3178, .inl (I .int, 200, .inl f3192)), (q3179, .inl (I .int, 200, .inl f3193)), (q3180, .inl (I .int, 200, .inl f3194)), (q3181, .inl (I .int, 200, .inl f3195))] (po_3196_Code_secondUse I q3172 q3173 q3174 q3175 q3176 q3177 q3178 q3179 q3180 q3181 p3182 p3183 p3184 p3185 p3186 f3187 f3188 f3189 f3190 f3191 f3192 f3193 f3194 f3195) gN := by
  refine Ct_of hl0 (by decide) (Nat.le_of_ble_eq_true rfl) ?_
  refine G_iload_n 2 d_cX0_secondUse_0 rfl ?_
  refine G_if_eq 8 d_cX0_secondUse_1 (by decide +kernel) (fun hc3197 => ?_) (fun hc3197 => ?_)
  · have r3198 : p3183.toInt = 0 := gj_eq hc3197 (show Int32.toInt 0 = 0 by decide)
    have bp3183' : gB p3183 0 0 := ⟨by omega, by omega⟩
    refine G_aload_n 0 d_cX0_secondUse_8 rfl ?_
    refine G_getf 0 7 d_cX0_secondUse_9 rfl (gk_X0 D I) (Nat.le_of_ble_eq_true rfl) w_1_178 rfl ?_
    refine G_iload_n 1 d_cX0_secondUse_12 rfl ?_
    refine G_iald 8 0 d_cX0_secondUse_13 rfl rfl (gB_in bp3182 (by decide) (by decide)) (G_nam fun z3199 hz3199 => ?_)
    have bz3199 : gB z3199 (-2147483648) 2147483647 := gB_any z3199
    exact G_iret d_cX0_secondUse_14 rfl (Nat.le_of_ble_eq_true rfl) (Nat.le_of_ble_eq_true rfl) (Or.inl ⟨z3199, rfl, rfl, r3198, bz3199⟩)
  · have r3200 : p3183.toInt ≠ 0 := gj_neq hc3197 (show Int32.toInt 0 = 0 by decide)
    have bp3183' : gB p3183 1 1 := ⟨by omega, by omega⟩
    refine G_iconst (-1) d_cX0_secondUse_4 (by decide +kernel) ?_
    refine G_goto 14 d_cX0_secondUse_5 (by decide +kernel) ?_
    exact G_iret d_cX0_secondUse_14 rfl (Nat.le_of_ble_eq_true rfl) (Nat.le_of_ble_eq_true rfl) (Or.inr (⟨rfl, rfl, r3200⟩))
