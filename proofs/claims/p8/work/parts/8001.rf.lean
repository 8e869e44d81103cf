abbrev ky_368779_SpillForgeModel_rename : gKey := (cX17_rename, 7, "SpillForgeModel", none, [], "rename", fun _ _ => True)
def pt_368779_SpillForgeModel_rename (D : va_G) (I : FieldType → ClassId) (γ el : Nat → Nat → Nat) (P368773 : List Nat) (F368774 : Nat → va_E) (q368775 : Nat) (p368776 : Int32) (p368777 : Int32) : Option Value → va_W → Nat → Nat → Prop := fun r w dc ds => ∃ (F394968 : Nat → va_E), r = none ∧ w = va_pl P368773 F394968 ∧ RS D I P368773 F394968 γ el ∧ rStr γ [1] F368774 F394968 ∧ dc ≤ 0 ∧ ds ≤ 0 ∧ (∀ N : Nat → Prop, N (p368777.toInt : Int).toNat → p368776.toInt < 100 → rPl γ el F368774 q368775 (γ 6 (γ 1 q368775)) (fun _ _ => rNx N) → rPl γ el F394968 q368775 (γ 6 (γ 1 q368775)) (fun _ _ => rNx N)) ∧ rFk [1] γ F368774 F394968
set_option maxRecDepth 100000 in
set_option maxHeartbeats 4000000 in
theorem ct_368779_SpillForgeModel_rename (l : Launch) (hl0 : l.stackTraces = false) (D : va_G) (I : FieldType → ClassId) (γ el : Nat → Nat → Nat) (P368773 : List Nat) (F368774 : Nat → va_E) (q368775 : Nat) (p368776 : Int32) (p368777 : Int32) (hT : RS D I P368773 F368774 γ el) (htq368775 : rKd γ q368775 9) (bp368776 : gB p368776 0 1999) (bp368777 : gB p368777 0 1999) (x368778 : 0 < γ 6 (γ 1 q368775)) : CtA (gV D I) l yX17_rename cX17_rename 7 none 4 85 0 0 [.ref q368775, .int p368776, .int p368777] (va_pl P368773 F368774) (pt_368779_SpillForgeModel_rename D I γ el P368773 F368774 q368775 p368776 p368777) gNA := by
  refine CtA_of hl0 (by decide) (Nat.le_of_ble_eq_true rfl) ?_
  refine G_iconst 0 dr_cX17_rename_0 (by decide +kernel) ?_
  refine G_istore_n (L' := [(3, .int 0), (0, .ref q368775), (1, .int p368776), (2, .int p368777)]) dr_cX17_rename_1 (Nat.le_of_ble_eq_true rfl) rfl ?_
  have hlp2_393189 : ∀ (n2_393189 : Nat) (F393185 : Nat → va_E) (g393184 : Int32), gB g393184 0 1000000 → RS D I P368773 F393185 γ el → rStr γ [1] F368774 F393185 → (∀ N : Nat → Prop, N (p368777.toInt : Int).toNat → p368776.toInt < 100 → rPl γ el F368774 q368775 (γ 6 (γ 1 q368775)) (fun _ _ => rNx N) → rPl γ el F393185 q368775 (γ 6 (γ 1 q368775)) (fun _ _ => rNx N)) → rFk [1] γ F368774 F393185 → ((1000001 : Int) - g393184.toInt).toNat < n2_393189 → G (gV D I) l (gRm 4 85 0 0) (gMA (gV D I) (pt_368779_SpillForgeModel_rename D I γ el P368773 F368774 q368775 p368776 p368777) gNA 0 0) ky_368779_SpillForgeModel_rename 2 [(3, .int g393184), (0, .ref q368775), (1, .int p368776), (2, .int p368777)] [] (va_pl P368773 F393185) 0 0 := by
    intro n2_393189
    induction n2_393189 with
    | zero => intro F393185 g393184 bg393184 hT393186 hs393187 x393188 x393189 hm2_393189; exact absurd hm2_393189 (Nat.not_lt_zero _)
    | succ n2_393189 ih2_393189 =>
      intro F393185 g393184 bg393184 hT393186 hs393187 x393188 x393189 hm2_393189
      have hs393191 : rStr γ [1] F368774 F393185 := fun b h0 hb hw => (hs393187 b h0 hb hw).trans ((rStr_rf (γ := γ) (W := [1]) (F := F368774)) b h0 hb hw).symm
      have hs393192 : rStr γ [1] F368774 F393185 := rStr_tr (rStr_rf (γ := γ) (W := [1]) (F := F368774)) hs393191
      refine G_iload_n 0 dr_cX17_rename_2 rfl ?_
      refine G_aload_n 1 dr_cX17_rename_3 rfl ?_
      have hm393193 : q368775 ∈ P368773 := RS_m hT393186 htq368775 (by decide)
      obtain ⟨q393195, q393196, p393197, p393198, he393194, ht393214, ht393199, ht393200, ht393201, ht393202, r393203, r393204, r393205, r393206, r393207, r393208, r393209, r393210, r393211, r393212, r393213⟩ := show rk_9 γ el q368775 (F393185 q368775) from RS_o hT393186 htq368775
      have bp393197 : gB p393197 0 1000000 := ⟨by omega, by omega⟩
      have bp393198 : gB p393198 0 1000000 := ⟨by omega, by omega⟩
      refine Gw_callV (As := []) (gV_ok D I) (cp_12780_Code_size l hl0 D I P368773 F393185 q368775 q393195 q393196 p393197 p393198 hm393193 he393194) dr_cX17_rename_4 ⟨wr_10_160, wr_1_15, wr_9_131, by decide, rfl, (Nat.le_of_ble_eq_true rfl), (Nat.le_of_ble_eq_true rfl)⟩ wr_9_129 wr_9_130 hm393193 he393194 rfl (show 0 + 0 ≤ 0 by first | omega | decide) (show 0 + 0 ≤ 0 by first | omega | decide) (Nat.le_of_ble_eq_true rfl) (fun r393218 w393219 dc393215 ds393216 hp393217 => ?_) (fun _ _ _ _ _ z => z.elim)
      obtain ⟨rfl, rfl, hdc, hds⟩ := hp393217
      change G _ _ _ _ _ _ _ (.int p393198 :: _) _ _ _
      refine G_widen (cs' := 0) (sl' := 0) (by omega) (by omega) ?_
      refine G_icmp_ge 150 dr_cX17_rename_7 (by decide +kernel) (fun hc393220 => ?_) (fun hc393220 => ?_)
      · have r393221 : p393198.toInt ≤ g393184.toInt := gC_le hc393220
        exact G_vretA dr_cX17_rename_150 rfl (Nat.le_of_ble_eq_true rfl) (Nat.le_of_ble_eq_true rfl) ⟨F393185, rfl, rfl, hT393186, hs393187, (Nat.le_of_ble_eq_true rfl), (Nat.le_of_ble_eq_true rfl), x393188, x393189⟩
      · have r393222 : g393184.toInt < p393198.toInt := gC_nle hc393220
        have bg393184' : gB g393184 0 999999 := ⟨by omega, by omega⟩
        have bp393198' : gB p393198 1 1000000 := ⟨by omega, by omega⟩
        refine G_aload_n 1 dr_cX17_rename_10 rfl ?_
        refine G_iload_n 0 dr_cX17_rename_11 rfl ?_
        have hm393223 : q393195 ∈ P368773 := RS_m hT393186 ht393199 (by decide)
        obtain ⟨⟨p393225, p393226, q393227, he393224, r393228, r393229, r393230, r393232⟩, r393231⟩ := show rk_4 D I γ el F393185 q393195 from RS_o hT393186 ht393199
        have bp393225 := gB_any p393225
        have bp393226 : gB p393226 0 1000000 := ⟨by omega, by omega⟩
        obtain ⟨r393233, r393234, n393241, f393242, r393235, r393236, r393237, r393238, r393239, r393240⟩ := rLC_n r393230 (by omega)
        have hm393243 : q393227 ∈ P368773 := RS_m hT393186 r393233 (by decide)
        obtain ⟨q393244, hx393245⟩ : ∃ x, x = el q393195 g393184.toInt.toNat := ⟨_, rfl⟩
        have hx393246 : f393242 g393184.toNatClampNeg = some q393244 := (r393239 _ (show g393184.toInt.toNat < γ 2 q393195 by omega)).trans (by rw [hx393245])
        have ht393249 : rKd γ q393244 2 := by rw [hx393245]; exact (r393210 _ (by omega)).resolve_right (fun z => absurd z.1 (by omega))
        have ht393250 : rFm γ q393244 q393195 := by rw [hx393245]; exact (r393231 _ (show g393184.toInt.toNat < γ 2 q393195 by omega)).2.1
        have hm393251 : q393244 ∈ P368773 := RS_m hT393186 ht393249 (by decide)
        obtain ⟨q393253, q393254, p393255, p393256, he393252, ht393263, ht393257, ht393258, ht393259, ht393260, ht393261, bp393255, bp393256, r393262, r393264, r393265⟩ := show rk_2 γ q393244 (F393185 q393244) from RS_o hT393186 ht393249
        refine Gw_callV (As := [.int g393184]) (gV_ok D I) (cp_7901_Code_get l hl0 D I P368773 F393185 q368775 q393195 q393227 g393184 q393196 p393197 p393198 p393225 p393226 f393242 n393241 q393244 q393253 q393254 p393255 p393256 hm393193 hm393223 hm393243 hm393251 he393194 he393224 r393235 he393252 (gB_w bg393184' (by decide) (by decide)) (gB_w bp393226 (by decide) (by decide)) (by omega) (by omega) (by assumption) (by omega)) dr_cX17_rename_12 ⟨wr_10_161, wr_1_15, wr_10_141, by decide, rfl, (Nat.le_of_ble_eq_true rfl), (Nat.le_of_ble_eq_true rfl)⟩ wr_10_139 wr_10_140 hm393193 he393194 rfl (show 0 + 0 ≤ 0 by first | omega | decide) (show 0 + 0 ≤ 0 by first | omega | decide) (Nat.le_of_ble_eq_true rfl) (fun r393269 w393270 dc393266 ds393267 hp393268 => ?_) (fun _ _ _ _ _ z => z.elim)
        obtain ⟨rfl, rfl, hdc, hds, ht393271⟩ := hp393268
        change G _ _ _ _ _ _ _ (.ref q393244 :: _) _ _ _
        refine G_widen (cs' := 0) (sl' := 0) (by omega) (by omega) ?_
        have hb393272 : el (γ 14 q368775) (g393184.toInt : Int).toNat = q393244 := by rw [ht393214.1, hx393245]
        refine G_astore (L' := [(4, .ref q393244), (3, .int g393184), (0, .ref q368775), (1, .int p368776), (2, .int p368777)]) dr_cX17_rename_15 (Nat.le_of_ble_eq_true rfl) rfl ?_
        refine G_iconst 0 dr_cX17_rename_17 (by decide +kernel) ?_
        refine G_istore (L' := [(5, .int 0), (4, .ref q393244), (3, .int g393184), (0, .ref q368775), (1, .int p368776), (2, .int p368777)]) dr_cX17_rename_18 (Nat.le_of_ble_eq_true rfl) rfl ?_
        have hlp20_394124 : ∀ (n20_394124 : Nat) (F394120 : Nat → va_E) (g394119 : Int32), gB g394119 0 1000001 → RS D I P368773 F394120 γ el → rStr γ [1] F368774 F394120 → (∀ N : Nat → Prop, N (p368777.toInt : Int).toNat → p368776.toInt < 100 → rPl γ el F368774 q368775 (γ 6 (γ 1 q368775)) (fun _ _ => rNx N) → rPl γ el F394120 q368775 (γ 6 (γ 1 q368775)) (fun _ _ => rNx N)) → rFk [1] γ F368774 F394120 → ((1000002 : Int) - g394119.toInt).toNat < n20_394124 → G (gV D I) l (gRm 4 85 0 0) (gMA (gV D I) (pt_368779_SpillForgeModel_rename D I γ el P368773 F368774 q368775 p368776 p368777) gNA 0 0) ky_368779_SpillForgeModel_rename 20 [(5, .int g394119), (4, .ref q393244), (3, .int g393184), (0, .ref q368775), (1, .int p368776), (2, .int p368777)] [] (va_pl P368773 F394120) 0 0 := by
          intro n20_394124
          induction n20_394124 with
          | zero => intro F394120 g394119 bg394119 hT394121 hs394122 x394123 x394124 hm20_394124; exact absurd hm20_394124 (Nat.not_lt_zero _)
          | succ n20_394124 ih20_394124 =>
            intro F394120 g394119 bg394119 hT394121 hs394122 x394123 x394124 hm20_394124
            have hs394126 : rStr γ [1] F393185 F394120 := fun b h0 hb hw => (hs394122 b h0 hb hw).trans (hs393187 b h0 hb hw).symm
            have he394127 : F394120 q368775 = .inr (18, [.ref q393195, .ref q393196, .int p393197, .int p393198]) := (hs394126 q368775 (rT0 htq368775 (by decide)) (rT1 htq368775 (by decide)) (rT2 htq368775 (by decide))).trans he393194
            have he394128 : F394120 q393195 = .inr (4, [.int p393225, .ref q393227, .int p393226]) := (hs394126 q393195 (rT0 ht393199 (by decide)) (rT1 ht393199 (by decide)) (rT2 ht393199 (by decide))).trans he393224
            have he394129 : F394120 q393227 = .inl (I (.object "java/lang/Object"), n393241, .inr (.inr (.inr (.inr f393242)))) := (hs394126 q393227 (rT0 r393233 (by decide)) (rT1 r393233 (by decide)) (rT2 r393233 (by decide))).trans r393235
            have he394130 : F394120 q393244 = .inr (17, [.ref q393253, .ref q393254, .int p393255, .int p393256]) := (hs394126 q393244 (rT0 ht393249 (by decide)) (rT1 ht393249 (by decide)) (rT2 ht393249 (by decide))).trans he393252
            have hs394131 : rStr γ [1] F368774 F394120 := rStr_tr hs393187 hs394126
            refine G_iload 0 dr_cX17_rename_20 rfl ?_
            refine G_aload 1 dr_cX17_rename_22 rfl ?_
            refine Gp_get 0 hm393251 he394130 dr_cX17_rename_24 (gk_X12 D I) (Nat.le_of_ble_eq_true rfl) wr_9_220 rfl ?_
            have hm394132 : q393253 ∈ P368773 := RS_m hT394121 ht393257 (by decide)
            obtain ⟨⟨p394134, p394135, q394136, he394133, r394137, r394138, r394139, r394141⟩, r394140⟩ := show rk_3 D I γ el F394120 q393253 from RS_o hT394121 ht393257
            have bp394134 := gB_any p394134
            have bp394135 : gB p394135 0 1000000 := ⟨by omega, by omega⟩
            refine Gw_callV (As := []) (gV_ok D I) (cp_7_ArrayList_size l hl0 D I P368773 F394120 q393253 p394134 q394136 p394135 hm394132 he394133 (gB_w bp394135 (by decide) (by decide))) dr_cX17_rename_27 ⟨wr_10_200, wr_1_18, wr_9_160, by decide, rfl, (Nat.le_of_ble_eq_true rfl), (Nat.le_of_ble_eq_true rfl)⟩ wr_9_158 wr_9_159 hm394132 he394133 rfl (show 0 + 0 ≤ 0 by first | omega | decide) (show 0 + 0 ≤ 0 by first | omega | decide) (Nat.le_of_ble_eq_true rfl) (fun r394145 w394146 dc394142 ds394143 hp394144 => ?_) (fun _ _ _ _ _ z => z.elim)
            obtain ⟨rfl, rfl, hdc, hds⟩ := hp394144
            change G _ _ _ _ _ _ _ (.int p394135 :: _) _ _ _
            refine G_widen (cs' := 0) (sl' := 0) (by omega) (by omega) ?_
            refine G_icmp_gt 144 dr_cX17_rename_30 (by decide +kernel) (fun hc394147 => ?_) (fun hc394147 => ?_)
            · have r394148 : p394135.toInt < g394119.toInt := gC_lt hc394147
              have bg394119' : gB g394119 1 1000001 := ⟨by omega, by omega⟩
              obtain ⟨z394149, hz394149⟩ : ∃ z : Int32, z = g393184 + Int32.ofInt 1 := ⟨_, rfl⟩
              have ez394149 : z394149.toInt = g393184.toInt + 1 := gI_inc hz394149 (by decide) bg393184' (by decide) (by decide)
              have bz394149 : gB z394149 1 1000000 := ⟨by omega, by omega⟩
              refine G_iinc (L' := [(3, .int z394149), (5, .int g394119), (4, .ref q393244), (0, .ref q368775), (1, .int p368776), (2, .int p368777)]) z394149 2 dr_cX17_rename_144 rfl hz394149.symm (Nat.le_of_ble_eq_true rfl) rfl ?_
              refine G_goto 2 dr_cX17_rename_147 (by decide +kernel) ?_
              refine G_lv (L' := [(3, .int z394149), (0, .ref q368775), (1, .int p368776), (2, .int p368777)]) [0, 3, 4, 5] rfl ?_
              exact ih2_393189 F394120 z394149 (gB_w bz394149 (by decide) (by decide)) hT394121 hs394122 x394123 x394124 (mz_up ez394149 (Int.le_trans bg393184'.2 (by decide)) hm2_393189)
            · have r394150 : g394119.toInt ≤ p394135.toInt := gC_nlt hc394147
              have bg394119' : gB g394119 0 1000000 := ⟨by omega, by omega⟩
              refine G_iload 0 dr_cX17_rename_33 rfl ?_
              refine G_aload 1 dr_cX17_rename_35 rfl ?_
              refine Gp_get 0 hm393251 he394130 dr_cX17_rename_37 (gk_X12 D I) (Nat.le_of_ble_eq_true rfl) wr_9_220 rfl ?_
              refine Gw_callV (As := []) (gV_ok D I) (cp_7_ArrayList_size l hl0 D I P368773 F394120 q393253 p394134 q394136 p394135 hm394132 he394133 (gB_w bp394135 (by decide) (by decide))) dr_cX17_rename_40 ⟨wr_10_200, wr_1_18, wr_9_160, by decide, rfl, (Nat.le_of_ble_eq_true rfl), (Nat.le_of_ble_eq_true rfl)⟩ wr_9_158 wr_9_159 hm394132 he394133 rfl (show 0 + 0 ≤ 0 by first | omega | decide) (show 0 + 0 ≤ 0 by first | omega | decide) (Nat.le_of_ble_eq_true rfl) (fun r394154 w394155 dc394151 ds394152 hp394153 => ?_) (fun _ _ _ _ _ z => z.elim)
              obtain ⟨rfl, rfl, hdc, hds⟩ := hp394153
              change G _ _ _ _ _ _ _ (.int p394135 :: _) _ _ _
              refine G_widen (cs' := 0) (sl' := 0) (by omega) (by omega) ?_
              refine G_icmp_ge 62 dr_cX17_rename_43 (by decide +kernel) (fun hc394156 => ?_) (fun hc394156 => ?_)
              · have r394157 : p394135.toInt ≤ g394119.toInt := gC_le hc394156
                refine G_aload 1 dr_cX17_rename_62 rfl ?_
                refine Gp_get 1 hm393251 he394130 dr_cX17_rename_64 (gk_X12 D I) (Nat.le_of_ble_eq_true rfl) wr_9_223 rfl ?_
                have fl394160 : p394135.toInt = γ 2 q393253 := r394137
                have hp394158 : rAt γ el q368775 (g393184.toInt : Int).toNat (g394119.toInt : Int).toNat = q393254 := (rAt_e hb393272 ht393263.1 (by omega)).trans ht393263.2.1
                have hL394159 : (g394119.toInt : Int).toNat ≤ γ 2 (rwL γ el q368775 (g393184.toInt : Int).toNat) := by unfold rwL; rw [hb393272, ht393263.1]; omega
                have nb394161 : (g393184.toInt : Int).toNat < γ 6 (γ 1 q368775) := by omega
                have hm394162 : q393254 ∈ P368773 := RS_m hT394121 ht393259 (by decide)
                obtain ⟨p394164, p394165, p394166, p394167, p394168, p394169, p394170, he394163, bp394164, bp394165, bp394168, bp394169, bp394170, r394171, r394172, r394173, r394174, r394175⟩ := show rk_1 γ q393254 (F394120 q393254) from RS_o hT394121 ht393259
                have bp394166 := gB_any p394166
                have bp394167 := gB_any p394167
                refine G_astore (L' := [(6, .ref q393254), (5, .int g394119), (4, .ref q393244), (3, .int g393184), (0, .ref q368775), (1, .int p368776), (2, .int p368777)]) dr_cX17_rename_67 (Nat.le_of_ble_eq_true rfl) rfl ?_
                refine G_aload 0 dr_cX17_rename_69 rfl ?_
                refine Gw_callV (As := []) (gV_ok D I) (cp_1675_Row_usesA l hl0 D I P368773 F394120 q393254 p394164 p394165 p394166 p394167 p394168 p394169 p394170 hm394162 he394163 bp394164 bp394165 bp394168 bp394169 bp394170) dr_cX17_rename_71 ⟨wr_10_192, wr_1_39, wr_10_195, by decide, rfl, (Nat.le_of_ble_eq_true rfl), (Nat.le_of_ble_eq_true rfl)⟩ wr_10_193 wr_10_194 hm394162 he394163 rfl (show 0 + 0 ≤ 0 by first | omega | decide) (show 0 + 0 ≤ 0 by first | omega | decide) (Nat.le_of_ble_eq_true rfl) (fun r394179 w394180 dc394176 ds394177 hp394178 => ?_) (fun _ _ _ _ _ z => z.elim)
                obtain ⟨o394181, rfl, rfl, hdc, hds, bo394181, x394182, ht394183⟩ := hp394178
                change G _ _ _ _ _ _ _ (.int o394181 :: _) _ _ _
                refine G_widen (cs' := 0) (sl' := 0) (by omega) (by omega) ?_
                refine G_if_eq 92 dr_cX17_rename_74 (by decide +kernel) (fun hc394184 => ?_) (fun hc394184 => ?_)
                · have r394185 : o394181.toInt = 0 := gj_eq hc394184 (show Int32.toInt 0 = 0 by decide)
                  have bo394181' : gB o394181 0 0 := gB_t0 r394185
                  refine G_aload 0 dr_cX17_rename_92 rfl ?_
                  refine Gw_callV (As := []) (gV_ok D I) (cp_1699_Row_usesB l hl0 D I P368773 F394120 q393254 p394164 p394165 p394166 p394167 p394168 p394169 p394170 hm394162 he394163 bp394164 bp394165 bp394168 bp394169 bp394170) dr_cX17_rename_94 ⟨wr_10_196, wr_1_39, wr_10_199, by decide, rfl, (Nat.le_of_ble_eq_true rfl), (Nat.le_of_ble_eq_true rfl)⟩ wr_10_197 wr_10_198 hm394162 he394163 rfl (show 0 + 0 ≤ 0 by first | omega | decide) (show 0 + 0 ≤ 0 by first | omega | decide) (Nat.le_of_ble_eq_true rfl) (fun r394189 w394190 dc394186 ds394187 hp394188 => ?_) (fun _ _ _ _ _ z => z.elim)
                  obtain ⟨o394191, rfl, rfl, hdc, hds, bo394191, x394192, ht394193⟩ := hp394188
                  change G _ _ _ _ _ _ _ (.int o394191 :: _) _ _ _
                  refine G_widen (cs' := 0) (sl' := 0) (by omega) (by omega) ?_
                  refine G_if_eq 115 dr_cX17_rename_97 (by decide +kernel) (fun hc394194 => ?_) (fun hc394194 => ?_)
                  · have r394195 : o394191.toInt = 0 := gj_eq hc394194 (show Int32.toInt 0 = 0 by decide)
                    have bo394191' : gB o394191 0 0 := gB_t0 r394195
                    refine G_aload 0 dr_cX17_rename_115 rfl ?_
                    refine Gw_callV (As := []) (gV_ok D I) (cp_1660_Row_sets l hl0 D I P368773 F394120 q393254 p394164 p394165 p394166 p394167 p394168 p394169 p394170 hm394162 he394163 bp394164 bp394165 bp394168 bp394169 bp394170) dr_cX17_rename_117 ⟨wr_10_181, wr_1_39, wr_10_184, by decide, rfl, (Nat.le_of_ble_eq_true rfl), (Nat.le_of_ble_eq_true rfl)⟩ wr_10_182 wr_10_183 hm394162 he394163 rfl (show 0 + 0 ≤ 0 by first | omega | decide) (show 0 + 0 ≤ 0 by first | omega | decide) (Nat.le_of_ble_eq_true rfl) (fun r394199 w394200 dc394196 ds394197 hp394198 => ?_) (fun _ _ _ _ _ z => z.elim)
                    obtain ⟨o394201, rfl, rfl, hdc, hds, bo394201, ht394202⟩ := hp394198
                    change G _ _ _ _ _ _ _ (.int o394201 :: _) _ _ _
                    refine G_widen (cs' := 0) (sl' := 0) (by omega) (by omega) ?_
                    refine G_if_eq 138 dr_cX17_rename_120 (by decide +kernel) (fun hc394203 => ?_) (fun hc394203 => ?_)
                    · have r394204 : o394201.toInt = 0 := gj_eq hc394203 (show Int32.toInt 0 = 0 by decide)
                      have bo394201' : gB o394201 0 0 := gB_t0 r394204
                      obtain ⟨z394205, hz394205⟩ : ∃ z : Int32, z = g394119 + Int32.ofInt 1 := ⟨_, rfl⟩
                      have ez394205 : z394205.toInt = g394119.toInt + 1 := gI_inc hz394205 (by decide) bg394119' (by decide) (by decide)
                      have bz394205 : gB z394205 1 1000001 := ⟨by omega, by omega⟩
                      refine G_iinc (L' := [(5, .int z394205), (6, .ref q393254), (4, .ref q393244), (3, .int g393184), (0, .ref q368775), (1, .int p368776), (2, .int p368777)]) z394205 1 dr_cX17_rename_138 rfl hz394205.symm (Nat.le_of_ble_eq_true rfl) rfl ?_
                      refine G_goto 20 dr_cX17_rename_141 (by decide +kernel) ?_
                      refine G_lv (L' := [(5, .int z394205), (4, .ref q393244), (3, .int g393184), (0, .ref q368775), (1, .int p368776), (2, .int p368777)]) [0, 2, 3, 4, 5, 6] rfl ?_
                      exact ih20_394124 F394120 z394205 (gB_w bz394205 (by decide) (by decide)) hT394121 hs394122 x394123 x394124 (mz_up ez394205 (Int.le_trans bg394119'.2 (by decide)) hm20_394124)
                    · have r394206 : o394201.toInt ≠ 0 := gj_neq hc394203 (show Int32.toInt 0 = 0 by decide)
                      have bo394201' : gB o394201 1 1 := gB_t1 bo394201 r394206
                      refine G_aload 0 dr_cX17_rename_123 rfl ?_
                      refine Gp_get 1 hm394162 he394163 dr_cX17_rename_125 (gk_X15 D I) (Nat.le_of_ble_eq_true rfl) wr_9_182 rfl ?_
                      refine G_iload_n 5 dr_cX17_rename_128 rfl ?_
                      refine G_icmp_ne 138 dr_cX17_rename_129 (by decide +kernel) (fun hc394207 => ?_) (fun hc394207 => ?_)
                      · have r394208 : p394165.toInt ≠ p368776.toInt := gC_ne hc394207
                        obtain ⟨z394209, hz394209⟩ : ∃ z : Int32, z = g394119 + Int32.ofInt 1 := ⟨_, rfl⟩
                        have ez394209 : z394209.toInt = g394119.toInt + 1 := gI_inc hz394209 (by decide) bg394119' (by decide) (by decide)
                        have bz394209 : gB z394209 1 1000001 := ⟨by omega, by omega⟩
                        refine G_iinc (L' := [(5, .int z394209), (6, .ref q393254), (4, .ref q393244), (3, .int g393184), (0, .ref q368775), (1, .int p368776), (2, .int p368777)]) z394209 1 dr_cX17_rename_138 rfl hz394209.symm (Nat.le_of_ble_eq_true rfl) rfl ?_
                        refine G_goto 20 dr_cX17_rename_141 (by decide +kernel) ?_
                        refine G_lv (L' := [(5, .int z394209), (4, .ref q393244), (3, .int g393184), (0, .ref q368775), (1, .int p368776), (2, .int p368777)]) [0, 2, 3, 4, 5, 6] rfl ?_
                        exact ih20_394124 F394120 z394209 (gB_w bz394209 (by decide) (by decide)) hT394121 hs394122 x394123 x394124 (mz_up ez394209 (Int.le_trans bg394119'.2 (by decide)) hm20_394124)
                      · have r394210 : p394165.toInt = p368776.toInt := gC_eq hc394207
                        refine G_aload 0 dr_cX17_rename_132 rfl ?_
                        refine G_iload_n 6 dr_cX17_rename_134 rfl ?_
                        refine Gp_put 1 hm394162 he394163 dr_cX17_rename_135 (gk_X15 D I) (Nat.le_of_ble_eq_true rfl) wr_9_182 rfl rfl rfl (Nat.le_of_ble_eq_true rfl) (fun F394211 e394212 n394213 => ?_)
                        have he394214 : F394211 q368775 = .inr (18, [.ref q393195, .ref q393196, .int p393197, .int p393198]) := (n394213 q368775 (rn_oo he394127 he394163 (by decide))).trans he394127
                        have he394215 : F394211 q393195 = .inr (4, [.int p393225, .ref q393227, .int p393226]) := (n394213 q393195 (rn_oo he394128 he394163 (by decide))).trans he394128
                        have he394216 : F394211 q393227 = .inl (I (.object "java/lang/Object"), n393241, .inr (.inr (.inr (.inr f393242)))) := (n394213 q393227 (rn_ao he394129 he394163)).trans he394129
                        have he394217 : F394211 q393244 = .inr (17, [.ref q393253, .ref q393254, .int p393255, .int p393256]) := (n394213 q393244 (rn_oo he394130 he394163 (by decide))).trans he394130
                        have he394218 : F394211 q393253 = .inr (4, [.int p394134, .ref q394136, .int p394135]) := (n394213 q393253 (rn_oo he394133 he394163 (by decide))).trans he394133
                        have he394219 : F394211 q393254 = .inr (20, [.int p394164, .int p368777, .int p394166, .int p394167, .int p394168, .int p394169, .int p394170]) := e394212
                        have hs394220 : rStr γ [1] F368774 F394211 := rStr_pu2 hs394122 n394213 ht393259 (by decide)
                        have fk394221 : rFk [1] γ F368774 F394211 := rFk_put x394124 n394213 ht393259 (by decide)
                        obtain ⟨z394222, hz394222⟩ : ∃ z : Int32, z = g394119 + Int32.ofInt 1 := ⟨_, rfl⟩
                        have ez394222 : z394222.toInt = g394119.toInt + 1 := gI_inc hz394222 (by decide) bg394119' (by decide) (by decide)
                        have bz394222 : gB z394222 1 1000001 := ⟨by omega, by omega⟩
                        refine G_iinc (L' := [(5, .int z394222), (6, .ref q393254), (4, .ref q393244), (3, .int g393184), (0, .ref q368775), (1, .int p368776), (2, .int p368777)]) z394222 1 dr_cX17_rename_138 rfl hz394222.symm (Nat.le_of_ble_eq_true rfl) rfl ?_
                        refine G_goto 20 dr_cX17_rename_141 (by decide +kernel) ?_
                        have hT394223 : RS D I P368773 F394211 γ el := RS_set hT394121 n394213 ht393259 (by decide) ⟨p394164, p368777, p394166, p394167, p394168, p394169, p394170, he394219, bp394164, bp368777, bp394168, bp394169, bp394170, r394171, r394172, r394173, r394174, r394175⟩
                        refine G_lv (L' := [(5, .int z394222), (4, .ref q393244), (3, .int g393184), (0, .ref q368775), (1, .int p368776), (2, .int p368777)]) [0, 2, 3, 4, 5, 6] rfl ?_
                        exact ih20_394124 F394211 z394222 (gB_w bz394222 (by decide) (by decide)) hT394223 hs394220 (fun N hv hu hp => rPl_put hT394121 htq368775 rfl (x394123 N hv hu hp) n394213 hp394158 nb394161 hL394159 (fun _ _ _ _ z => z) (rNx_ren he394163 he394219 hu hv (Or.inl rfl) (Or.inl rfl) (Or.inr ⟨rfl, by first | assumption | omega⟩) (by rw [← hp394158]; exact x394123 N hv hu hp _ nb394161 _ hL394159))) fk394221 (mz_up ez394222 (Int.le_trans bg394119'.2 (by decide)) hm20_394124)
                  · have r394225 : o394191.toInt ≠ 0 := gj_neq hc394194 (show Int32.toInt 0 = 0 by decide)
                    have bo394191' : gB o394191 1 1 := gB_t1 bo394191 r394225
                    refine G_aload 0 dr_cX17_rename_100 rfl ?_
                    refine Gp_get 3 hm394162 he394163 dr_cX17_rename_102 (gk_X15 D I) (Nat.le_of_ble_eq_true rfl) wr_9_190 rfl ?_
                    refine G_iload_n 5 dr_cX17_rename_105 rfl ?_
                    refine G_icmp_ne 115 dr_cX17_rename_106 (by decide +kernel) (fun hc394226 => ?_) (fun hc394226 => ?_)
                    · have r394227 : p394167.toInt ≠ p368776.toInt := gC_ne hc394226
                      refine G_aload 0 dr_cX17_rename_115 rfl ?_
                      refine Gw_callV (As := []) (gV_ok D I) (cp_1660_Row_sets l hl0 D I P368773 F394120 q393254 p394164 p394165 p394166 p394167 p394168 p394169 p394170 hm394162 he394163 bp394164 bp394165 bp394168 bp394169 bp394170) dr_cX17_rename_117 ⟨wr_10_181, wr_1_39, wr_10_184, by decide, rfl, (Nat.le_of_ble_eq_true rfl), (Nat.le_of_ble_eq_true rfl)⟩ wr_10_182 wr_10_183 hm394162 he394163 rfl (show 0 + 0 ≤ 0 by first | omega | decide) (show 0 + 0 ≤ 0 by first | omega | decide) (Nat.le_of_ble_eq_true rfl) (fun r394231 w394232 dc394228 ds394229 hp394230 => ?_) (fun _ _ _ _ _ z => z.elim)
                      obtain ⟨o394233, rfl, rfl, hdc, hds, bo394233, ht394234⟩ := hp394230
                      change G _ _ _ _ _ _ _ (.int o394233 :: _) _ _ _
                      refine G_widen (cs' := 0) (sl' := 0) (by omega) (by omega) ?_
                      refine G_if_eq 138 dr_cX17_rename_120 (by decide +kernel) (fun hc394235 => ?_) (fun hc394235 => ?_)
                      · have r394236 : o394233.toInt = 0 := gj_eq hc394235 (show Int32.toInt 0 = 0 by decide)
                        have bo394233' : gB o394233 0 0 := gB_t0 r394236
                        obtain ⟨z394237, hz394237⟩ : ∃ z : Int32, z = g394119 + Int32.ofInt 1 := ⟨_, rfl⟩
                        have ez394237 : z394237.toInt = g394119.toInt + 1 := gI_inc hz394237 (by decide) bg394119' (by decide) (by decide)
                        have bz394237 : gB z394237 1 1000001 := ⟨by omega, by omega⟩
                        refine G_iinc (L' := [(5, .int z394237), (6, .ref q393254), (4, .ref q393244), (3, .int g393184), (0, .ref q368775), (1, .int p368776), (2, .int p368777)]) z394237 1 dr_cX17_rename_138 rfl hz394237.symm (Nat.le_of_ble_eq_true rfl) rfl ?_
                        refine G_goto 20 dr_cX17_rename_141 (by decide +kernel) ?_
                        refine G_lv (L' := [(5, .int z394237), (4, .ref q393244), (3, .int g393184), (0, .ref q368775), (1, .int p368776), (2, .int p368777)]) [0, 2, 3, 4, 5, 6] rfl ?_
                        exact ih20_394124 F394120 z394237 (gB_w bz394237 (by decide) (by decide)) hT394121 hs394122 x394123 x394124 (mz_up ez394237 (Int.le_trans bg394119'.2 (by decide)) hm20_394124)
                      · have r394238 : o394233.toInt ≠ 0 := gj_neq hc394235 (show Int32.toInt 0 = 0 by decide)
                        have bo394233' : gB o394233 1 1 := gB_t1 bo394233 r394238
                        refine G_aload 0 dr_cX17_rename_123 rfl ?_
                        refine Gp_get 1 hm394162 he394163 dr_cX17_rename_125 (gk_X15 D I) (Nat.le_of_ble_eq_true rfl) wr_9_182 rfl ?_
                        refine G_iload_n 5 dr_cX17_rename_128 rfl ?_
                        refine G_icmp_ne 138 dr_cX17_rename_129 (by decide +kernel) (fun hc394239 => ?_) (fun hc394239 => ?_)
                        · have r394240 : p394165.toInt ≠ p368776.toInt := gC_ne hc394239
                          obtain ⟨z394241, hz394241⟩ : ∃ z : Int32, z = g394119 + Int32.ofInt 1 := ⟨_, rfl⟩
                          have ez394241 : z394241.toInt = g394119.toInt + 1 := gI_inc hz394241 (by decide) bg394119' (by decide) (by decide)
                          have bz394241 : gB z394241 1 1000001 := ⟨by omega, by omega⟩
                          refine G_iinc (L' := [(5, .int z394241), (6, .ref q393254), (4, .ref q393244), (3, .int g393184), (0, .ref q368775), (1, .int p368776), (2, .int p368777)]) z394241 1 dr_cX17_rename_138 rfl hz394241.symm (Nat.le_of_ble_eq_true rfl) rfl ?_
                          refine G_goto 20 dr_cX17_rename_141 (by decide +kernel) ?_
                          refine G_lv (L' := [(5, .int z394241), (4, .ref q393244), (3, .int g393184), (0, .ref q368775), (1, .int p368776), (2, .int p368777)]) [0, 2, 3, 4, 5, 6] rfl ?_
                          exact ih20_394124 F394120 z394241 (gB_w bz394241 (by decide) (by decide)) hT394121 hs394122 x394123 x394124 (mz_up ez394241 (Int.le_trans bg394119'.2 (by decide)) hm20_394124)
                        · have r394242 : p394165.toInt = p368776.toInt := gC_eq hc394239
                          refine G_aload 0 dr_cX17_rename_132 rfl ?_
                          refine G_iload_n 6 dr_cX17_rename_134 rfl ?_
                          refine Gp_put 1 hm394162 he394163 dr_cX17_rename_135 (gk_X15 D I) (Nat.le_of_ble_eq_true rfl) wr_9_182 rfl rfl rfl (Nat.le_of_ble_eq_true rfl) (fun F394243 e394244 n394245 => ?_)
                          have he394246 : F394243 q368775 = .inr (18, [.ref q393195, .ref q393196, .int p393197, .int p393198]) := (n394245 q368775 (rn_oo he394127 he394163 (by decide))).trans he394127
                          have he394247 : F394243 q393195 = .inr (4, [.int p393225, .ref q393227, .int p393226]) := (n394245 q393195 (rn_oo he394128 he394163 (by decide))).trans he394128
                          have he394248 : F394243 q393227 = .inl (I (.object "java/lang/Object"), n393241, .inr (.inr (.inr (.inr f393242)))) := (n394245 q393227 (rn_ao he394129 he394163)).trans he394129
                          have he394249 : F394243 q393244 = .inr (17, [.ref q393253, .ref q393254, .int p393255, .int p393256]) := (n394245 q393244 (rn_oo he394130 he394163 (by decide))).trans he394130
                          have he394250 : F394243 q393253 = .inr (4, [.int p394134, .ref q394136, .int p394135]) := (n394245 q393253 (rn_oo he394133 he394163 (by decide))).trans he394133
                          have he394251 : F394243 q393254 = .inr (20, [.int p394164, .int p368777, .int p394166, .int p394167, .int p394168, .int p394169, .int p394170]) := e394244
                          have hs394252 : rStr γ [1] F368774 F394243 := rStr_pu2 hs394122 n394245 ht393259 (by decide)
                          have fk394253 : rFk [1] γ F368774 F394243 := rFk_put x394124 n394245 ht393259 (by decide)
                          obtain ⟨z394254, hz394254⟩ : ∃ z : Int32, z = g394119 + Int32.ofInt 1 := ⟨_, rfl⟩
                          have ez394254 : z394254.toInt = g394119.toInt + 1 := gI_inc hz394254 (by decide) bg394119' (by decide) (by decide)
                          have bz394254 : gB z394254 1 1000001 := ⟨by omega, by omega⟩
                          refine G_iinc (L' := [(5, .int z394254), (6, .ref q393254), (4, .ref q393244), (3, .int g393184), (0, .ref q368775), (1, .int p368776), (2, .int p368777)]) z394254 1 dr_cX17_rename_138 rfl hz394254.symm (Nat.le_of_ble_eq_true rfl) rfl ?_
                          refine G_goto 20 dr_cX17_rename_141 (by decide +kernel) ?_
                          have hT394255 : RS D I P368773 F394243 γ el := RS_set hT394121 n394245 ht393259 (by decide) ⟨p394164, p368777, p394166, p394167, p394168, p394169, p394170, he394251, bp394164, bp368777, bp394168, bp394169, bp394170, r394171, r394172, r394173, r394174, r394175⟩
                          refine G_lv (L' := [(5, .int z394254), (4, .ref q393244), (3, .int g393184), (0, .ref q368775), (1, .int p368776), (2, .int p368777)]) [0, 2, 3, 4, 5, 6] rfl ?_
                          exact ih20_394124 F394243 z394254 (gB_w bz394254 (by decide) (by decide)) hT394255 hs394252 (fun N hv hu hp => rPl_put hT394121 htq368775 rfl (x394123 N hv hu hp) n394245 hp394158 nb394161 hL394159 (fun _ _ _ _ z => z) (rNx_ren he394163 he394251 hu hv (Or.inl rfl) (Or.inl rfl) (Or.inr ⟨rfl, by first | assumption | omega⟩) (by rw [← hp394158]; exact x394123 N hv hu hp _ nb394161 _ hL394159))) fk394253 (mz_up ez394254 (Int.le_trans bg394119'.2 (by decide)) hm20_394124)
                    · have r394257 : p394167.toInt = p368776.toInt := gC_eq hc394226
                      have bp394167' : gB p394167 0 1999 := ⟨by omega, by omega⟩
                      refine G_aload 0 dr_cX17_rename_109 rfl ?_
                      refine G_iload_n 6 dr_cX17_rename_111 rfl ?_
                      refine Gp_put 3 hm394162 he394163 dr_cX17_rename_112 (gk_X15 D I) (Nat.le_of_ble_eq_true rfl) wr_9_190 rfl rfl rfl (Nat.le_of_ble_eq_true rfl) (fun F394258 e394259 n394260 => ?_)
                      have he394261 : F394258 q368775 = .inr (18, [.ref q393195, .ref q393196, .int p393197, .int p393198]) := (n394260 q368775 (rn_oo he394127 he394163 (by decide))).trans he394127
                      have he394262 : F394258 q393195 = .inr (4, [.int p393225, .ref q393227, .int p393226]) := (n394260 q393195 (rn_oo he394128 he394163 (by decide))).trans he394128
                      have he394263 : F394258 q393227 = .inl (I (.object "java/lang/Object"), n393241, .inr (.inr (.inr (.inr f393242)))) := (n394260 q393227 (rn_ao he394129 he394163)).trans he394129
                      have he394264 : F394258 q393244 = .inr (17, [.ref q393253, .ref q393254, .int p393255, .int p393256]) := (n394260 q393244 (rn_oo he394130 he394163 (by decide))).trans he394130
                      have he394265 : F394258 q393253 = .inr (4, [.int p394134, .ref q394136, .int p394135]) := (n394260 q393253 (rn_oo he394133 he394163 (by decide))).trans he394133
                      have he394266 : F394258 q393254 = .inr (20, [.int p394164, .int p394165, .int p394166, .int p368777, .int p394168, .int p394169, .int p394170]) := e394259
                      have hs394267 : rStr γ [1] F368774 F394258 := rStr_pu2 hs394122 n394260 ht393259 (by decide)
                      have fk394268 : rFk [1] γ F368774 F394258 := rFk_put x394124 n394260 ht393259 (by decide)
                      refine G_aload 0 dr_cX17_rename_115 rfl ?_
                      have hT394269 : RS D I P368773 F394258 γ el := RS_set hT394121 n394260 ht393259 (by decide) ⟨p394164, p394165, p394166, p368777, p394168, p394169, p394170, he394266, bp394164, bp394165, bp394168, bp394169, bp394170, r394171, r394172, (Or.inr bp368777), r394174, r394175⟩
                      refine Gw_callV (As := []) (gV_ok D I) (cp_1660_Row_sets l hl0 D I P368773 F394258 q393254 p394164 p394165 p394166 p368777 p394168 p394169 p394170 hm394162 he394266 bp394164 bp394165 bp394168 bp394169 bp394170) dr_cX17_rename_117 ⟨wr_10_181, wr_1_39, wr_10_184, by decide, rfl, (Nat.le_of_ble_eq_true rfl), (Nat.le_of_ble_eq_true rfl)⟩ wr_10_182 wr_10_183 hm394162 he394266 rfl (show 0 + 0 ≤ 0 by first | omega | decide) (show 0 + 0 ≤ 0 by first | omega | decide) (Nat.le_of_ble_eq_true rfl) (fun r394274 w394275 dc394271 ds394272 hp394273 => ?_) (fun _ _ _ _ _ z => z.elim)
                      obtain ⟨o394276, rfl, rfl, hdc, hds, bo394276, ht394277⟩ := hp394273
                      change G _ _ _ _ _ _ _ (.int o394276 :: _) _ _ _
                      refine G_widen (cs' := 0) (sl' := 0) (by omega) (by omega) ?_
                      refine G_if_eq 138 dr_cX17_rename_120 (by decide +kernel) (fun hc394278 => ?_) (fun hc394278 => ?_)
                      · have r394279 : o394276.toInt = 0 := gj_eq hc394278 (show Int32.toInt 0 = 0 by decide)
                        have bo394276' : gB o394276 0 0 := gB_t0 r394279
                        obtain ⟨z394280, hz394280⟩ : ∃ z : Int32, z = g394119 + Int32.ofInt 1 := ⟨_, rfl⟩
                        have ez394280 : z394280.toInt = g394119.toInt + 1 := gI_inc hz394280 (by decide) bg394119' (by decide) (by decide)
                        have bz394280 : gB z394280 1 1000001 := ⟨by omega, by omega⟩
                        refine G_iinc (L' := [(5, .int z394280), (6, .ref q393254), (4, .ref q393244), (3, .int g393184), (0, .ref q368775), (1, .int p368776), (2, .int p368777)]) z394280 1 dr_cX17_rename_138 rfl hz394280.symm (Nat.le_of_ble_eq_true rfl) rfl ?_
                        refine G_goto 20 dr_cX17_rename_141 (by decide +kernel) ?_
                        refine G_lv (L' := [(5, .int z394280), (4, .ref q393244), (3, .int g393184), (0, .ref q368775), (1, .int p368776), (2, .int p368777)]) [0, 2, 3, 4, 5, 6] rfl ?_
                        exact ih20_394124 F394258 z394280 (gB_w bz394280 (by decide) (by decide)) hT394269 hs394267 (fun N hv hu hp => rPl_put hT394121 htq368775 rfl (x394123 N hv hu hp) n394260 hp394158 nb394161 hL394159 (fun _ _ _ _ z => z) (rNx_ren he394163 he394266 hu hv (Or.inl rfl) (Or.inr rfl) (Or.inl rfl) (by rw [← hp394158]; exact x394123 N hv hu hp _ nb394161 _ hL394159))) fk394268 (mz_up ez394280 (Int.le_trans bg394119'.2 (by decide)) hm20_394124)
                      · have r394281 : o394276.toInt ≠ 0 := gj_neq hc394278 (show Int32.toInt 0 = 0 by decide)
                        have bo394276' : gB o394276 1 1 := gB_t1 bo394276 r394281
                        refine G_aload 0 dr_cX17_rename_123 rfl ?_
                        refine Gp_get 1 hm394162 he394266 dr_cX17_rename_125 (gk_X15 D I) (Nat.le_of_ble_eq_true rfl) wr_9_182 rfl ?_
                        refine G_iload_n 5 dr_cX17_rename_128 rfl ?_
                        refine G_icmp_ne 138 dr_cX17_rename_129 (by decide +kernel) (fun hc394282 => ?_) (fun hc394282 => ?_)
                        · have r394283 : p394165.toInt ≠ p368776.toInt := gC_ne hc394282
                          obtain ⟨z394284, hz394284⟩ : ∃ z : Int32, z = g394119 + Int32.ofInt 1 := ⟨_, rfl⟩
                          have ez394284 : z394284.toInt = g394119.toInt + 1 := gI_inc hz394284 (by decide) bg394119' (by decide) (by decide)
                          have bz394284 : gB z394284 1 1000001 := ⟨by omega, by omega⟩
                          refine G_iinc (L' := [(5, .int z394284), (6, .ref q393254), (4, .ref q393244), (3, .int g393184), (0, .ref q368775), (1, .int p368776), (2, .int p368777)]) z394284 1 dr_cX17_rename_138 rfl hz394284.symm (Nat.le_of_ble_eq_true rfl) rfl ?_
                          refine G_goto 20 dr_cX17_rename_141 (by decide +kernel) ?_
                          refine G_lv (L' := [(5, .int z394284), (4, .ref q393244), (3, .int g393184), (0, .ref q368775), (1, .int p368776), (2, .int p368777)]) [0, 2, 3, 4, 5, 6] rfl ?_
                          exact ih20_394124 F394258 z394284 (gB_w bz394284 (by decide) (by decide)) hT394269 hs394267 (fun N hv hu hp => rPl_put hT394121 htq368775 rfl (x394123 N hv hu hp) n394260 hp394158 nb394161 hL394159 (fun _ _ _ _ z => z) (rNx_ren he394163 he394266 hu hv (Or.inl rfl) (Or.inr rfl) (Or.inl rfl) (by rw [← hp394158]; exact x394123 N hv hu hp _ nb394161 _ hL394159))) fk394268 (mz_up ez394284 (Int.le_trans bg394119'.2 (by decide)) hm20_394124)
                        · have r394285 : p394165.toInt = p368776.toInt := gC_eq hc394282
                          refine G_aload 0 dr_cX17_rename_132 rfl ?_
                          refine G_iload_n 6 dr_cX17_rename_134 rfl ?_
                          refine Gp_put 1 hm394162 he394266 dr_cX17_rename_135 (gk_X15 D I) (Nat.le_of_ble_eq_true rfl) wr_9_182 rfl rfl rfl (Nat.le_of_ble_eq_true rfl) (fun F394286 e394287 n394288 => ?_)
                          have he394289 : F394286 q368775 = .inr (18, [.ref q393195, .ref q393196, .int p393197, .int p393198]) := (n394288 q368775 (rn_oo he394261 he394266 (by decide))).trans he394261
                          have he394290 : F394286 q393195 = .inr (4, [.int p393225, .ref q393227, .int p393226]) := (n394288 q393195 (rn_oo he394262 he394266 (by decide))).trans he394262
                          have he394291 : F394286 q393227 = .inl (I (.object "java/lang/Object"), n393241, .inr (.inr (.inr (.inr f393242)))) := (n394288 q393227 (rn_ao he394263 he394266)).trans he394263
                          have he394292 : F394286 q393244 = .inr (17, [.ref q393253, .ref q393254, .int p393255, .int p393256]) := (n394288 q393244 (rn_oo he394264 he394266 (by decide))).trans he394264
                          have he394293 : F394286 q393253 = .inr (4, [.int p394134, .ref q394136, .int p394135]) := (n394288 q393253 (rn_oo he394265 he394266 (by decide))).trans he394265
                          have he394294 : F394286 q393254 = .inr (20, [.int p394164, .int p368777, .int p394166, .int p368777, .int p394168, .int p394169, .int p394170]) := e394287
                          have hs394295 : rStr γ [1] F368774 F394286 := rStr_pu2 hs394267 n394288 ht393259 (by decide)
                          have fk394296 : rFk [1] γ F368774 F394286 := rFk_put fk394268 n394288 ht393259 (by decide)
                          obtain ⟨z394297, hz394297⟩ : ∃ z : Int32, z = g394119 + Int32.ofInt 1 := ⟨_, rfl⟩
                          have ez394297 : z394297.toInt = g394119.toInt + 1 := gI_inc hz394297 (by decide) bg394119' (by decide) (by decide)
                          have bz394297 : gB z394297 1 1000001 := ⟨by omega, by omega⟩
                          refine G_iinc (L' := [(5, .int z394297), (6, .ref q393254), (4, .ref q393244), (3, .int g393184), (0, .ref q368775), (1, .int p368776), (2, .int p368777)]) z394297 1 dr_cX17_rename_138 rfl hz394297.symm (Nat.le_of_ble_eq_true rfl) rfl ?_
                          refine G_goto 20 dr_cX17_rename_141 (by decide +kernel) ?_
                          have hT394298 : RS D I P368773 F394286 γ el := RS_set hT394269 n394288 ht393259 (by decide) ⟨p394164, p368777, p394166, p368777, p394168, p394169, p394170, he394294, bp394164, bp368777, bp394168, bp394169, bp394170, r394171, r394172, (Or.inr bp368777), r394174, r394175⟩
                          have of394299 : ∀ b, b ≠ q393254 → F394286 b = F394120 b := fun b hb => (n394288 b hb).trans (n394260 b hb)
                          refine G_lv (L' := [(5, .int z394297), (4, .ref q393244), (3, .int g393184), (0, .ref q368775), (1, .int p368776), (2, .int p368777)]) [0, 2, 3, 4, 5, 6] rfl ?_
                          exact ih20_394124 F394286 z394297 (gB_w bz394297 (by decide) (by decide)) hT394298 hs394295 (fun N hv hu hp => rPl_put hT394121 htq368775 rfl (x394123 N hv hu hp) of394299 hp394158 nb394161 hL394159 (fun _ _ _ _ z => z) (rNx_ren he394163 he394294 hu hv (Or.inl rfl) (Or.inr rfl) (Or.inr ⟨rfl, by first | assumption | omega⟩) (by rw [← hp394158]; exact x394123 N hv hu hp _ nb394161 _ hL394159))) fk394296 (mz_up ez394297 (Int.le_trans bg394119'.2 (by decide)) hm20_394124)
                · have r394300 : o394181.toInt ≠ 0 := gj_neq hc394184 (show Int32.toInt 0 = 0 by decide)
                  have bo394181' : gB o394181 1 1 := gB_t1 bo394181 r394300
                  refine G_aload 0 dr_cX17_rename_77 rfl ?_
                  refine Gp_get 2 hm394162 he394163 dr_cX17_rename_79 (gk_X15 D I) (Nat.le_of_ble_eq_true rfl) wr_9_186 rfl ?_
                  refine G_iload_n 5 dr_cX17_rename_82 rfl ?_
                  refine G_icmp_ne 92 dr_cX17_rename_83 (by decide +kernel) (fun hc394301 => ?_) (fun hc394301 => ?_)
                  · have r394302 : p394166.toInt ≠ p368776.toInt := gC_ne hc394301
                    refine G_aload 0 dr_cX17_rename_92 rfl ?_
                    refine Gw_callV (As := []) (gV_ok D I) (cp_1699_Row_usesB l hl0 D I P368773 F394120 q393254 p394164 p394165 p394166 p394167 p394168 p394169 p394170 hm394162 he394163 bp394164 bp394165 bp394168 bp394169 bp394170) dr_cX17_rename_94 ⟨wr_10_196, wr_1_39, wr_10_199, by decide, rfl, (Nat.le_of_ble_eq_true rfl), (Nat.le_of_ble_eq_true rfl)⟩ wr_10_197 wr_10_198 hm394162 he394163 rfl (show 0 + 0 ≤ 0 by first | omega | decide) (show 0 + 0 ≤ 0 by first | omega | decide) (Nat.le_of_ble_eq_true rfl) (fun r394306 w394307 dc394303 ds394304 hp394305 => ?_) (fun _ _ _ _ _ z => z.elim)
                    obtain ⟨o394308, rfl, rfl, hdc, hds, bo394308, x394309, ht394310⟩ := hp394305
                    change G _ _ _ _ _ _ _ (.int o394308 :: _) _ _ _
                    refine G_widen (cs' := 0) (sl' := 0) (by omega) (by omega) ?_
                    refine G_if_eq 115 dr_cX17_rename_97 (by decide +kernel) (fun hc394311 => ?_) (fun hc394311 => ?_)
                    · have r394312 : o394308.toInt = 0 := gj_eq hc394311 (show Int32.toInt 0 = 0 by decide)
                      have bo394308' : gB o394308 0 0 := gB_t0 r394312
                      refine G_aload 0 dr_cX17_rename_115 rfl ?_
                      refine Gw_callV (As := []) (gV_ok D I) (cp_1660_Row_sets l hl0 D I P368773 F394120 q393254 p394164 p394165 p394166 p394167 p394168 p394169 p394170 hm394162 he394163 bp394164 bp394165 bp394168 bp394169 bp394170) dr_cX17_rename_117 ⟨wr_10_181, wr_1_39, wr_10_184, by decide, rfl, (Nat.le_of_ble_eq_true rfl), (Nat.le_of_ble_eq_true rfl)⟩ wr_10_182 wr_10_183 hm394162 he394163 rfl (show 0 + 0 ≤ 0 by first | omega | decide) (show 0 + 0 ≤ 0 by first | omega | decide) (Nat.le_of_ble_eq_true rfl) (fun r394316 w394317 dc394313 ds394314 hp394315 => ?_) (fun _ _ _ _ _ z => z.elim)
                      obtain ⟨o394318, rfl, rfl, hdc, hds, bo394318, ht394319⟩ := hp394315
                      change G _ _ _ _ _ _ _ (.int o394318 :: _) _ _ _
                      refine G_widen (cs' := 0) (sl' := 0) (by omega) (by omega) ?_
                      refine G_if_eq 138 dr_cX17_rename_120 (by decide +kernel) (fun hc394320 => ?_) (fun hc394320 => ?_)
                      · have r394321 : o394318.toInt = 0 := gj_eq hc394320 (show Int32.toInt 0 = 0 by decide)
                        have bo394318' : gB o394318 0 0 := gB_t0 r394321
                        obtain ⟨z394322, hz394322⟩ : ∃ z : Int32, z = g394119 + Int32.ofInt 1 := ⟨_, rfl⟩
                        have ez394322 : z394322.toInt = g394119.toInt + 1 := gI_inc hz394322 (by decide) bg394119' (by decide) (by decide)
                        have bz394322 : gB z394322 1 1000001 := ⟨by omega, by omega⟩
                        refine G_iinc (L' := [(5, .int z394322), (6, .ref q393254), (4, .ref q393244), (3, .int g393184), (0, .ref q368775), (1, .int p368776), (2, .int p368777)]) z394322 1 dr_cX17_rename_138 rfl hz394322.symm (Nat.le_of_ble_eq_true rfl) rfl ?_
                        refine G_goto 20 dr_cX17_rename_141 (by decide +kernel) ?_
                        refine G_lv (L' := [(5, .int z394322), (4, .ref q393244), (3, .int g393184), (0, .ref q368775), (1, .int p368776), (2, .int p368777)]) [0, 2, 3, 4, 5, 6] rfl ?_
                        exact ih20_394124 F394120 z394322 (gB_w bz394322 (by decide) (by decide)) hT394121 hs394122 x394123 x394124 (mz_up ez394322 (Int.le_trans bg394119'.2 (by decide)) hm20_394124)
                      · have r394323 : o394318.toInt ≠ 0 := gj_neq hc394320 (show Int32.toInt 0 = 0 by decide)
                        have bo394318' : gB o394318 1 1 := gB_t1 bo394318 r394323
                        refine G_aload 0 dr_cX17_rename_123 rfl ?_
                        refine Gp_get 1 hm394162 he394163 dr_cX17_rename_125 (gk_X15 D I) (Nat.le_of_ble_eq_true rfl) wr_9_182 rfl ?_
                        refine G_iload_n 5 dr_cX17_rename_128 rfl ?_
                        refine G_icmp_ne 138 dr_cX17_rename_129 (by decide +kernel) (fun hc394324 => ?_) (fun hc394324 => ?_)
                        · have r394325 : p394165.toInt ≠ p368776.toInt := gC_ne hc394324
                          obtain ⟨z394326, hz394326⟩ : ∃ z : Int32, z = g394119 + Int32.ofInt 1 := ⟨_, rfl⟩
                          have ez394326 : z394326.toInt = g394119.toInt + 1 := gI_inc hz394326 (by decide) bg394119' (by decide) (by decide)
                          have bz394326 : gB z394326 1 1000001 := ⟨by omega, by omega⟩
                          refine G_iinc (L' := [(5, .int z394326), (6, .ref q393254), (4, .ref q393244), (3, .int g393184), (0, .ref q368775), (1, .int p368776), (2, .int p368777)]) z394326 1 dr_cX17_rename_138 rfl hz394326.symm (Nat.le_of_ble_eq_true rfl) rfl ?_
                          refine G_goto 20 dr_cX17_rename_141 (by decide +kernel) ?_
                          refine G_lv (L' := [(5, .int z394326), (4, .ref q393244), (3, .int g393184), (0, .ref q368775), (1, .int p368776), (2, .int p368777)]) [0, 2, 3, 4, 5, 6] rfl ?_
                          exact ih20_394124 F394120 z394326 (gB_w bz394326 (by decide) (by decide)) hT394121 hs394122 x394123 x394124 (mz_up ez394326 (Int.le_trans bg394119'.2 (by decide)) hm20_394124)
                        · have r394327 : p394165.toInt = p368776.toInt := gC_eq hc394324
                          refine G_aload 0 dr_cX17_rename_132 rfl ?_
                          refine G_iload_n 6 dr_cX17_rename_134 rfl ?_
                          refine Gp_put 1 hm394162 he394163 dr_cX17_rename_135 (gk_X15 D I) (Nat.le_of_ble_eq_true rfl) wr_9_182 rfl rfl rfl (Nat.le_of_ble_eq_true rfl) (fun F394328 e394329 n394330 => ?_)
                          have he394331 : F394328 q368775 = .inr (18, [.ref q393195, .ref q393196, .int p393197, .int p393198]) := (n394330 q368775 (rn_oo he394127 he394163 (by decide))).trans he394127
                          have he394332 : F394328 q393195 = .inr (4, [.int p393225, .ref q393227, .int p393226]) := (n394330 q393195 (rn_oo he394128 he394163 (by decide))).trans he394128
                          have he394333 : F394328 q393227 = .inl (I (.object "java/lang/Object"), n393241, .inr (.inr (.inr (.inr f393242)))) := (n394330 q393227 (rn_ao he394129 he394163)).trans he394129
                          have he394334 : F394328 q393244 = .inr (17, [.ref q393253, .ref q393254, .int p393255, .int p393256]) := (n394330 q393244 (rn_oo he394130 he394163 (by decide))).trans he394130
                          have he394335 : F394328 q393253 = .inr (4, [.int p394134, .ref q394136, .int p394135]) := (n394330 q393253 (rn_oo he394133 he394163 (by decide))).trans he394133
                          have he394336 : F394328 q393254 = .inr (20, [.int p394164, .int p368777, .int p394166, .int p394167, .int p394168, .int p394169, .int p394170]) := e394329
                          have hs394337 : rStr γ [1] F368774 F394328 := rStr_pu2 hs394122 n394330 ht393259 (by decide)
                          have fk394338 : rFk [1] γ F368774 F394328 := rFk_put x394124 n394330 ht393259 (by decide)
                          obtain ⟨z394339, hz394339⟩ : ∃ z : Int32, z = g394119 + Int32.ofInt 1 := ⟨_, rfl⟩
                          have ez394339 : z394339.toInt = g394119.toInt + 1 := gI_inc hz394339 (by decide) bg394119' (by decide) (by decide)
                          have bz394339 : gB z394339 1 1000001 := ⟨by omega, by omega⟩
                          refine G_iinc (L' := [(5, .int z394339), (6, .ref q393254), (4, .ref q393244), (3, .int g393184), (0, .ref q368775), (1, .int p368776), (2, .int p368777)]) z394339 1 dr_cX17_rename_138 rfl hz394339.symm (Nat.le_of_ble_eq_true rfl) rfl ?_
                          refine G_goto 20 dr_cX17_rename_141 (by decide +kernel) ?_
                          have hT394340 : RS D I P368773 F394328 γ el := RS_set hT394121 n394330 ht393259 (by decide) ⟨p394164, p368777, p394166, p394167, p394168, p394169, p394170, he394336, bp394164, bp368777, bp394168, bp394169, bp394170, r394171, r394172, r394173, r394174, r394175⟩
                          refine G_lv (L' := [(5, .int z394339), (4, .ref q393244), (3, .int g393184), (0, .ref q368775), (1, .int p368776), (2, .int p368777)]) [0, 2, 3, 4, 5, 6] rfl ?_
                          exact ih20_394124 F394328 z394339 (gB_w bz394339 (by decide) (by decide)) hT394340 hs394337 (fun N hv hu hp => rPl_put hT394121 htq368775 rfl (x394123 N hv hu hp) n394330 hp394158 nb394161 hL394159 (fun _ _ _ _ z => z) (rNx_ren he394163 he394336 hu hv (Or.inl rfl) (Or.inl rfl) (Or.inr ⟨rfl, by first | assumption | omega⟩) (by rw [← hp394158]; exact x394123 N hv hu hp _ nb394161 _ hL394159))) fk394338 (mz_up ez394339 (Int.le_trans bg394119'.2 (by decide)) hm20_394124)
                    · have r394342 : o394308.toInt ≠ 0 := gj_neq hc394311 (show Int32.toInt 0 = 0 by decide)
                      have bo394308' : gB o394308 1 1 := gB_t1 bo394308 r394342
                      refine G_aload 0 dr_cX17_rename_100 rfl ?_
                      refine Gp_get 3 hm394162 he394163 dr_cX17_rename_102 (gk_X15 D I) (Nat.le_of_ble_eq_true rfl) wr_9_190 rfl ?_
                      refine G_iload_n 5 dr_cX17_rename_105 rfl ?_
                      refine G_icmp_ne 115 dr_cX17_rename_106 (by decide +kernel) (fun hc394343 => ?_) (fun hc394343 => ?_)
                      · have r394344 : p394167.toInt ≠ p368776.toInt := gC_ne hc394343
                        refine G_aload 0 dr_cX17_rename_115 rfl ?_
                        refine Gw_callV (As := []) (gV_ok D I) (cp_1660_Row_sets l hl0 D I P368773 F394120 q393254 p394164 p394165 p394166 p394167 p394168 p394169 p394170 hm394162 he394163 bp394164 bp394165 bp394168 bp394169 bp394170) dr_cX17_rename_117 ⟨wr_10_181, wr_1_39, wr_10_184, by decide, rfl, (Nat.le_of_ble_eq_true rfl), (Nat.le_of_ble_eq_true rfl)⟩ wr_10_182 wr_10_183 hm394162 he394163 rfl (show 0 + 0 ≤ 0 by first | omega | decide) (show 0 + 0 ≤ 0 by first | omega | decide) (Nat.le_of_ble_eq_true rfl) (fun r394348 w394349 dc394345 ds394346 hp394347 => ?_) (fun _ _ _ _ _ z => z.elim)
                        obtain ⟨o394350, rfl, rfl, hdc, hds, bo394350, ht394351⟩ := hp394347
                        change G _ _ _ _ _ _ _ (.int o394350 :: _) _ _ _
                        refine G_widen (cs' := 0) (sl' := 0) (by omega) (by omega) ?_
                        refine G_if_eq 138 dr_cX17_rename_120 (by decide +kernel) (fun hc394352 => ?_) (fun hc394352 => ?_)
                        · have r394353 : o394350.toInt = 0 := gj_eq hc394352 (show Int32.toInt 0 = 0 by decide)
                          have bo394350' : gB o394350 0 0 := gB_t0 r394353
                          obtain ⟨z394354, hz394354⟩ : ∃ z : Int32, z = g394119 + Int32.ofInt 1 := ⟨_, rfl⟩
                          have ez394354 : z394354.toInt = g394119.toInt + 1 := gI_inc hz394354 (by decide) bg394119' (by decide) (by decide)
                          have bz394354 : gB z394354 1 1000001 := ⟨by omega, by omega⟩
                          refine G_iinc (L' := [(5, .int z394354), (6, .ref q393254), (4, .ref q393244), (3, .int g393184), (0, .ref q368775), (1, .int p368776), (2, .int p368777)]) z394354 1 dr_cX17_rename_138 rfl hz394354.symm (Nat.le_of_ble_eq_true rfl) rfl ?_
                          refine G_goto 20 dr_cX17_rename_141 (by decide +kernel) ?_
                          refine G_lv (L' := [(5, .int z394354), (4, .ref q393244), (3, .int g393184), (0, .ref q368775), (1, .int p368776), (2, .int p368777)]) [0, 2, 3, 4, 5, 6] rfl ?_
                          exact ih20_394124 F394120 z394354 (gB_w bz394354 (by decide) (by decide)) hT394121 hs394122 x394123 x394124 (mz_up ez394354 (Int.le_trans bg394119'.2 (by decide)) hm20_394124)
                        · have r394355 : o394350.toInt ≠ 0 := gj_neq hc394352 (show Int32.toInt 0 = 0 by decide)
                          have bo394350' : gB o394350 1 1 := gB_t1 bo394350 r394355
                          refine G_aload 0 dr_cX17_rename_123 rfl ?_
                          refine Gp_get 1 hm394162 he394163 dr_cX17_rename_125 (gk_X15 D I) (Nat.le_of_ble_eq_true rfl) wr_9_182 rfl ?_
                          refine G_iload_n 5 dr_cX17_rename_128 rfl ?_
                          refine G_icmp_ne 138 dr_cX17_rename_129 (by decide +kernel) (fun hc394356 => ?_) (fun hc394356 => ?_)
                          · have r394357 : p394165.toInt ≠ p368776.toInt := gC_ne hc394356
                            obtain ⟨z394358, hz394358⟩ : ∃ z : Int32, z = g394119 + Int32.ofInt 1 := ⟨_, rfl⟩
                            have ez394358 : z394358.toInt = g394119.toInt + 1 := gI_inc hz394358 (by decide) bg394119' (by decide) (by decide)
                            have bz394358 : gB z394358 1 1000001 := ⟨by omega, by omega⟩
                            refine G_iinc (L' := [(5, .int z394358), (6, .ref q393254), (4, .ref q393244), (3, .int g393184), (0, .ref q368775), (1, .int p368776), (2, .int p368777)]) z394358 1 dr_cX17_rename_138 rfl hz394358.symm (Nat.le_of_ble_eq_true rfl) rfl ?_
                            refine G_goto 20 dr_cX17_rename_141 (by decide +kernel) ?_
                            refine G_lv (L' := [(5, .int z394358), (4, .ref q393244), (3, .int g393184), (0, .ref q368775), (1, .int p368776), (2, .int p368777)]) [0, 2, 3, 4, 5, 6] rfl ?_
                            exact ih20_394124 F394120 z394358 (gB_w bz394358 (by decide) (by decide)) hT394121 hs394122 x394123 x394124 (mz_up ez394358 (Int.le_trans bg394119'.2 (by decide)) hm20_394124)
                          · have r394359 : p394165.toInt = p368776.toInt := gC_eq hc394356
                            refine G_aload 0 dr_cX17_rename_132 rfl ?_
                            refine G_iload_n 6 dr_cX17_rename_134 rfl ?_
                            refine Gp_put 1 hm394162 he394163 dr_cX17_rename_135 (gk_X15 D I) (Nat.le_of_ble_eq_true rfl) wr_9_182 rfl rfl rfl (Nat.le_of_ble_eq_true rfl) (fun F394360 e394361 n394362 => ?_)
                            have he394363 : F394360 q368775 = .inr (18, [.ref q393195, .ref q393196, .int p393197, .int p393198]) := (n394362 q368775 (rn_oo he394127 he394163 (by decide))).trans he394127
                            have he394364 : F394360 q393195 = .inr (4, [.int p393225, .ref q393227, .int p393226]) := (n394362 q393195 (rn_oo he394128 he394163 (by decide))).trans he394128
                            have he394365 : F394360 q393227 = .inl (I (.object "java/lang/Object"), n393241, .inr (.inr (.inr (.inr f393242)))) := (n394362 q393227 (rn_ao he394129 he394163)).trans he394129
                            have he394366 : F394360 q393244 = .inr (17, [.ref q393253, .ref q393254, .int p393255, .int p393256]) := (n394362 q393244 (rn_oo he394130 he394163 (by decide))).trans he394130
                            have he394367 : F394360 q393253 = .inr (4, [.int p394134, .ref q394136, .int p394135]) := (n394362 q393253 (rn_oo he394133 he394163 (by decide))).trans he394133
                            have he394368 : F394360 q393254 = .inr (20, [.int p394164, .int p368777, .int p394166, .int p394167, .int p394168, .int p394169, .int p394170]) := e394361
                            have hs394369 : rStr γ [1] F368774 F394360 := rStr_pu2 hs394122 n394362 ht393259 (by decide)
                            have fk394370 : rFk [1] γ F368774 F394360 := rFk_put x394124 n394362 ht393259 (by decide)
                            obtain ⟨z394371, hz394371⟩ : ∃ z : Int32, z = g394119 + Int32.ofInt 1 := ⟨_, rfl⟩
                            have ez394371 : z394371.toInt = g394119.toInt + 1 := gI_inc hz394371 (by decide) bg394119' (by decide) (by decide)
                            have bz394371 : gB z394371 1 1000001 := ⟨by omega, by omega⟩
                            refine G_iinc (L' := [(5, .int z394371), (6, .ref q393254), (4, .ref q393244), (3, .int g393184), (0, .ref q368775), (1, .int p368776), (2, .int p368777)]) z394371 1 dr_cX17_rename_138 rfl hz394371.symm (Nat.le_of_ble_eq_true rfl) rfl ?_
                            refine G_goto 20 dr_cX17_rename_141 (by decide +kernel) ?_
                            have hT394372 : RS D I P368773 F394360 γ el := RS_set hT394121 n394362 ht393259 (by decide) ⟨p394164, p368777, p394166, p394167, p394168, p394169, p394170, he394368, bp394164, bp368777, bp394168, bp394169, bp394170, r394171, r394172, r394173, r394174, r394175⟩
                            refine G_lv (L' := [(5, .int z394371), (4, .ref q393244), (3, .int g393184), (0, .ref q368775), (1, .int p368776), (2, .int p368777)]) [0, 2, 3, 4, 5, 6] rfl ?_
                            exact ih20_394124 F394360 z394371 (gB_w bz394371 (by decide) (by decide)) hT394372 hs394369 (fun N hv hu hp => rPl_put hT394121 htq368775 rfl (x394123 N hv hu hp) n394362 hp394158 nb394161 hL394159 (fun _ _ _ _ z => z) (rNx_ren he394163 he394368 hu hv (Or.inl rfl) (Or.inl rfl) (Or.inr ⟨rfl, by first | assumption | omega⟩) (by rw [← hp394158]; exact x394123 N hv hu hp _ nb394161 _ hL394159))) fk394370 (mz_up ez394371 (Int.le_trans bg394119'.2 (by decide)) hm20_394124)
                      · have r394374 : p394167.toInt = p368776.toInt := gC_eq hc394343
                        have bp394167' : gB p394167 0 1999 := ⟨by omega, by omega⟩
                        refine G_aload 0 dr_cX17_rename_109 rfl ?_
                        refine G_iload_n 6 dr_cX17_rename_111 rfl ?_
                        refine Gp_put 3 hm394162 he394163 dr_cX17_rename_112 (gk_X15 D I) (Nat.le_of_ble_eq_true rfl) wr_9_190 rfl rfl rfl (Nat.le_of_ble_eq_true rfl) (fun F394375 e394376 n394377 => ?_)
                        have he394378 : F394375 q368775 = .inr (18, [.ref q393195, .ref q393196, .int p393197, .int p393198]) := (n394377 q368775 (rn_oo he394127 he394163 (by decide))).trans he394127
                        have he394379 : F394375 q393195 = .inr (4, [.int p393225, .ref q393227, .int p393226]) := (n394377 q393195 (rn_oo he394128 he394163 (by decide))).trans he394128
                        have he394380 : F394375 q393227 = .inl (I (.object "java/lang/Object"), n393241, .inr (.inr (.inr (.inr f393242)))) := (n394377 q393227 (rn_ao he394129 he394163)).trans he394129
                        have he394381 : F394375 q393244 = .inr (17, [.ref q393253, .ref q393254, .int p393255, .int p393256]) := (n394377 q393244 (rn_oo he394130 he394163 (by decide))).trans he394130
                        have he394382 : F394375 q393253 = .inr (4, [.int p394134, .ref q394136, .int p394135]) := (n394377 q393253 (rn_oo he394133 he394163 (by decide))).trans he394133
                        have he394383 : F394375 q393254 = .inr (20, [.int p394164, .int p394165, .int p394166, .int p368777, .int p394168, .int p394169, .int p394170]) := e394376
                        have hs394384 : rStr γ [1] F368774 F394375 := rStr_pu2 hs394122 n394377 ht393259 (by decide)
                        have fk394385 : rFk [1] γ F368774 F394375 := rFk_put x394124 n394377 ht393259 (by decide)
                        refine G_aload 0 dr_cX17_rename_115 rfl ?_
                        have hT394386 : RS D I P368773 F394375 γ el := RS_set hT394121 n394377 ht393259 (by decide) ⟨p394164, p394165, p394166, p368777, p394168, p394169, p394170, he394383, bp394164, bp394165, bp394168, bp394169, bp394170, r394171, r394172, (Or.inr bp368777), r394174, r394175⟩
                        refine Gw_callV (As := []) (gV_ok D I) (cp_1660_Row_sets l hl0 D I P368773 F394375 q393254 p394164 p394165 p394166 p368777 p394168 p394169 p394170 hm394162 he394383 bp394164 bp394165 bp394168 bp394169 bp394170) dr_cX17_rename_117 ⟨wr_10_181, wr_1_39, wr_10_184, by decide, rfl, (Nat.le_of_ble_eq_true rfl), (Nat.le_of_ble_eq_true rfl)⟩ wr_10_182 wr_10_183 hm394162 he394383 rfl (show 0 + 0 ≤ 0 by first | omega | decide) (show 0 + 0 ≤ 0 by first | omega | decide) (Nat.le_of_ble_eq_true rfl) (fun r394391 w394392 dc394388 ds394389 hp394390 => ?_) (fun _ _ _ _ _ z => z.elim)
                        obtain ⟨o394393, rfl, rfl, hdc, hds, bo394393, ht394394⟩ := hp394390
                        change G _ _ _ _ _ _ _ (.int o394393 :: _) _ _ _
                        refine G_widen (cs' := 0) (sl' := 0) (by omega) (by omega) ?_
                        refine G_if_eq 138 dr_cX17_rename_120 (by decide +kernel) (fun hc394395 => ?_) (fun hc394395 => ?_)
                        · have r394396 : o394393.toInt = 0 := gj_eq hc394395 (show Int32.toInt 0 = 0 by decide)
                          have bo394393' : gB o394393 0 0 := gB_t0 r394396
                          obtain ⟨z394397, hz394397⟩ : ∃ z : Int32, z = g394119 + Int32.ofInt 1 := ⟨_, rfl⟩
                          have ez394397 : z394397.toInt = g394119.toInt + 1 := gI_inc hz394397 (by decide) bg394119' (by decide) (by decide)
                          have bz394397 : gB z394397 1 1000001 := ⟨by omega, by omega⟩
                          refine G_iinc (L' := [(5, .int z394397), (6, .ref q393254), (4, .ref q393244), (3, .int g393184), (0, .ref q368775), (1, .int p368776), (2, .int p368777)]) z394397 1 dr_cX17_rename_138 rfl hz394397.symm (Nat.le_of_ble_eq_true rfl) rfl ?_
                          refine G_goto 20 dr_cX17_rename_141 (by decide +kernel) ?_
                          refine G_lv (L' := [(5, .int z394397), (4, .ref q393244), (3, .int g393184), (0, .ref q368775), (1, .int p368776), (2, .int p368777)]) [0, 2, 3, 4, 5, 6] rfl ?_
                          exact ih20_394124 F394375 z394397 (gB_w bz394397 (by decide) (by decide)) hT394386 hs394384 (fun N hv hu hp => rPl_put hT394121 htq368775 rfl (x394123 N hv hu hp) n394377 hp394158 nb394161 hL394159 (fun _ _ _ _ z => z) (rNx_ren he394163 he394383 hu hv (Or.inl rfl) (Or.inr rfl) (Or.inl rfl) (by rw [← hp394158]; exact x394123 N hv hu hp _ nb394161 _ hL394159))) fk394385 (mz_up ez394397 (Int.le_trans bg394119'.2 (by decide)) hm20_394124)
                        · have r394398 : o394393.toInt ≠ 0 := gj_neq hc394395 (show Int32.toInt 0 = 0 by decide)
                          have bo394393' : gB o394393 1 1 := gB_t1 bo394393 r394398
                          refine G_aload 0 dr_cX17_rename_123 rfl ?_
                          refine Gp_get 1 hm394162 he394383 dr_cX17_rename_125 (gk_X15 D I) (Nat.le_of_ble_eq_true rfl) wr_9_182 rfl ?_
                          refine G_iload_n 5 dr_cX17_rename_128 rfl ?_
                          refine G_icmp_ne 138 dr_cX17_rename_129 (by decide +kernel) (fun hc394399 => ?_) (fun hc394399 => ?_)
                          · have r394400 : p394165.toInt ≠ p368776.toInt := gC_ne hc394399
                            obtain ⟨z394401, hz394401⟩ : ∃ z : Int32, z = g394119 + Int32.ofInt 1 := ⟨_, rfl⟩
                            have ez394401 : z394401.toInt = g394119.toInt + 1 := gI_inc hz394401 (by decide) bg394119' (by decide) (by decide)
                            have bz394401 : gB z394401 1 1000001 := ⟨by omega, by omega⟩
                            refine G_iinc (L' := [(5, .int z394401), (6, .ref q393254), (4, .ref q393244), (3, .int g393184), (0, .ref q368775), (1, .int p368776), (2, .int p368777)]) z394401 1 dr_cX17_rename_138 rfl hz394401.symm (Nat.le_of_ble_eq_true rfl) rfl ?_
                            refine G_goto 20 dr_cX17_rename_141 (by decide +kernel) ?_
                            refine G_lv (L' := [(5, .int z394401), (4, .ref q393244), (3, .int g393184), (0, .ref q368775), (1, .int p368776), (2, .int p368777)]) [0, 2, 3, 4, 5, 6] rfl ?_
                            exact ih20_394124 F394375 z394401 (gB_w bz394401 (by decide) (by decide)) hT394386 hs394384 (fun N hv hu hp => rPl_put hT394121 htq368775 rfl (x394123 N hv hu hp) n394377 hp394158 nb394161 hL394159 (fun _ _ _ _ z => z) (rNx_ren he394163 he394383 hu hv (Or.inl rfl) (Or.inr rfl) (Or.inl rfl) (by rw [← hp394158]; exact x394123 N hv hu hp _ nb394161 _ hL394159))) fk394385 (mz_up ez394401 (Int.le_trans bg394119'.2 (by decide)) hm20_394124)
                          · have r394402 : p394165.toInt = p368776.toInt := gC_eq hc394399
                            refine G_aload 0 dr_cX17_rename_132 rfl ?_
                            refine G_iload_n 6 dr_cX17_rename_134 rfl ?_
                            refine Gp_put 1 hm394162 he394383 dr_cX17_rename_135 (gk_X15 D I) (Nat.le_of_ble_eq_true rfl) wr_9_182 rfl rfl rfl (Nat.le_of_ble_eq_true rfl) (fun F394403 e394404 n394405 => ?_)
                            have he394406 : F394403 q368775 = .inr (18, [.ref q393195, .ref q393196, .int p393197, .int p393198]) := (n394405 q368775 (rn_oo he394378 he394383 (by decide))).trans he394378
                            have he394407 : F394403 q393195 = .inr (4, [.int p393225, .ref q393227, .int p393226]) := (n394405 q393195 (rn_oo he394379 he394383 (by decide))).trans he394379
                            have he394408 : F394403 q393227 = .inl (I (.object "java/lang/Object"), n393241, .inr (.inr (.inr (.inr f393242)))) := (n394405 q393227 (rn_ao he394380 he394383)).trans he394380
                            have he394409 : F394403 q393244 = .inr (17, [.ref q393253, .ref q393254, .int p393255, .int p393256]) := (n394405 q393244 (rn_oo he394381 he394383 (by decide))).trans he394381
                            have he394410 : F394403 q393253 = .inr (4, [.int p394134, .ref q394136, .int p394135]) := (n394405 q393253 (rn_oo he394382 he394383 (by decide))).trans he394382
                            have he394411 : F394403 q393254 = .inr (20, [.int p394164, .int p368777, .int p394166, .int p368777, .int p394168, .int p394169, .int p394170]) := e394404
                            have hs394412 : rStr γ [1] F368774 F394403 := rStr_pu2 hs394384 n394405 ht393259 (by decide)
                            have fk394413 : rFk [1] γ F368774 F394403 := rFk_put fk394385 n394405 ht393259 (by decide)
                            obtain ⟨z394414, hz394414⟩ : ∃ z : Int32, z = g394119 + Int32.ofInt 1 := ⟨_, rfl⟩
                            have ez394414 : z394414.toInt = g394119.toInt + 1 := gI_inc hz394414 (by decide) bg394119' (by decide) (by decide)
                            have bz394414 : gB z394414 1 1000001 := ⟨by omega, by omega⟩
                            refine G_iinc (L' := [(5, .int z394414), (6, .ref q393254), (4, .ref q393244), (3, .int g393184), (0, .ref q368775), (1, .int p368776), (2, .int p368777)]) z394414 1 dr_cX17_rename_138 rfl hz394414.symm (Nat.le_of_ble_eq_true rfl) rfl ?_
                            refine G_goto 20 dr_cX17_rename_141 (by decide +kernel) ?_
                            have hT394415 : RS D I P368773 F394403 γ el := RS_set hT394386 n394405 ht393259 (by decide) ⟨p394164, p368777, p394166, p368777, p394168, p394169, p394170, he394411, bp394164, bp368777, bp394168, bp394169, bp394170, r394171, r394172, (Or.inr bp368777), r394174, r394175⟩
                            have of394416 : ∀ b, b ≠ q393254 → F394403 b = F394120 b := fun b hb => (n394405 b hb).trans (n394377 b hb)
                            refine G_lv (L' := [(5, .int z394414), (4, .ref q393244), (3, .int g393184), (0, .ref q368775), (1, .int p368776), (2, .int p368777)]) [0, 2, 3, 4, 5, 6] rfl ?_
                            exact ih20_394124 F394403 z394414 (gB_w bz394414 (by decide) (by decide)) hT394415 hs394412 (fun N hv hu hp => rPl_put hT394121 htq368775 rfl (x394123 N hv hu hp) of394416 hp394158 nb394161 hL394159 (fun _ _ _ _ z => z) (rNx_ren he394163 he394411 hu hv (Or.inl rfl) (Or.inr rfl) (Or.inr ⟨rfl, by first | assumption | omega⟩) (by rw [← hp394158]; exact x394123 N hv hu hp _ nb394161 _ hL394159))) fk394413 (mz_up ez394414 (Int.le_trans bg394119'.2 (by decide)) hm20_394124)
                  · have r394417 : p394166.toInt = p368776.toInt := gC_eq hc394301
                    have bp394166' : gB p394166 0 1999 := ⟨by omega, by omega⟩
                    refine G_aload 0 dr_cX17_rename_86 rfl ?_
                    refine G_iload_n 6 dr_cX17_rename_88 rfl ?_
                    refine Gp_put 2 hm394162 he394163 dr_cX17_rename_89 (gk_X15 D I) (Nat.le_of_ble_eq_true rfl) wr_9_186 rfl rfl rfl (Nat.le_of_ble_eq_true rfl) (fun F394418 e394419 n394420 => ?_)
                    have he394421 : F394418 q368775 = .inr (18, [.ref q393195, .ref q393196, .int p393197, .int p393198]) := (n394420 q368775 (rn_oo he394127 he394163 (by decide))).trans he394127
                    have he394422 : F394418 q393195 = .inr (4, [.int p393225, .ref q393227, .int p393226]) := (n394420 q393195 (rn_oo he394128 he394163 (by decide))).trans he394128
                    have he394423 : F394418 q393227 = .inl (I (.object "java/lang/Object"), n393241, .inr (.inr (.inr (.inr f393242)))) := (n394420 q393227 (rn_ao he394129 he394163)).trans he394129
                    have he394424 : F394418 q393244 = .inr (17, [.ref q393253, .ref q393254, .int p393255, .int p393256]) := (n394420 q393244 (rn_oo he394130 he394163 (by decide))).trans he394130
                    have he394425 : F394418 q393253 = .inr (4, [.int p394134, .ref q394136, .int p394135]) := (n394420 q393253 (rn_oo he394133 he394163 (by decide))).trans he394133
                    have he394426 : F394418 q393254 = .inr (20, [.int p394164, .int p394165, .int p368777, .int p394167, .int p394168, .int p394169, .int p394170]) := e394419
                    have hs394427 : rStr γ [1] F368774 F394418 := rStr_pu2 hs394122 n394420 ht393259 (by decide)
                    have fk394428 : rFk [1] γ F368774 F394418 := rFk_put x394124 n394420 ht393259 (by decide)
                    refine G_aload 0 dr_cX17_rename_92 rfl ?_
                    have hT394429 : RS D I P368773 F394418 γ el := RS_set hT394121 n394420 ht393259 (by decide) ⟨p394164, p394165, p368777, p394167, p394168, p394169, p394170, he394426, bp394164, bp394165, bp394168, bp394169, bp394170, r394171, (Or.inr bp368777), r394173, r394174, r394175⟩
                    refine Gw_callV (As := []) (gV_ok D I) (cp_1699_Row_usesB l hl0 D I P368773 F394418 q393254 p394164 p394165 p368777 p394167 p394168 p394169 p394170 hm394162 he394426 bp394164 bp394165 bp394168 bp394169 bp394170) dr_cX17_rename_94 ⟨wr_10_196, wr_1_39, wr_10_199, by decide, rfl, (Nat.le_of_ble_eq_true rfl), (Nat.le_of_ble_eq_true rfl)⟩ wr_10_197 wr_10_198 hm394162 he394426 rfl (show 0 + 0 ≤ 0 by first | omega | decide) (show 0 + 0 ≤ 0 by first | omega | decide) (Nat.le_of_ble_eq_true rfl) (fun r394434 w394435 dc394431 ds394432 hp394433 => ?_) (fun _ _ _ _ _ z => z.elim)
                    obtain ⟨o394436, rfl, rfl, hdc, hds, bo394436, x394437, ht394438⟩ := hp394433
                    change G _ _ _ _ _ _ _ (.int o394436 :: _) _ _ _
                    refine G_widen (cs' := 0) (sl' := 0) (by omega) (by omega) ?_
                    refine G_if_eq 115 dr_cX17_rename_97 (by decide +kernel) (fun hc394439 => ?_) (fun hc394439 => ?_)
                    · have r394440 : o394436.toInt = 0 := gj_eq hc394439 (show Int32.toInt 0 = 0 by decide)
                      have bo394436' : gB o394436 0 0 := gB_t0 r394440
                      refine G_aload 0 dr_cX17_rename_115 rfl ?_
                      refine Gw_callV (As := []) (gV_ok D I) (cp_1660_Row_sets l hl0 D I P368773 F394418 q393254 p394164 p394165 p368777 p394167 p394168 p394169 p394170 hm394162 he394426 bp394164 bp394165 bp394168 bp394169 bp394170) dr_cX17_rename_117 ⟨wr_10_181, wr_1_39, wr_10_184, by decide, rfl, (Nat.le_of_ble_eq_true rfl), (Nat.le_of_ble_eq_true rfl)⟩ wr_10_182 wr_10_183 hm394162 he394426 rfl (show 0 + 0 ≤ 0 by first | omega | decide) (show 0 + 0 ≤ 0 by first | omega | decide) (Nat.le_of_ble_eq_true rfl) (fun r394444 w394445 dc394441 ds394442 hp394443 => ?_) (fun _ _ _ _ _ z => z.elim)
                      obtain ⟨o394446, rfl, rfl, hdc, hds, bo394446, ht394447⟩ := hp394443
                      change G _ _ _ _ _ _ _ (.int o394446 :: _) _ _ _
                      refine G_widen (cs' := 0) (sl' := 0) (by omega) (by omega) ?_
                      refine G_if_eq 138 dr_cX17_rename_120 (by decide +kernel) (fun hc394448 => ?_) (fun hc394448 => ?_)
                      · have r394449 : o394446.toInt = 0 := gj_eq hc394448 (show Int32.toInt 0 = 0 by decide)
                        have bo394446' : gB o394446 0 0 := gB_t0 r394449
                        obtain ⟨z394450, hz394450⟩ : ∃ z : Int32, z = g394119 + Int32.ofInt 1 := ⟨_, rfl⟩
                        have ez394450 : z394450.toInt = g394119.toInt + 1 := gI_inc hz394450 (by decide) bg394119' (by decide) (by decide)
                        have bz394450 : gB z394450 1 1000001 := ⟨by omega, by omega⟩
                        refine G_iinc (L' := [(5, .int z394450), (6, .ref q393254), (4, .ref q393244), (3, .int g393184), (0, .ref q368775), (1, .int p368776), (2, .int p368777)]) z394450 1 dr_cX17_rename_138 rfl hz394450.symm (Nat.le_of_ble_eq_true rfl) rfl ?_
                        refine G_goto 20 dr_cX17_rename_141 (by decide +kernel) ?_
                        refine G_lv (L' := [(5, .int z394450), (4, .ref q393244), (3, .int g393184), (0, .ref q368775), (1, .int p368776), (2, .int p368777)]) [0, 2, 3, 4, 5, 6] rfl ?_
                        exact ih20_394124 F394418 z394450 (gB_w bz394450 (by decide) (by decide)) hT394429 hs394427 (fun N hv hu hp => rPl_put hT394121 htq368775 rfl (x394123 N hv hu hp) n394420 hp394158 nb394161 hL394159 (fun _ _ _ _ z => z) (rNx_ren he394163 he394426 hu hv (Or.inr rfl) (Or.inl rfl) (Or.inl rfl) (by rw [← hp394158]; exact x394123 N hv hu hp _ nb394161 _ hL394159))) fk394428 (mz_up ez394450 (Int.le_trans bg394119'.2 (by decide)) hm20_394124)
                      · have r394451 : o394446.toInt ≠ 0 := gj_neq hc394448 (show Int32.toInt 0 = 0 by decide)
                        have bo394446' : gB o394446 1 1 := gB_t1 bo394446 r394451
                        refine G_aload 0 dr_cX17_rename_123 rfl ?_
                        refine Gp_get 1 hm394162 he394426 dr_cX17_rename_125 (gk_X15 D I) (Nat.le_of_ble_eq_true rfl) wr_9_182 rfl ?_
                        refine G_iload_n 5 dr_cX17_rename_128 rfl ?_
                        refine G_icmp_ne 138 dr_cX17_rename_129 (by decide +kernel) (fun hc394452 => ?_) (fun hc394452 => ?_)
                        · have r394453 : p394165.toInt ≠ p368776.toInt := gC_ne hc394452
                          obtain ⟨z394454, hz394454⟩ : ∃ z : Int32, z = g394119 + Int32.ofInt 1 := ⟨_, rfl⟩
                          have ez394454 : z394454.toInt = g394119.toInt + 1 := gI_inc hz394454 (by decide) bg394119' (by decide) (by decide)
                          have bz394454 : gB z394454 1 1000001 := ⟨by omega, by omega⟩
                          refine G_iinc (L' := [(5, .int z394454), (6, .ref q393254), (4, .ref q393244), (3, .int g393184), (0, .ref q368775), (1, .int p368776), (2, .int p368777)]) z394454 1 dr_cX17_rename_138 rfl hz394454.symm (Nat.le_of_ble_eq_true rfl) rfl ?_
                          refine G_goto 20 dr_cX17_rename_141 (by decide +kernel) ?_
                          refine G_lv (L' := [(5, .int z394454), (4, .ref q393244), (3, .int g393184), (0, .ref q368775), (1, .int p368776), (2, .int p368777)]) [0, 2, 3, 4, 5, 6] rfl ?_
                          exact ih20_394124 F394418 z394454 (gB_w bz394454 (by decide) (by decide)) hT394429 hs394427 (fun N hv hu hp => rPl_put hT394121 htq368775 rfl (x394123 N hv hu hp) n394420 hp394158 nb394161 hL394159 (fun _ _ _ _ z => z) (rNx_ren he394163 he394426 hu hv (Or.inr rfl) (Or.inl rfl) (Or.inl rfl) (by rw [← hp394158]; exact x394123 N hv hu hp _ nb394161 _ hL394159))) fk394428 (mz_up ez394454 (Int.le_trans bg394119'.2 (by decide)) hm20_394124)
                        · have r394455 : p394165.toInt = p368776.toInt := gC_eq hc394452
                          refine G_aload 0 dr_cX17_rename_132 rfl ?_
                          refine G_iload_n 6 dr_cX17_rename_134 rfl ?_
                          refine Gp_put 1 hm394162 he394426 dr_cX17_rename_135 (gk_X15 D I) (Nat.le_of_ble_eq_true rfl) wr_9_182 rfl rfl rfl (Nat.le_of_ble_eq_true rfl) (fun F394456 e394457 n394458 => ?_)
                          have he394459 : F394456 q368775 = .inr (18, [.ref q393195, .ref q393196, .int p393197, .int p393198]) := (n394458 q368775 (rn_oo he394421 he394426 (by decide))).trans he394421
                          have he394460 : F394456 q393195 = .inr (4, [.int p393225, .ref q393227, .int p393226]) := (n394458 q393195 (rn_oo he394422 he394426 (by decide))).trans he394422
                          have he394461 : F394456 q393227 = .inl (I (.object "java/lang/Object"), n393241, .inr (.inr (.inr (.inr f393242)))) := (n394458 q393227 (rn_ao he394423 he394426)).trans he394423
                          have he394462 : F394456 q393244 = .inr (17, [.ref q393253, .ref q393254, .int p393255, .int p393256]) := (n394458 q393244 (rn_oo he394424 he394426 (by decide))).trans he394424
                          have he394463 : F394456 q393253 = .inr (4, [.int p394134, .ref q394136, .int p394135]) := (n394458 q393253 (rn_oo he394425 he394426 (by decide))).trans he394425
                          have he394464 : F394456 q393254 = .inr (20, [.int p394164, .int p368777, .int p368777, .int p394167, .int p394168, .int p394169, .int p394170]) := e394457
                          have hs394465 : rStr γ [1] F368774 F394456 := rStr_pu2 hs394427 n394458 ht393259 (by decide)
                          have fk394466 : rFk [1] γ F368774 F394456 := rFk_put fk394428 n394458 ht393259 (by decide)
                          obtain ⟨z394467, hz394467⟩ : ∃ z : Int32, z = g394119 + Int32.ofInt 1 := ⟨_, rfl⟩
                          have ez394467 : z394467.toInt = g394119.toInt + 1 := gI_inc hz394467 (by decide) bg394119' (by decide) (by decide)
                          have bz394467 : gB z394467 1 1000001 := ⟨by omega, by omega⟩
                          refine G_iinc (L' := [(5, .int z394467), (6, .ref q393254), (4, .ref q393244), (3, .int g393184), (0, .ref q368775), (1, .int p368776), (2, .int p368777)]) z394467 1 dr_cX17_rename_138 rfl hz394467.symm (Nat.le_of_ble_eq_true rfl) rfl ?_
                          refine G_goto 20 dr_cX17_rename_141 (by decide +kernel) ?_
                          have hT394468 : RS D I P368773 F394456 γ el := RS_set hT394429 n394458 ht393259 (by decide) ⟨p394164, p368777, p368777, p394167, p394168, p394169, p394170, he394464, bp394164, bp368777, bp394168, bp394169, bp394170, r394171, (Or.inr bp368777), r394173, r394174, r394175⟩
                          have of394469 : ∀ b, b ≠ q393254 → F394456 b = F394120 b := fun b hb => (n394458 b hb).trans (n394420 b hb)
                          refine G_lv (L' := [(5, .int z394467), (4, .ref q393244), (3, .int g393184), (0, .ref q368775), (1, .int p368776), (2, .int p368777)]) [0, 2, 3, 4, 5, 6] rfl ?_
                          exact ih20_394124 F394456 z394467 (gB_w bz394467 (by decide) (by decide)) hT394468 hs394465 (fun N hv hu hp => rPl_put hT394121 htq368775 rfl (x394123 N hv hu hp) of394469 hp394158 nb394161 hL394159 (fun _ _ _ _ z => z) (rNx_ren he394163 he394464 hu hv (Or.inr rfl) (Or.inl rfl) (Or.inr ⟨rfl, by first | assumption | omega⟩) (by rw [← hp394158]; exact x394123 N hv hu hp _ nb394161 _ hL394159))) fk394466 (mz_up ez394467 (Int.le_trans bg394119'.2 (by decide)) hm20_394124)
                    · have r394470 : o394436.toInt ≠ 0 := gj_neq hc394439 (show Int32.toInt 0 = 0 by decide)
                      have bo394436' : gB o394436 1 1 := gB_t1 bo394436 r394470
                      refine G_aload 0 dr_cX17_rename_100 rfl ?_
                      refine Gp_get 3 hm394162 he394426 dr_cX17_rename_102 (gk_X15 D I) (Nat.le_of_ble_eq_true rfl) wr_9_190 rfl ?_
                      refine G_iload_n 5 dr_cX17_rename_105 rfl ?_
                      refine G_icmp_ne 115 dr_cX17_rename_106 (by decide +kernel) (fun hc394471 => ?_) (fun hc394471 => ?_)
                      · have r394472 : p394167.toInt ≠ p368776.toInt := gC_ne hc394471
                        refine G_aload 0 dr_cX17_rename_115 rfl ?_
                        refine Gw_callV (As := []) (gV_ok D I) (cp_1660_Row_sets l hl0 D I P368773 F394418 q393254 p394164 p394165 p368777 p394167 p394168 p394169 p394170 hm394162 he394426 bp394164 bp394165 bp394168 bp394169 bp394170) dr_cX17_rename_117 ⟨wr_10_181, wr_1_39, wr_10_184, by decide, rfl, (Nat.le_of_ble_eq_true rfl), (Nat.le_of_ble_eq_true rfl)⟩ wr_10_182 wr_10_183 hm394162 he394426 rfl (show 0 + 0 ≤ 0 by first | omega | decide) (show 0 + 0 ≤ 0 by first | omega | decide) (Nat.le_of_ble_eq_true rfl) (fun r394476 w394477 dc394473 ds394474 hp394475 => ?_) (fun _ _ _ _ _ z => z.elim)
                        obtain ⟨o394478, rfl, rfl, hdc, hds, bo394478, ht394479⟩ := hp394475
                        change G _ _ _ _ _ _ _ (.int o394478 :: _) _ _ _
                        refine G_widen (cs' := 0) (sl' := 0) (by omega) (by omega) ?_
                        refine G_if_eq 138 dr_cX17_rename_120 (by decide +kernel) (fun hc394480 => ?_) (fun hc394480 => ?_)
                        · have r394481 : o394478.toInt = 0 := gj_eq hc394480 (show Int32.toInt 0 = 0 by decide)
                          have bo394478' : gB o394478 0 0 := gB_t0 r394481
                          obtain ⟨z394482, hz394482⟩ : ∃ z : Int32, z = g394119 + Int32.ofInt 1 := ⟨_, rfl⟩
                          have ez394482 : z394482.toInt = g394119.toInt + 1 := gI_inc hz394482 (by decide) bg394119' (by decide) (by decide)
                          have bz394482 : gB z394482 1 1000001 := ⟨by omega, by omega⟩
                          refine G_iinc (L' := [(5, .int z394482), (6, .ref q393254), (4, .ref q393244), (3, .int g393184), (0, .ref q368775), (1, .int p368776), (2, .int p368777)]) z394482 1 dr_cX17_rename_138 rfl hz394482.symm (Nat.le_of_ble_eq_true rfl) rfl ?_
                          refine G_goto 20 dr_cX17_rename_141 (by decide +kernel) ?_
                          refine G_lv (L' := [(5, .int z394482), (4, .ref q393244), (3, .int g393184), (0, .ref q368775), (1, .int p368776), (2, .int p368777)]) [0, 2, 3, 4, 5, 6] rfl ?_
                          exact ih20_394124 F394418 z394482 (gB_w bz394482 (by decide) (by decide)) hT394429 hs394427 (fun N hv hu hp => rPl_put hT394121 htq368775 rfl (x394123 N hv hu hp) n394420 hp394158 nb394161 hL394159 (fun _ _ _ _ z => z) (rNx_ren he394163 he394426 hu hv (Or.inr rfl) (Or.inl rfl) (Or.inl rfl) (by rw [← hp394158]; exact x394123 N hv hu hp _ nb394161 _ hL394159))) fk394428 (mz_up ez394482 (Int.le_trans bg394119'.2 (by decide)) hm20_394124)
                        · have r394483 : o394478.toInt ≠ 0 := gj_neq hc394480 (show Int32.toInt 0 = 0 by decide)
                          have bo394478' : gB o394478 1 1 := gB_t1 bo394478 r394483
                          refine G_aload 0 dr_cX17_rename_123 rfl ?_
                          refine Gp_get 1 hm394162 he394426 dr_cX17_rename_125 (gk_X15 D I) (Nat.le_of_ble_eq_true rfl) wr_9_182 rfl ?_
                          refine G_iload_n 5 dr_cX17_rename_128 rfl ?_
                          refine G_icmp_ne 138 dr_cX17_rename_129 (by decide +kernel) (fun hc394484 => ?_) (fun hc394484 => ?_)
                          · have r394485 : p394165.toInt ≠ p368776.toInt := gC_ne hc394484
                            obtain ⟨z394486, hz394486⟩ : ∃ z : Int32, z = g394119 + Int32.ofInt 1 := ⟨_, rfl⟩
                            have ez394486 : z394486.toInt = g394119.toInt + 1 := gI_inc hz394486 (by decide) bg394119' (by decide) (by decide)
                            have bz394486 : gB z394486 1 1000001 := ⟨by omega, by omega⟩
                            refine G_iinc (L' := [(5, .int z394486), (6, .ref q393254), (4, .ref q393244), (3, .int g393184), (0, .ref q368775), (1, .int p368776), (2, .int p368777)]) z394486 1 dr_cX17_rename_138 rfl hz394486.symm (Nat.le_of_ble_eq_true rfl) rfl ?_
                            refine G_goto 20 dr_cX17_rename_141 (by decide +kernel) ?_
                            refine G_lv (L' := [(5, .int z394486), (4, .ref q393244), (3, .int g393184), (0, .ref q368775), (1, .int p368776), (2, .int p368777)]) [0, 2, 3, 4, 5, 6] rfl ?_
                            exact ih20_394124 F394418 z394486 (gB_w bz394486 (by decide) (by decide)) hT394429 hs394427 (fun N hv hu hp => rPl_put hT394121 htq368775 rfl (x394123 N hv hu hp) n394420 hp394158 nb394161 hL394159 (fun _ _ _ _ z => z) (rNx_ren he394163 he394426 hu hv (Or.inr rfl) (Or.inl rfl) (Or.inl rfl) (by rw [← hp394158]; exact x394123 N hv hu hp _ nb394161 _ hL394159))) fk394428 (mz_up ez394486 (Int.le_trans bg394119'.2 (by decide)) hm20_394124)
                          · have r394487 : p394165.toInt = p368776.toInt := gC_eq hc394484
                            refine G_aload 0 dr_cX17_rename_132 rfl ?_
                            refine G_iload_n 6 dr_cX17_rename_134 rfl ?_
                            refine Gp_put 1 hm394162 he394426 dr_cX17_rename_135 (gk_X15 D I) (Nat.le_of_ble_eq_true rfl) wr_9_182 rfl rfl rfl (Nat.le_of_ble_eq_true rfl) (fun F394488 e394489 n394490 => ?_)
                            have he394491 : F394488 q368775 = .inr (18, [.ref q393195, .ref q393196, .int p393197, .int p393198]) := (n394490 q368775 (rn_oo he394421 he394426 (by decide))).trans he394421
                            have he394492 : F394488 q393195 = .inr (4, [.int p393225, .ref q393227, .int p393226]) := (n394490 q393195 (rn_oo he394422 he394426 (by decide))).trans he394422
                            have he394493 : F394488 q393227 = .inl (I (.object "java/lang/Object"), n393241, .inr (.inr (.inr (.inr f393242)))) := (n394490 q393227 (rn_ao he394423 he394426)).trans he394423
                            have he394494 : F394488 q393244 = .inr (17, [.ref q393253, .ref q393254, .int p393255, .int p393256]) := (n394490 q393244 (rn_oo he394424 he394426 (by decide))).trans he394424
                            have he394495 : F394488 q393253 = .inr (4, [.int p394134, .ref q394136, .int p394135]) := (n394490 q393253 (rn_oo he394425 he394426 (by decide))).trans he394425
                            have he394496 : F394488 q393254 = .inr (20, [.int p394164, .int p368777, .int p368777, .int p394167, .int p394168, .int p394169, .int p394170]) := e394489
                            have hs394497 : rStr γ [1] F368774 F394488 := rStr_pu2 hs394427 n394490 ht393259 (by decide)
                            have fk394498 : rFk [1] γ F368774 F394488 := rFk_put fk394428 n394490 ht393259 (by decide)
                            obtain ⟨z394499, hz394499⟩ : ∃ z : Int32, z = g394119 + Int32.ofInt 1 := ⟨_, rfl⟩
                            have ez394499 : z394499.toInt = g394119.toInt + 1 := gI_inc hz394499 (by decide) bg394119' (by decide) (by decide)
                            have bz394499 : gB z394499 1 1000001 := ⟨by omega, by omega⟩
                            refine G_iinc (L' := [(5, .int z394499), (6, .ref q393254), (4, .ref q393244), (3, .int g393184), (0, .ref q368775), (1, .int p368776), (2, .int p368777)]) z394499 1 dr_cX17_rename_138 rfl hz394499.symm (Nat.le_of_ble_eq_true rfl) rfl ?_
                            refine G_goto 20 dr_cX17_rename_141 (by decide +kernel) ?_
                            have hT394500 : RS D I P368773 F394488 γ el := RS_set hT394429 n394490 ht393259 (by decide) ⟨p394164, p368777, p368777, p394167, p394168, p394169, p394170, he394496, bp394164, bp368777, bp394168, bp394169, bp394170, r394171, (Or.inr bp368777), r394173, r394174, r394175⟩
                            have of394501 : ∀ b, b ≠ q393254 → F394488 b = F394120 b := fun b hb => (n394490 b hb).trans (n394420 b hb)
                            refine G_lv (L' := [(5, .int z394499), (4, .ref q393244), (3, .int g393184), (0, .ref q368775), (1, .int p368776), (2, .int p368777)]) [0, 2, 3, 4, 5, 6] rfl ?_
                            exact ih20_394124 F394488 z394499 (gB_w bz394499 (by decide) (by decide)) hT394500 hs394497 (fun N hv hu hp => rPl_put hT394121 htq368775 rfl (x394123 N hv hu hp) of394501 hp394158 nb394161 hL394159 (fun _ _ _ _ z => z) (rNx_ren he394163 he394496 hu hv (Or.inr rfl) (Or.inl rfl) (Or.inr ⟨rfl, by first | assumption | omega⟩) (by rw [← hp394158]; exact x394123 N hv hu hp _ nb394161 _ hL394159))) fk394498 (mz_up ez394499 (Int.le_trans bg394119'.2 (by decide)) hm20_394124)
                      · have r394502 : p394167.toInt = p368776.toInt := gC_eq hc394471
                        have bp394167' : gB p394167 0 1999 := ⟨by omega, by omega⟩
                        refine G_aload 0 dr_cX17_rename_109 rfl ?_
                        refine G_iload_n 6 dr_cX17_rename_111 rfl ?_
                        refine Gp_put 3 hm394162 he394426 dr_cX17_rename_112 (gk_X15 D I) (Nat.le_of_ble_eq_true rfl) wr_9_190 rfl rfl rfl (Nat.le_of_ble_eq_true rfl) (fun F394503 e394504 n394505 => ?_)
                        have he394506 : F394503 q368775 = .inr (18, [.ref q393195, .ref q393196, .int p393197, .int p393198]) := (n394505 q368775 (rn_oo he394421 he394426 (by decide))).trans he394421
                        have he394507 : F394503 q393195 = .inr (4, [.int p393225, .ref q393227, .int p393226]) := (n394505 q393195 (rn_oo he394422 he394426 (by decide))).trans he394422
                        have he394508 : F394503 q393227 = .inl (I (.object "java/lang/Object"), n393241, .inr (.inr (.inr (.inr f393242)))) := (n394505 q393227 (rn_ao he394423 he394426)).trans he394423
                        have he394509 : F394503 q393244 = .inr (17, [.ref q393253, .ref q393254, .int p393255, .int p393256]) := (n394505 q393244 (rn_oo he394424 he394426 (by decide))).trans he394424
                        have he394510 : F394503 q393253 = .inr (4, [.int p394134, .ref q394136, .int p394135]) := (n394505 q393253 (rn_oo he394425 he394426 (by decide))).trans he394425
                        have he394511 : F394503 q393254 = .inr (20, [.int p394164, .int p394165, .int p368777, .int p368777, .int p394168, .int p394169, .int p394170]) := e394504
                        have hs394512 : rStr γ [1] F368774 F394503 := rStr_pu2 hs394427 n394505 ht393259 (by decide)
                        have fk394513 : rFk [1] γ F368774 F394503 := rFk_put fk394428 n394505 ht393259 (by decide)
                        refine G_aload 0 dr_cX17_rename_115 rfl ?_
                        have hT394514 : RS D I P368773 F394503 γ el := RS_set hT394429 n394505 ht393259 (by decide) ⟨p394164, p394165, p368777, p368777, p394168, p394169, p394170, he394511, bp394164, bp394165, bp394168, bp394169, bp394170, r394171, (Or.inr bp368777), (Or.inr bp368777), r394174, r394175⟩
                        have of394515 : ∀ b, b ≠ q393254 → F394503 b = F394120 b := fun b hb => (n394505 b hb).trans (n394420 b hb)
                        refine Gw_callV (As := []) (gV_ok D I) (cp_1660_Row_sets l hl0 D I P368773 F394503 q393254 p394164 p394165 p368777 p368777 p394168 p394169 p394170 hm394162 he394511 bp394164 bp394165 bp394168 bp394169 bp394170) dr_cX17_rename_117 ⟨wr_10_181, wr_1_39, wr_10_184, by decide, rfl, (Nat.le_of_ble_eq_true rfl), (Nat.le_of_ble_eq_true rfl)⟩ wr_10_182 wr_10_183 hm394162 he394511 rfl (show 0 + 0 ≤ 0 by first | omega | decide) (show 0 + 0 ≤ 0 by first | omega | decide) (Nat.le_of_ble_eq_true rfl) (fun r394519 w394520 dc394516 ds394517 hp394518 => ?_) (fun _ _ _ _ _ z => z.elim)
                        obtain ⟨o394521, rfl, rfl, hdc, hds, bo394521, ht394522⟩ := hp394518
                        change G _ _ _ _ _ _ _ (.int o394521 :: _) _ _ _
                        refine G_widen (cs' := 0) (sl' := 0) (by omega) (by omega) ?_
                        refine G_if_eq 138 dr_cX17_rename_120 (by decide +kernel) (fun hc394523 => ?_) (fun hc394523 => ?_)
                        · have r394524 : o394521.toInt = 0 := gj_eq hc394523 (show Int32.toInt 0 = 0 by decide)
                          have bo394521' : gB o394521 0 0 := gB_t0 r394524
                          obtain ⟨z394525, hz394525⟩ : ∃ z : Int32, z = g394119 + Int32.ofInt 1 := ⟨_, rfl⟩
                          have ez394525 : z394525.toInt = g394119.toInt + 1 := gI_inc hz394525 (by decide) bg394119' (by decide) (by decide)
                          have bz394525 : gB z394525 1 1000001 := ⟨by omega, by omega⟩
                          refine G_iinc (L' := [(5, .int z394525), (6, .ref q393254), (4, .ref q393244), (3, .int g393184), (0, .ref q368775), (1, .int p368776), (2, .int p368777)]) z394525 1 dr_cX17_rename_138 rfl hz394525.symm (Nat.le_of_ble_eq_true rfl) rfl ?_
                          refine G_goto 20 dr_cX17_rename_141 (by decide +kernel) ?_
                          refine G_lv (L' := [(5, .int z394525), (4, .ref q393244), (3, .int g393184), (0, .ref q368775), (1, .int p368776), (2, .int p368777)]) [0, 2, 3, 4, 5, 6] rfl ?_
                          exact ih20_394124 F394503 z394525 (gB_w bz394525 (by decide) (by decide)) hT394514 hs394512 (fun N hv hu hp => rPl_put hT394121 htq368775 rfl (x394123 N hv hu hp) of394515 hp394158 nb394161 hL394159 (fun _ _ _ _ z => z) (rNx_ren he394163 he394511 hu hv (Or.inr rfl) (Or.inr rfl) (Or.inl rfl) (by rw [← hp394158]; exact x394123 N hv hu hp _ nb394161 _ hL394159))) fk394513 (mz_up ez394525 (Int.le_trans bg394119'.2 (by decide)) hm20_394124)
                        · have r394526 : o394521.toInt ≠ 0 := gj_neq hc394523 (show Int32.toInt 0 = 0 by decide)
                          have bo394521' : gB o394521 1 1 := gB_t1 bo394521 r394526
                          refine G_aload 0 dr_cX17_rename_123 rfl ?_
                          refine Gp_get 1 hm394162 he394511 dr_cX17_rename_125 (gk_X15 D I) (Nat.le_of_ble_eq_true rfl) wr_9_182 rfl ?_
                          refine G_iload_n 5 dr_cX17_rename_128 rfl ?_
                          refine G_icmp_ne 138 dr_cX17_rename_129 (by decide +kernel) (fun hc394527 => ?_) (fun hc394527 => ?_)
                          · have r394528 : p394165.toInt ≠ p368776.toInt := gC_ne hc394527
                            obtain ⟨z394529, hz394529⟩ : ∃ z : Int32, z = g394119 + Int32.ofInt 1 := ⟨_, rfl⟩
                            have ez394529 : z394529.toInt = g394119.toInt + 1 := gI_inc hz394529 (by decide) bg394119' (by decide) (by decide)
                            have bz394529 : gB z394529 1 1000001 := ⟨by omega, by omega⟩
                            refine G_iinc (L' := [(5, .int z394529), (6, .ref q393254), (4, .ref q393244), (3, .int g393184), (0, .ref q368775), (1, .int p368776), (2, .int p368777)]) z394529 1 dr_cX17_rename_138 rfl hz394529.symm (Nat.le_of_ble_eq_true rfl) rfl ?_
                            refine G_goto 20 dr_cX17_rename_141 (by decide +kernel) ?_
                            refine G_lv (L' := [(5, .int z394529), (4, .ref q393244), (3, .int g393184), (0, .ref q368775), (1, .int p368776), (2, .int p368777)]) [0, 2, 3, 4, 5, 6] rfl ?_
                            exact ih20_394124 F394503 z394529 (gB_w bz394529 (by decide) (by decide)) hT394514 hs394512 (fun N hv hu hp => rPl_put hT394121 htq368775 rfl (x394123 N hv hu hp) of394515 hp394158 nb394161 hL394159 (fun _ _ _ _ z => z) (rNx_ren he394163 he394511 hu hv (Or.inr rfl) (Or.inr rfl) (Or.inl rfl) (by rw [← hp394158]; exact x394123 N hv hu hp _ nb394161 _ hL394159))) fk394513 (mz_up ez394529 (Int.le_trans bg394119'.2 (by decide)) hm20_394124)
                          · have r394530 : p394165.toInt = p368776.toInt := gC_eq hc394527
                            refine G_aload 0 dr_cX17_rename_132 rfl ?_
                            refine G_iload_n 6 dr_cX17_rename_134 rfl ?_
                            refine Gp_put 1 hm394162 he394511 dr_cX17_rename_135 (gk_X15 D I) (Nat.le_of_ble_eq_true rfl) wr_9_182 rfl rfl rfl (Nat.le_of_ble_eq_true rfl) (fun F394531 e394532 n394533 => ?_)
                            have he394534 : F394531 q368775 = .inr (18, [.ref q393195, .ref q393196, .int p393197, .int p393198]) := (n394533 q368775 (rn_oo he394506 he394511 (by decide))).trans he394506
                            have he394535 : F394531 q393195 = .inr (4, [.int p393225, .ref q393227, .int p393226]) := (n394533 q393195 (rn_oo he394507 he394511 (by decide))).trans he394507
                            have he394536 : F394531 q393227 = .inl (I (.object "java/lang/Object"), n393241, .inr (.inr (.inr (.inr f393242)))) := (n394533 q393227 (rn_ao he394508 he394511)).trans he394508
                            have he394537 : F394531 q393244 = .inr (17, [.ref q393253, .ref q393254, .int p393255, .int p393256]) := (n394533 q393244 (rn_oo he394509 he394511 (by decide))).trans he394509
                            have he394538 : F394531 q393253 = .inr (4, [.int p394134, .ref q394136, .int p394135]) := (n394533 q393253 (rn_oo he394510 he394511 (by decide))).trans he394510
                            have he394539 : F394531 q393254 = .inr (20, [.int p394164, .int p368777, .int p368777, .int p368777, .int p394168, .int p394169, .int p394170]) := e394532
                            have hs394540 : rStr γ [1] F368774 F394531 := rStr_pu2 hs394512 n394533 ht393259 (by decide)
                            have fk394541 : rFk [1] γ F368774 F394531 := rFk_put fk394513 n394533 ht393259 (by decide)
                            obtain ⟨z394542, hz394542⟩ : ∃ z : Int32, z = g394119 + Int32.ofInt 1 := ⟨_, rfl⟩
                            have ez394542 : z394542.toInt = g394119.toInt + 1 := gI_inc hz394542 (by decide) bg394119' (by decide) (by decide)
                            have bz394542 : gB z394542 1 1000001 := ⟨by omega, by omega⟩
                            refine G_iinc (L' := [(5, .int z394542), (6, .ref q393254), (4, .ref q393244), (3, .int g393184), (0, .ref q368775), (1, .int p368776), (2, .int p368777)]) z394542 1 dr_cX17_rename_138 rfl hz394542.symm (Nat.le_of_ble_eq_true rfl) rfl ?_
                            refine G_goto 20 dr_cX17_rename_141 (by decide +kernel) ?_
                            have hT394543 : RS D I P368773 F394531 γ el := RS_set hT394514 n394533 ht393259 (by decide) ⟨p394164, p368777, p368777, p368777, p394168, p394169, p394170, he394539, bp394164, bp368777, bp394168, bp394169, bp394170, r394171, (Or.inr bp368777), (Or.inr bp368777), r394174, r394175⟩
                            have of394544 : ∀ b, b ≠ q393254 → F394531 b = F394120 b := fun b hb => (n394533 b hb).trans (of394515 b hb)
                            refine G_lv (L' := [(5, .int z394542), (4, .ref q393244), (3, .int g393184), (0, .ref q368775), (1, .int p368776), (2, .int p368777)]) [0, 2, 3, 4, 5, 6] rfl ?_
                            exact ih20_394124 F394531 z394542 (gB_w bz394542 (by decide) (by decide)) hT394543 hs394540 (fun N hv hu hp => rPl_put hT394121 htq368775 rfl (x394123 N hv hu hp) of394544 hp394158 nb394161 hL394159 (fun _ _ _ _ z => z) (rNx_ren he394163 he394539 hu hv (Or.inr rfl) (Or.inr rfl) (Or.inr ⟨rfl, by first | assumption | omega⟩) (by rw [← hp394158]; exact x394123 N hv hu hp _ nb394161 _ hL394159))) fk394541 (mz_up ez394542 (Int.le_trans bg394119'.2 (by decide)) hm20_394124)
              · have r394545 : g394119.toInt < p394135.toInt := gC_nle hc394156
                have bg394119'' : gB g394119 0 999999 := ⟨by omega, by omega⟩
                have bp394135' : gB p394135 1 1000000 := ⟨by omega, by omega⟩
                refine G_aload 1 dr_cX17_rename_46 rfl ?_
                refine Gp_get 0 hm393251 he394130 dr_cX17_rename_48 (gk_X12 D I) (Nat.le_of_ble_eq_true rfl) wr_9_220 rfl ?_
                refine G_iload 0 dr_cX17_rename_51 rfl ?_
                obtain ⟨r394546, r394547, n394554, f394555, r394548, r394549, r394550, r394551, r394552, r394553⟩ := rLC_n r394139 (by omega)
                have hm394556 : q394136 ∈ P368773 := RS_m hT394121 r394546 (by decide)
                obtain ⟨q394557, hx394558⟩ : ∃ x, x = el q393253 g394119.toInt.toNat := ⟨_, rfl⟩
                have hx394559 : f394555 g394119.toNatClampNeg = some q394557 := (r394552 _ (show g394119.toInt.toNat < γ 2 q393253 by omega)).trans (by rw [hx394558])
                have ht394560 : rKd γ q394557 1 := by rw [hx394558]; exact (r394140 _ (show g394119.toInt.toNat < γ 2 q393253 by omega)).1
                have ht394561 : rFm γ q394557 q393253 := by rw [hx394558]; exact (r394140 _ (show g394119.toInt.toNat < γ 2 q393253 by omega)).2.1
                refine Gw_callV (As := [.int g394119]) (gV_ok D I) (cp_22_ArrayList_get l hl0 D I P368773 F394120 q393253 q394136 g394119 p394134 p394135 f394555 n394554 q394557 hm394132 hm394556 he394133 r394548 (gB_w bg394119'' (by decide) (by decide)) (gB_w bp394135' (by decide) (by decide)) (by omega) (by omega) (by assumption) (by omega)) dr_cX17_rename_53 ⟨wr_10_201, wr_1_18, wr_10_65, by decide, rfl, (Nat.le_of_ble_eq_true rfl), (Nat.le_of_ble_eq_true rfl)⟩ wr_10_63 wr_10_64 hm394132 he394133 rfl (show 0 + 0 ≤ 0 by first | omega | decide) (show 0 + 0 ≤ 0 by first | omega | decide) (Nat.le_of_ble_eq_true rfl) (fun r394565 w394566 dc394562 ds394563 hp394564 => ?_) (fun _ _ _ _ _ z => z.elim)
                obtain ⟨rfl, rfl, hdc, hds, ht394567⟩ := hp394564
                change G _ _ _ _ _ _ _ (.ref q394557 :: _) _ _ _
                refine G_widen (cs' := 0) (sl' := 0) (by omega) (by omega) ?_
                have hm394568 : q394557 ∈ P368773 := RS_m hT394121 ht394560 (by decide)
                obtain ⟨p394570, p394571, p394572, p394573, p394574, p394575, p394576, he394569, bp394570, bp394571, bp394574, bp394575, bp394576, r394577, r394578, r394579, r394580, r394581⟩ := show rk_1 γ q394557 (F394120 q394557) from RS_o hT394121 ht394560
                have bp394572 := gB_any p394572
                have bp394573 := gB_any p394573
                refine Gp_cast hm394568 he394569 rfl dr_cX17_rename_56 wr_10_202 (gr_cast 1 rfl) ?_
                refine G_goto 67 dr_cX17_rename_59 (by decide +kernel) ?_
                have fl394584 : p394135.toInt = γ 2 q393253 := r394137
                have hp394582 : rAt γ el q368775 (g393184.toInt : Int).toNat (g394119.toInt : Int).toNat = q394557 := (rAt_r hb393272 ht393263.1 (by omega)).trans (by rw [hx394558])
                have hL394583 : (g394119.toInt : Int).toNat ≤ γ 2 (rwL γ el q368775 (g393184.toInt : Int).toNat) := by unfold rwL; rw [hb393272, ht393263.1]; omega
                have nb394585 : (g393184.toInt : Int).toNat < γ 6 (γ 1 q368775) := by omega
                refine G_astore (L' := [(6, .ref q394557), (5, .int g394119), (4, .ref q393244), (3, .int g393184), (0, .ref q368775), (1, .int p368776), (2, .int p368777)]) dr_cX17_rename_67 (Nat.le_of_ble_eq_true rfl) rfl ?_
                refine G_aload 0 dr_cX17_rename_69 rfl ?_
                refine Gw_callV (As := []) (gV_ok D I) (cp_1675_Row_usesA l hl0 D I P368773 F394120 q394557 p394570 p394571 p394572 p394573 p394574 p394575 p394576 hm394568 he394569 bp394570 bp394571 bp394574 bp394575 bp394576) dr_cX17_rename_71 ⟨wr_10_192, wr_1_39, wr_10_195, by decide, rfl, (Nat.le_of_ble_eq_true rfl), (Nat.le_of_ble_eq_true rfl)⟩ wr_10_193 wr_10_194 hm394568 he394569 rfl (show 0 + 0 ≤ 0 by first | omega | decide) (show 0 + 0 ≤ 0 by first | omega | decide) (Nat.le_of_ble_eq_true rfl) (fun r394589 w394590 dc394586 ds394587 hp394588 => ?_) (fun _ _ _ _ _ z => z.elim)
                obtain ⟨o394591, rfl, rfl, hdc, hds, bo394591, x394592, ht394593⟩ := hp394588
                change G _ _ _ _ _ _ _ (.int o394591 :: _) _ _ _
                refine G_widen (cs' := 0) (sl' := 0) (by omega) (by omega) ?_
                refine G_if_eq 92 dr_cX17_rename_74 (by decide +kernel) (fun hc394594 => ?_) (fun hc394594 => ?_)
                · have r394595 : o394591.toInt = 0 := gj_eq hc394594 (show Int32.toInt 0 = 0 by decide)
                  have bo394591' : gB o394591 0 0 := gB_t0 r394595
                  refine G_aload 0 dr_cX17_rename_92 rfl ?_
                  refine Gw_callV (As := []) (gV_ok D I) (cp_1699_Row_usesB l hl0 D I P368773 F394120 q394557 p394570 p394571 p394572 p394573 p394574 p394575 p394576 hm394568 he394569 bp394570 bp394571 bp394574 bp394575 bp394576) dr_cX17_rename_94 ⟨wr_10_196, wr_1_39, wr_10_199, by decide, rfl, (Nat.le_of_ble_eq_true rfl), (Nat.le_of_ble_eq_true rfl)⟩ wr_10_197 wr_10_198 hm394568 he394569 rfl (show 0 + 0 ≤ 0 by first | omega | decide) (show 0 + 0 ≤ 0 by first | omega | decide) (Nat.le_of_ble_eq_true rfl) (fun r394599 w394600 dc394596 ds394597 hp394598 => ?_) (fun _ _ _ _ _ z => z.elim)
                  obtain ⟨o394601, rfl, rfl, hdc, hds, bo394601, x394602, ht394603⟩ := hp394598
                  change G _ _ _ _ _ _ _ (.int o394601 :: _) _ _ _
                  refine G_widen (cs' := 0) (sl' := 0) (by omega) (by omega) ?_
                  refine G_if_eq 115 dr_cX17_rename_97 (by decide +kernel) (fun hc394604 => ?_) (fun hc394604 => ?_)
                  · have r394605 : o394601.toInt = 0 := gj_eq hc394604 (show Int32.toInt 0 = 0 by decide)
                    have bo394601' : gB o394601 0 0 := gB_t0 r394605
                    refine G_aload 0 dr_cX17_rename_115 rfl ?_
                    refine Gw_callV (As := []) (gV_ok D I) (cp_1660_Row_sets l hl0 D I P368773 F394120 q394557 p394570 p394571 p394572 p394573 p394574 p394575 p394576 hm394568 he394569 bp394570 bp394571 bp394574 bp394575 bp394576) dr_cX17_rename_117 ⟨wr_10_181, wr_1_39, wr_10_184, by decide, rfl, (Nat.le_of_ble_eq_true rfl), (Nat.le_of_ble_eq_true rfl)⟩ wr_10_182 wr_10_183 hm394568 he394569 rfl (show 0 + 0 ≤ 0 by first | omega | decide) (show 0 + 0 ≤ 0 by first | omega | decide) (Nat.le_of_ble_eq_true rfl) (fun r394609 w394610 dc394606 ds394607 hp394608 => ?_) (fun _ _ _ _ _ z => z.elim)
                    obtain ⟨o394611, rfl, rfl, hdc, hds, bo394611, ht394612⟩ := hp394608
                    change G _ _ _ _ _ _ _ (.int o394611 :: _) _ _ _
                    refine G_widen (cs' := 0) (sl' := 0) (by omega) (by omega) ?_
                    refine G_if_eq 138 dr_cX17_rename_120 (by decide +kernel) (fun hc394613 => ?_) (fun hc394613 => ?_)
                    · have r394614 : o394611.toInt = 0 := gj_eq hc394613 (show Int32.toInt 0 = 0 by decide)
                      have bo394611' : gB o394611 0 0 := gB_t0 r394614
                      obtain ⟨z394615, hz394615⟩ : ∃ z : Int32, z = g394119 + Int32.ofInt 1 := ⟨_, rfl⟩
                      have ez394615 : z394615.toInt = g394119.toInt + 1 := gI_inc hz394615 (by decide) bg394119'' (by decide) (by decide)
                      have bz394615 : gB z394615 1 1000000 := ⟨by omega, by omega⟩
                      refine G_iinc (L' := [(5, .int z394615), (6, .ref q394557), (4, .ref q393244), (3, .int g393184), (0, .ref q368775), (1, .int p368776), (2, .int p368777)]) z394615 1 dr_cX17_rename_138 rfl hz394615.symm (Nat.le_of_ble_eq_true rfl) rfl ?_
                      refine G_goto 20 dr_cX17_rename_141 (by decide +kernel) ?_
                      refine G_lv (L' := [(5, .int z394615), (4, .ref q393244), (3, .int g393184), (0, .ref q368775), (1, .int p368776), (2, .int p368777)]) [0, 2, 3, 4, 5, 6] rfl ?_
                      exact ih20_394124 F394120 z394615 (gB_w bz394615 (by decide) (by decide)) hT394121 hs394122 x394123 x394124 (mz_up ez394615 (Int.le_trans bg394119''.2 (by decide)) hm20_394124)
                    · have r394616 : o394611.toInt ≠ 0 := gj_neq hc394613 (show Int32.toInt 0 = 0 by decide)
                      have bo394611' : gB o394611 1 1 := gB_t1 bo394611 r394616
                      refine G_aload 0 dr_cX17_rename_123 rfl ?_
                      refine Gp_get 1 hm394568 he394569 dr_cX17_rename_125 (gk_X15 D I) (Nat.le_of_ble_eq_true rfl) wr_9_182 rfl ?_
                      refine G_iload_n 5 dr_cX17_rename_128 rfl ?_
                      refine G_icmp_ne 138 dr_cX17_rename_129 (by decide +kernel) (fun hc394617 => ?_) (fun hc394617 => ?_)
                      · have r394618 : p394571.toInt ≠ p368776.toInt := gC_ne hc394617
                        obtain ⟨z394619, hz394619⟩ : ∃ z : Int32, z = g394119 + Int32.ofInt 1 := ⟨_, rfl⟩
                        have ez394619 : z394619.toInt = g394119.toInt + 1 := gI_inc hz394619 (by decide) bg394119'' (by decide) (by decide)
                        have bz394619 : gB z394619 1 1000000 := ⟨by omega, by omega⟩
                        refine G_iinc (L' := [(5, .int z394619), (6, .ref q394557), (4, .ref q393244), (3, .int g393184), (0, .ref q368775), (1, .int p368776), (2, .int p368777)]) z394619 1 dr_cX17_rename_138 rfl hz394619.symm (Nat.le_of_ble_eq_true rfl) rfl ?_
                        refine G_goto 20 dr_cX17_rename_141 (by decide +kernel) ?_
                        refine G_lv (L' := [(5, .int z394619), (4, .ref q393244), (3, .int g393184), (0, .ref q368775), (1, .int p368776), (2, .int p368777)]) [0, 2, 3, 4, 5, 6] rfl ?_
                        exact ih20_394124 F394120 z394619 (gB_w bz394619 (by decide) (by decide)) hT394121 hs394122 x394123 x394124 (mz_up ez394619 (Int.le_trans bg394119''.2 (by decide)) hm20_394124)
                      · have r394620 : p394571.toInt = p368776.toInt := gC_eq hc394617
                        refine G_aload 0 dr_cX17_rename_132 rfl ?_
                        refine G_iload_n 6 dr_cX17_rename_134 rfl ?_
                        refine Gp_put 1 hm394568 he394569 dr_cX17_rename_135 (gk_X15 D I) (Nat.le_of_ble_eq_true rfl) wr_9_182 rfl rfl rfl (Nat.le_of_ble_eq_true rfl) (fun F394621 e394622 n394623 => ?_)
                        have he394624 : F394621 q368775 = .inr (18, [.ref q393195, .ref q393196, .int p393197, .int p393198]) := (n394623 q368775 (rn_oo he394127 he394569 (by decide))).trans he394127
                        have he394625 : F394621 q393195 = .inr (4, [.int p393225, .ref q393227, .int p393226]) := (n394623 q393195 (rn_oo he394128 he394569 (by decide))).trans he394128
                        have he394626 : F394621 q393227 = .inl (I (.object "java/lang/Object"), n393241, .inr (.inr (.inr (.inr f393242)))) := (n394623 q393227 (rn_ao he394129 he394569)).trans he394129
                        have he394627 : F394621 q393244 = .inr (17, [.ref q393253, .ref q393254, .int p393255, .int p393256]) := (n394623 q393244 (rn_oo he394130 he394569 (by decide))).trans he394130
                        have he394628 : F394621 q393253 = .inr (4, [.int p394134, .ref q394136, .int p394135]) := (n394623 q393253 (rn_oo he394133 he394569 (by decide))).trans he394133
                        have he394629 : F394621 q394136 = .inl (I (.object "java/lang/Object"), n394554, .inr (.inr (.inr (.inr f394555)))) := (n394623 q394136 (rn_ao r394548 he394569)).trans r394548
                        have he394630 : F394621 q394557 = .inr (20, [.int p394570, .int p368777, .int p394572, .int p394573, .int p394574, .int p394575, .int p394576]) := e394622
                        have hs394631 : rStr γ [1] F368774 F394621 := rStr_pu2 hs394122 n394623 ht394560 (by decide)
                        have fk394632 : rFk [1] γ F368774 F394621 := rFk_put x394124 n394623 ht394560 (by decide)
                        obtain ⟨z394633, hz394633⟩ : ∃ z : Int32, z = g394119 + Int32.ofInt 1 := ⟨_, rfl⟩
                        have ez394633 : z394633.toInt = g394119.toInt + 1 := gI_inc hz394633 (by decide) bg394119'' (by decide) (by decide)
                        have bz394633 : gB z394633 1 1000000 := ⟨by omega, by omega⟩
                        refine G_iinc (L' := [(5, .int z394633), (6, .ref q394557), (4, .ref q393244), (3, .int g393184), (0, .ref q368775), (1, .int p368776), (2, .int p368777)]) z394633 1 dr_cX17_rename_138 rfl hz394633.symm (Nat.le_of_ble_eq_true rfl) rfl ?_
                        refine G_goto 20 dr_cX17_rename_141 (by decide +kernel) ?_
                        have hT394634 : RS D I P368773 F394621 γ el := RS_set hT394121 n394623 ht394560 (by decide) ⟨p394570, p368777, p394572, p394573, p394574, p394575, p394576, he394630, bp394570, bp368777, bp394574, bp394575, bp394576, r394577, r394578, r394579, r394580, r394581⟩
                        refine G_lv (L' := [(5, .int z394633), (4, .ref q393244), (3, .int g393184), (0, .ref q368775), (1, .int p368776), (2, .int p368777)]) [0, 2, 3, 4, 5, 6] rfl ?_
                        exact ih20_394124 F394621 z394633 (gB_w bz394633 (by decide) (by decide)) hT394634 hs394631 (fun N hv hu hp => rPl_put hT394121 htq368775 rfl (x394123 N hv hu hp) n394623 hp394582 nb394585 hL394583 (fun _ _ _ _ z => z) (rNx_ren he394569 he394630 hu hv (Or.inl rfl) (Or.inl rfl) (Or.inr ⟨rfl, by first | assumption | omega⟩) (by rw [← hp394582]; exact x394123 N hv hu hp _ nb394585 _ hL394583))) fk394632 (mz_up ez394633 (Int.le_trans bg394119''.2 (by decide)) hm20_394124)
                  · have r394636 : o394601.toInt ≠ 0 := gj_neq hc394604 (show Int32.toInt 0 = 0 by decide)
                    have bo394601' : gB o394601 1 1 := gB_t1 bo394601 r394636
                    refine G_aload 0 dr_cX17_rename_100 rfl ?_
                    refine Gp_get 3 hm394568 he394569 dr_cX17_rename_102 (gk_X15 D I) (Nat.le_of_ble_eq_true rfl) wr_9_190 rfl ?_
                    refine G_iload_n 5 dr_cX17_rename_105 rfl ?_
                    refine G_icmp_ne 115 dr_cX17_rename_106 (by decide +kernel) (fun hc394637 => ?_) (fun hc394637 => ?_)
                    · have r394638 : p394573.toInt ≠ p368776.toInt := gC_ne hc394637
                      refine G_aload 0 dr_cX17_rename_115 rfl ?_
                      refine Gw_callV (As := []) (gV_ok D I) (cp_1660_Row_sets l hl0 D I P368773 F394120 q394557 p394570 p394571 p394572 p394573 p394574 p394575 p394576 hm394568 he394569 bp394570 bp394571 bp394574 bp394575 bp394576) dr_cX17_rename_117 ⟨wr_10_181, wr_1_39, wr_10_184, by decide, rfl, (Nat.le_of_ble_eq_true rfl), (Nat.le_of_ble_eq_true rfl)⟩ wr_10_182 wr_10_183 hm394568 he394569 rfl (show 0 + 0 ≤ 0 by first | omega | decide) (show 0 + 0 ≤ 0 by first | omega | decide) (Nat.le_of_ble_eq_true rfl) (fun r394642 w394643 dc394639 ds394640 hp394641 => ?_) (fun _ _ _ _ _ z => z.elim)
                      obtain ⟨o394644, rfl, rfl, hdc, hds, bo394644, ht394645⟩ := hp394641
                      change G _ _ _ _ _ _ _ (.int o394644 :: _) _ _ _
                      refine G_widen (cs' := 0) (sl' := 0) (by omega) (by omega) ?_
                      refine G_if_eq 138 dr_cX17_rename_120 (by decide +kernel) (fun hc394646 => ?_) (fun hc394646 => ?_)
                      · have r394647 : o394644.toInt = 0 := gj_eq hc394646 (show Int32.toInt 0 = 0 by decide)
                        have bo394644' : gB o394644 0 0 := gB_t0 r394647
                        obtain ⟨z394648, hz394648⟩ : ∃ z : Int32, z = g394119 + Int32.ofInt 1 := ⟨_, rfl⟩
                        have ez394648 : z394648.toInt = g394119.toInt + 1 := gI_inc hz394648 (by decide) bg394119'' (by decide) (by decide)
                        have bz394648 : gB z394648 1 1000000 := ⟨by omega, by omega⟩
                        refine G_iinc (L' := [(5, .int z394648), (6, .ref q394557), (4, .ref q393244), (3, .int g393184), (0, .ref q368775), (1, .int p368776), (2, .int p368777)]) z394648 1 dr_cX17_rename_138 rfl hz394648.symm (Nat.le_of_ble_eq_true rfl) rfl ?_
                        refine G_goto 20 dr_cX17_rename_141 (by decide +kernel) ?_
                        refine G_lv (L' := [(5, .int z394648), (4, .ref q393244), (3, .int g393184), (0, .ref q368775), (1, .int p368776), (2, .int p368777)]) [0, 2, 3, 4, 5, 6] rfl ?_
                        exact ih20_394124 F394120 z394648 (gB_w bz394648 (by decide) (by decide)) hT394121 hs394122 x394123 x394124 (mz_up ez394648 (Int.le_trans bg394119''.2 (by decide)) hm20_394124)
                      · have r394649 : o394644.toInt ≠ 0 := gj_neq hc394646 (show Int32.toInt 0 = 0 by decide)
                        have bo394644' : gB o394644 1 1 := gB_t1 bo394644 r394649
                        refine G_aload 0 dr_cX17_rename_123 rfl ?_
                        refine Gp_get 1 hm394568 he394569 dr_cX17_rename_125 (gk_X15 D I) (Nat.le_of_ble_eq_true rfl) wr_9_182 rfl ?_
                        refine G_iload_n 5 dr_cX17_rename_128 rfl ?_
                        refine G_icmp_ne 138 dr_cX17_rename_129 (by decide +kernel) (fun hc394650 => ?_) (fun hc394650 => ?_)
                        · have r394651 : p394571.toInt ≠ p368776.toInt := gC_ne hc394650
                          obtain ⟨z394652, hz394652⟩ : ∃ z : Int32, z = g394119 + Int32.ofInt 1 := ⟨_, rfl⟩
                          have ez394652 : z394652.toInt = g394119.toInt + 1 := gI_inc hz394652 (by decide) bg394119'' (by decide) (by decide)
                          have bz394652 : gB z394652 1 1000000 := ⟨by omega, by omega⟩
                          refine G_iinc (L' := [(5, .int z394652), (6, .ref q394557), (4, .ref q393244), (3, .int g393184), (0, .ref q368775), (1, .int p368776), (2, .int p368777)]) z394652 1 dr_cX17_rename_138 rfl hz394652.symm (Nat.le_of_ble_eq_true rfl) rfl ?_
                          refine G_goto 20 dr_cX17_rename_141 (by decide +kernel) ?_
                          refine G_lv (L' := [(5, .int z394652), (4, .ref q393244), (3, .int g393184), (0, .ref q368775), (1, .int p368776), (2, .int p368777)]) [0, 2, 3, 4, 5, 6] rfl ?_
                          exact ih20_394124 F394120 z394652 (gB_w bz394652 (by decide) (by decide)) hT394121 hs394122 x394123 x394124 (mz_up ez394652 (Int.le_trans bg394119''.2 (by decide)) hm20_394124)
                        · have r394653 : p394571.toInt = p368776.toInt := gC_eq hc394650
                          refine G_aload 0 dr_cX17_rename_132 rfl ?_
                          refine G_iload_n 6 dr_cX17_rename_134 rfl ?_
                          refine Gp_put 1 hm394568 he394569 dr_cX17_rename_135 (gk_X15 D I) (Nat.le_of_ble_eq_true rfl) wr_9_182 rfl rfl rfl (Nat.le_of_ble_eq_true rfl) (fun F394654 e394655 n394656 => ?_)
                          have he394657 : F394654 q368775 = .inr (18, [.ref q393195, .ref q393196, .int p393197, .int p393198]) := (n394656 q368775 (rn_oo he394127 he394569 (by decide))).trans he394127
                          have he394658 : F394654 q393195 = .inr (4, [.int p393225, .ref q393227, .int p393226]) := (n394656 q393195 (rn_oo he394128 he394569 (by decide))).trans he394128
                          have he394659 : F394654 q393227 = .inl (I (.object "java/lang/Object"), n393241, .inr (.inr (.inr (.inr f393242)))) := (n394656 q393227 (rn_ao he394129 he394569)).trans he394129
                          have he394660 : F394654 q393244 = .inr (17, [.ref q393253, .ref q393254, .int p393255, .int p393256]) := (n394656 q393244 (rn_oo he394130 he394569 (by decide))).trans he394130
                          have he394661 : F394654 q393253 = .inr (4, [.int p394134, .ref q394136, .int p394135]) := (n394656 q393253 (rn_oo he394133 he394569 (by decide))).trans he394133
                          have he394662 : F394654 q394136 = .inl (I (.object "java/lang/Object"), n394554, .inr (.inr (.inr (.inr f394555)))) := (n394656 q394136 (rn_ao r394548 he394569)).trans r394548
                          have he394663 : F394654 q394557 = .inr (20, [.int p394570, .int p368777, .int p394572, .int p394573, .int p394574, .int p394575, .int p394576]) := e394655
                          have hs394664 : rStr γ [1] F368774 F394654 := rStr_pu2 hs394122 n394656 ht394560 (by decide)
                          have fk394665 : rFk [1] γ F368774 F394654 := rFk_put x394124 n394656 ht394560 (by decide)
                          obtain ⟨z394666, hz394666⟩ : ∃ z : Int32, z = g394119 + Int32.ofInt 1 := ⟨_, rfl⟩
                          have ez394666 : z394666.toInt = g394119.toInt + 1 := gI_inc hz394666 (by decide) bg394119'' (by decide) (by decide)
                          have bz394666 : gB z394666 1 1000000 := ⟨by omega, by omega⟩
                          refine G_iinc (L' := [(5, .int z394666), (6, .ref q394557), (4, .ref q393244), (3, .int g393184), (0, .ref q368775), (1, .int p368776), (2, .int p368777)]) z394666 1 dr_cX17_rename_138 rfl hz394666.symm (Nat.le_of_ble_eq_true rfl) rfl ?_
                          refine G_goto 20 dr_cX17_rename_141 (by decide +kernel) ?_
                          have hT394667 : RS D I P368773 F394654 γ el := RS_set hT394121 n394656 ht394560 (by decide) ⟨p394570, p368777, p394572, p394573, p394574, p394575, p394576, he394663, bp394570, bp368777, bp394574, bp394575, bp394576, r394577, r394578, r394579, r394580, r394581⟩
                          refine G_lv (L' := [(5, .int z394666), (4, .ref q393244), (3, .int g393184), (0, .ref q368775), (1, .int p368776), (2, .int p368777)]) [0, 2, 3, 4, 5, 6] rfl ?_
                          exact ih20_394124 F394654 z394666 (gB_w bz394666 (by decide) (by decide)) hT394667 hs394664 (fun N hv hu hp => rPl_put hT394121 htq368775 rfl (x394123 N hv hu hp) n394656 hp394582 nb394585 hL394583 (fun _ _ _ _ z => z) (rNx_ren he394569 he394663 hu hv (Or.inl rfl) (Or.inl rfl) (Or.inr ⟨rfl, by first | assumption | omega⟩) (by rw [← hp394582]; exact x394123 N hv hu hp _ nb394585 _ hL394583))) fk394665 (mz_up ez394666 (Int.le_trans bg394119''.2 (by decide)) hm20_394124)
                    · have r394669 : p394573.toInt = p368776.toInt := gC_eq hc394637
                      have bp394573' : gB p394573 0 1999 := ⟨by omega, by omega⟩
                      refine G_aload 0 dr_cX17_rename_109 rfl ?_
                      refine G_iload_n 6 dr_cX17_rename_111 rfl ?_
                      refine Gp_put 3 hm394568 he394569 dr_cX17_rename_112 (gk_X15 D I) (Nat.le_of_ble_eq_true rfl) wr_9_190 rfl rfl rfl (Nat.le_of_ble_eq_true rfl) (fun F394670 e394671 n394672 => ?_)
                      have he394673 : F394670 q368775 = .inr (18, [.ref q393195, .ref q393196, .int p393197, .int p393198]) := (n394672 q368775 (rn_oo he394127 he394569 (by decide))).trans he394127
                      have he394674 : F394670 q393195 = .inr (4, [.int p393225, .ref q393227, .int p393226]) := (n394672 q393195 (rn_oo he394128 he394569 (by decide))).trans he394128
                      have he394675 : F394670 q393227 = .inl (I (.object "java/lang/Object"), n393241, .inr (.inr (.inr (.inr f393242)))) := (n394672 q393227 (rn_ao he394129 he394569)).trans he394129
                      have he394676 : F394670 q393244 = .inr (17, [.ref q393253, .ref q393254, .int p393255, .int p393256]) := (n394672 q393244 (rn_oo he394130 he394569 (by decide))).trans he394130
                      have he394677 : F394670 q393253 = .inr (4, [.int p394134, .ref q394136, .int p394135]) := (n394672 q393253 (rn_oo he394133 he394569 (by decide))).trans he394133
                      have he394678 : F394670 q394136 = .inl (I (.object "java/lang/Object"), n394554, .inr (.inr (.inr (.inr f394555)))) := (n394672 q394136 (rn_ao r394548 he394569)).trans r394548
                      have he394679 : F394670 q394557 = .inr (20, [.int p394570, .int p394571, .int p394572, .int p368777, .int p394574, .int p394575, .int p394576]) := e394671
                      have hs394680 : rStr γ [1] F368774 F394670 := rStr_pu2 hs394122 n394672 ht394560 (by decide)
                      have fk394681 : rFk [1] γ F368774 F394670 := rFk_put x394124 n394672 ht394560 (by decide)
                      refine G_aload 0 dr_cX17_rename_115 rfl ?_
                      have hT394682 : RS D I P368773 F394670 γ el := RS_set hT394121 n394672 ht394560 (by decide) ⟨p394570, p394571, p394572, p368777, p394574, p394575, p394576, he394679, bp394570, bp394571, bp394574, bp394575, bp394576, r394577, r394578, (Or.inr bp368777), r394580, r394581⟩
                      refine Gw_callV (As := []) (gV_ok D I) (cp_1660_Row_sets l hl0 D I P368773 F394670 q394557 p394570 p394571 p394572 p368777 p394574 p394575 p394576 hm394568 he394679 bp394570 bp394571 bp394574 bp394575 bp394576) dr_cX17_rename_117 ⟨wr_10_181, wr_1_39, wr_10_184, by decide, rfl, (Nat.le_of_ble_eq_true rfl), (Nat.le_of_ble_eq_true rfl)⟩ wr_10_182 wr_10_183 hm394568 he394679 rfl (show 0 + 0 ≤ 0 by first | omega | decide) (show 0 + 0 ≤ 0 by first | omega | decide) (Nat.le_of_ble_eq_true rfl) (fun r394687 w394688 dc394684 ds394685 hp394686 => ?_) (fun _ _ _ _ _ z => z.elim)
                      obtain ⟨o394689, rfl, rfl, hdc, hds, bo394689, ht394690⟩ := hp394686
                      change G _ _ _ _ _ _ _ (.int o394689 :: _) _ _ _
                      refine G_widen (cs' := 0) (sl' := 0) (by omega) (by omega) ?_
                      refine G_if_eq 138 dr_cX17_rename_120 (by decide +kernel) (fun hc394691 => ?_) (fun hc394691 => ?_)
                      · have r394692 : o394689.toInt = 0 := gj_eq hc394691 (show Int32.toInt 0 = 0 by decide)
                        have bo394689' : gB o394689 0 0 := gB_t0 r394692
                        obtain ⟨z394693, hz394693⟩ : ∃ z : Int32, z = g394119 + Int32.ofInt 1 := ⟨_, rfl⟩
                        have ez394693 : z394693.toInt = g394119.toInt + 1 := gI_inc hz394693 (by decide) bg394119'' (by decide) (by decide)
                        have bz394693 : gB z394693 1 1000000 := ⟨by omega, by omega⟩
                        refine G_iinc (L' := [(5, .int z394693), (6, .ref q394557), (4, .ref q393244), (3, .int g393184), (0, .ref q368775), (1, .int p368776), (2, .int p368777)]) z394693 1 dr_cX17_rename_138 rfl hz394693.symm (Nat.le_of_ble_eq_true rfl) rfl ?_
                        refine G_goto 20 dr_cX17_rename_141 (by decide +kernel) ?_
                        refine G_lv (L' := [(5, .int z394693), (4, .ref q393244), (3, .int g393184), (0, .ref q368775), (1, .int p368776), (2, .int p368777)]) [0, 2, 3, 4, 5, 6] rfl ?_
                        exact ih20_394124 F394670 z394693 (gB_w bz394693 (by decide) (by decide)) hT394682 hs394680 (fun N hv hu hp => rPl_put hT394121 htq368775 rfl (x394123 N hv hu hp) n394672 hp394582 nb394585 hL394583 (fun _ _ _ _ z => z) (rNx_ren he394569 he394679 hu hv (Or.inl rfl) (Or.inr rfl) (Or.inl rfl) (by rw [← hp394582]; exact x394123 N hv hu hp _ nb394585 _ hL394583))) fk394681 (mz_up ez394693 (Int.le_trans bg394119''.2 (by decide)) hm20_394124)
                      · have r394694 : o394689.toInt ≠ 0 := gj_neq hc394691 (show Int32.toInt 0 = 0 by decide)
                        have bo394689' : gB o394689 1 1 := gB_t1 bo394689 r394694
                        refine G_aload 0 dr_cX17_rename_123 rfl ?_
                        refine Gp_get 1 hm394568 he394679 dr_cX17_rename_125 (gk_X15 D I) (Nat.le_of_ble_eq_true rfl) wr_9_182 rfl ?_
                        refine G_iload_n 5 dr_cX17_rename_128 rfl ?_
                        refine G_icmp_ne 138 dr_cX17_rename_129 (by decide +kernel) (fun hc394695 => ?_) (fun hc394695 => ?_)
                        · have r394696 : p394571.toInt ≠ p368776.toInt := gC_ne hc394695
                          obtain ⟨z394697, hz394697⟩ : ∃ z : Int32, z = g394119 + Int32.ofInt 1 := ⟨_, rfl⟩
                          have ez394697 : z394697.toInt = g394119.toInt + 1 := gI_inc hz394697 (by decide) bg394119'' (by decide) (by decide)
                          have bz394697 : gB z394697 1 1000000 := ⟨by omega, by omega⟩
                          refine G_iinc (L' := [(5, .int z394697), (6, .ref q394557), (4, .ref q393244), (3, .int g393184), (0, .ref q368775), (1, .int p368776), (2, .int p368777)]) z394697 1 dr_cX17_rename_138 rfl hz394697.symm (Nat.le_of_ble_eq_true rfl) rfl ?_
                          refine G_goto 20 dr_cX17_rename_141 (by decide +kernel) ?_
                          refine G_lv (L' := [(5, .int z394697), (4, .ref q393244), (3, .int g393184), (0, .ref q368775), (1, .int p368776), (2, .int p368777)]) [0, 2, 3, 4, 5, 6] rfl ?_
                          exact ih20_394124 F394670 z394697 (gB_w bz394697 (by decide) (by decide)) hT394682 hs394680 (fun N hv hu hp => rPl_put hT394121 htq368775 rfl (x394123 N hv hu hp) n394672 hp394582 nb394585 hL394583 (fun _ _ _ _ z => z) (rNx_ren he394569 he394679 hu hv (Or.inl rfl) (Or.inr rfl) (Or.inl rfl) (by rw [← hp394582]; exact x394123 N hv hu hp _ nb394585 _ hL394583))) fk394681 (mz_up ez394697 (Int.le_trans bg394119''.2 (by decide)) hm20_394124)
                        · have r394698 : p394571.toInt = p368776.toInt := gC_eq hc394695
                          refine G_aload 0 dr_cX17_rename_132 rfl ?_
                          refine G_iload_n 6 dr_cX17_rename_134 rfl ?_
                          refine Gp_put 1 hm394568 he394679 dr_cX17_rename_135 (gk_X15 D I) (Nat.le_of_ble_eq_true rfl) wr_9_182 rfl rfl rfl (Nat.le_of_ble_eq_true rfl) (fun F394699 e394700 n394701 => ?_)
                          have he394702 : F394699 q368775 = .inr (18, [.ref q393195, .ref q393196, .int p393197, .int p393198]) := (n394701 q368775 (rn_oo he394673 he394679 (by decide))).trans he394673
                          have he394703 : F394699 q393195 = .inr (4, [.int p393225, .ref q393227, .int p393226]) := (n394701 q393195 (rn_oo he394674 he394679 (by decide))).trans he394674
                          have he394704 : F394699 q393227 = .inl (I (.object "java/lang/Object"), n393241, .inr (.inr (.inr (.inr f393242)))) := (n394701 q393227 (rn_ao he394675 he394679)).trans he394675
                          have he394705 : F394699 q393244 = .inr (17, [.ref q393253, .ref q393254, .int p393255, .int p393256]) := (n394701 q393244 (rn_oo he394676 he394679 (by decide))).trans he394676
                          have he394706 : F394699 q393253 = .inr (4, [.int p394134, .ref q394136, .int p394135]) := (n394701 q393253 (rn_oo he394677 he394679 (by decide))).trans he394677
                          have he394707 : F394699 q394136 = .inl (I (.object "java/lang/Object"), n394554, .inr (.inr (.inr (.inr f394555)))) := (n394701 q394136 (rn_ao he394678 he394679)).trans he394678
                          have he394708 : F394699 q394557 = .inr (20, [.int p394570, .int p368777, .int p394572, .int p368777, .int p394574, .int p394575, .int p394576]) := e394700
                          have hs394709 : rStr γ [1] F368774 F394699 := rStr_pu2 hs394680 n394701 ht394560 (by decide)
                          have fk394710 : rFk [1] γ F368774 F394699 := rFk_put fk394681 n394701 ht394560 (by decide)
                          obtain ⟨z394711, hz394711⟩ : ∃ z : Int32, z = g394119 + Int32.ofInt 1 := ⟨_, rfl⟩
                          have ez394711 : z394711.toInt = g394119.toInt + 1 := gI_inc hz394711 (by decide) bg394119'' (by decide) (by decide)
                          have bz394711 : gB z394711 1 1000000 := ⟨by omega, by omega⟩
                          refine G_iinc (L' := [(5, .int z394711), (6, .ref q394557), (4, .ref q393244), (3, .int g393184), (0, .ref q368775), (1, .int p368776), (2, .int p368777)]) z394711 1 dr_cX17_rename_138 rfl hz394711.symm (Nat.le_of_ble_eq_true rfl) rfl ?_
                          refine G_goto 20 dr_cX17_rename_141 (by decide +kernel) ?_
                          have hT394712 : RS D I P368773 F394699 γ el := RS_set hT394682 n394701 ht394560 (by decide) ⟨p394570, p368777, p394572, p368777, p394574, p394575, p394576, he394708, bp394570, bp368777, bp394574, bp394575, bp394576, r394577, r394578, (Or.inr bp368777), r394580, r394581⟩
                          have of394713 : ∀ b, b ≠ q394557 → F394699 b = F394120 b := fun b hb => (n394701 b hb).trans (n394672 b hb)
                          refine G_lv (L' := [(5, .int z394711), (4, .ref q393244), (3, .int g393184), (0, .ref q368775), (1, .int p368776), (2, .int p368777)]) [0, 2, 3, 4, 5, 6] rfl ?_
                          exact ih20_394124 F394699 z394711 (gB_w bz394711 (by decide) (by decide)) hT394712 hs394709 (fun N hv hu hp => rPl_put hT394121 htq368775 rfl (x394123 N hv hu hp) of394713 hp394582 nb394585 hL394583 (fun _ _ _ _ z => z) (rNx_ren he394569 he394708 hu hv (Or.inl rfl) (Or.inr rfl) (Or.inr ⟨rfl, by first | assumption | omega⟩) (by rw [← hp394582]; exact x394123 N hv hu hp _ nb394585 _ hL394583))) fk394710 (mz_up ez394711 (Int.le_trans bg394119''.2 (by decide)) hm20_394124)
                · have r394714 : o394591.toInt ≠ 0 := gj_neq hc394594 (show Int32.toInt 0 = 0 by decide)
                  have bo394591' : gB o394591 1 1 := gB_t1 bo394591 r394714
                  refine G_aload 0 dr_cX17_rename_77 rfl ?_
                  refine Gp_get 2 hm394568 he394569 dr_cX17_rename_79 (gk_X15 D I) (Nat.le_of_ble_eq_true rfl) wr_9_186 rfl ?_
                  refine G_iload_n 5 dr_cX17_rename_82 rfl ?_
                  refine G_icmp_ne 92 dr_cX17_rename_83 (by decide +kernel) (fun hc394715 => ?_) (fun hc394715 => ?_)
                  · have r394716 : p394572.toInt ≠ p368776.toInt := gC_ne hc394715
                    refine G_aload 0 dr_cX17_rename_92 rfl ?_
                    refine Gw_callV (As := []) (gV_ok D I) (cp_1699_Row_usesB l hl0 D I P368773 F394120 q394557 p394570 p394571 p394572 p394573 p394574 p394575 p394576 hm394568 he394569 bp394570 bp394571 bp394574 bp394575 bp394576) dr_cX17_rename_94 ⟨wr_10_196, wr_1_39, wr_10_199, by decide, rfl, (Nat.le_of_ble_eq_true rfl), (Nat.le_of_ble_eq_true rfl)⟩ wr_10_197 wr_10_198 hm394568 he394569 rfl (show 0 + 0 ≤ 0 by first | omega | decide) (show 0 + 0 ≤ 0 by first | omega | decide) (Nat.le_of_ble_eq_true rfl) (fun r394720 w394721 dc394717 ds394718 hp394719 => ?_) (fun _ _ _ _ _ z => z.elim)
                    obtain ⟨o394722, rfl, rfl, hdc, hds, bo394722, x394723, ht394724⟩ := hp394719
                    change G _ _ _ _ _ _ _ (.int o394722 :: _) _ _ _
                    refine G_widen (cs' := 0) (sl' := 0) (by omega) (by omega) ?_
                    refine G_if_eq 115 dr_cX17_rename_97 (by decide +kernel) (fun hc394725 => ?_) (fun hc394725 => ?_)
                    · have r394726 : o394722.toInt = 0 := gj_eq hc394725 (show Int32.toInt 0 = 0 by decide)
                      have bo394722' : gB o394722 0 0 := gB_t0 r394726
                      refine G_aload 0 dr_cX17_rename_115 rfl ?_
                      refine Gw_callV (As := []) (gV_ok D I) (cp_1660_Row_sets l hl0 D I P368773 F394120 q394557 p394570 p394571 p394572 p394573 p394574 p394575 p394576 hm394568 he394569 bp394570 bp394571 bp394574 bp394575 bp394576) dr_cX17_rename_117 ⟨wr_10_181, wr_1_39, wr_10_184, by decide, rfl, (Nat.le_of_ble_eq_true rfl), (Nat.le_of_ble_eq_true rfl)⟩ wr_10_182 wr_10_183 hm394568 he394569 rfl (show 0 + 0 ≤ 0 by first | omega | decide) (show 0 + 0 ≤ 0 by first | omega | decide) (Nat.le_of_ble_eq_true rfl) (fun r394730 w394731 dc394727 ds394728 hp394729 => ?_) (fun _ _ _ _ _ z => z.elim)
                      obtain ⟨o394732, rfl, rfl, hdc, hds, bo394732, ht394733⟩ := hp394729
                      change G _ _ _ _ _ _ _ (.int o394732 :: _) _ _ _
                      refine G_widen (cs' := 0) (sl' := 0) (by omega) (by omega) ?_
                      refine G_if_eq 138 dr_cX17_rename_120 (by decide +kernel) (fun hc394734 => ?_) (fun hc394734 => ?_)
                      · have r394735 : o394732.toInt = 0 := gj_eq hc394734 (show Int32.toInt 0 = 0 by decide)
                        have bo394732' : gB o394732 0 0 := gB_t0 r394735
                        obtain ⟨z394736, hz394736⟩ : ∃ z : Int32, z = g394119 + Int32.ofInt 1 := ⟨_, rfl⟩
                        have ez394736 : z394736.toInt = g394119.toInt + 1 := gI_inc hz394736 (by decide) bg394119'' (by decide) (by decide)
                        have bz394736 : gB z394736 1 1000000 := ⟨by omega, by omega⟩
                        refine G_iinc (L' := [(5, .int z394736), (6, .ref q394557), (4, .ref q393244), (3, .int g393184), (0, .ref q368775), (1, .int p368776), (2, .int p368777)]) z394736 1 dr_cX17_rename_138 rfl hz394736.symm (Nat.le_of_ble_eq_true rfl) rfl ?_
                        refine G_goto 20 dr_cX17_rename_141 (by decide +kernel) ?_
                        refine G_lv (L' := [(5, .int z394736), (4, .ref q393244), (3, .int g393184), (0, .ref q368775), (1, .int p368776), (2, .int p368777)]) [0, 2, 3, 4, 5, 6] rfl ?_
                        exact ih20_394124 F394120 z394736 (gB_w bz394736 (by decide) (by decide)) hT394121 hs394122 x394123 x394124 (mz_up ez394736 (Int.le_trans bg394119''.2 (by decide)) hm20_394124)
                      · have r394737 : o394732.toInt ≠ 0 := gj_neq hc394734 (show Int32.toInt 0 = 0 by decide)
                        have bo394732' : gB o394732 1 1 := gB_t1 bo394732 r394737
                        refine G_aload 0 dr_cX17_rename_123 rfl ?_
                        refine Gp_get 1 hm394568 he394569 dr_cX17_rename_125 (gk_X15 D I) (Nat.le_of_ble_eq_true rfl) wr_9_182 rfl ?_
                        refine G_iload_n 5 dr_cX17_rename_128 rfl ?_
                        refine G_icmp_ne 138 dr_cX17_rename_129 (by decide +kernel) (fun hc394738 => ?_) (fun hc394738 => ?_)
                        · have r394739 : p394571.toInt ≠ p368776.toInt := gC_ne hc394738
                          obtain ⟨z394740, hz394740⟩ : ∃ z : Int32, z = g394119 + Int32.ofInt 1 := ⟨_, rfl⟩
                          have ez394740 : z394740.toInt = g394119.toInt + 1 := gI_inc hz394740 (by decide) bg394119'' (by decide) (by decide)
                          have bz394740 : gB z394740 1 1000000 := ⟨by omega, by omega⟩
                          refine G_iinc (L' := [(5, .int z394740), (6, .ref q394557), (4, .ref q393244), (3, .int g393184), (0, .ref q368775), (1, .int p368776), (2, .int p368777)]) z394740 1 dr_cX17_rename_138 rfl hz394740.symm (Nat.le_of_ble_eq_true rfl) rfl ?_
                          refine G_goto 20 dr_cX17_rename_141 (by decide +kernel) ?_
                          refine G_lv (L' := [(5, .int z394740), (4, .ref q393244), (3, .int g393184), (0, .ref q368775), (1, .int p368776), (2, .int p368777)]) [0, 2, 3, 4, 5, 6] rfl ?_
                          exact ih20_394124 F394120 z394740 (gB_w bz394740 (by decide) (by decide)) hT394121 hs394122 x394123 x394124 (mz_up ez394740 (Int.le_trans bg394119''.2 (by decide)) hm20_394124)
                        · have r394741 : p394571.toInt = p368776.toInt := gC_eq hc394738
                          refine G_aload 0 dr_cX17_rename_132 rfl ?_
                          refine G_iload_n 6 dr_cX17_rename_134 rfl ?_
                          refine Gp_put 1 hm394568 he394569 dr_cX17_rename_135 (gk_X15 D I) (Nat.le_of_ble_eq_true rfl) wr_9_182 rfl rfl rfl (Nat.le_of_ble_eq_true rfl) (fun F394742 e394743 n394744 => ?_)
                          have he394745 : F394742 q368775 = .inr (18, [.ref q393195, .ref q393196, .int p393197, .int p393198]) := (n394744 q368775 (rn_oo he394127 he394569 (by decide))).trans he394127
                          have he394746 : F394742 q393195 = .inr (4, [.int p393225, .ref q393227, .int p393226]) := (n394744 q393195 (rn_oo he394128 he394569 (by decide))).trans he394128
                          have he394747 : F394742 q393227 = .inl (I (.object "java/lang/Object"), n393241, .inr (.inr (.inr (.inr f393242)))) := (n394744 q393227 (rn_ao he394129 he394569)).trans he394129
                          have he394748 : F394742 q393244 = .inr (17, [.ref q393253, .ref q393254, .int p393255, .int p393256]) := (n394744 q393244 (rn_oo he394130 he394569 (by decide))).trans he394130
                          have he394749 : F394742 q393253 = .inr (4, [.int p394134, .ref q394136, .int p394135]) := (n394744 q393253 (rn_oo he394133 he394569 (by decide))).trans he394133
                          have he394750 : F394742 q394136 = .inl (I (.object "java/lang/Object"), n394554, .inr (.inr (.inr (.inr f394555)))) := (n394744 q394136 (rn_ao r394548 he394569)).trans r394548
                          have he394751 : F394742 q394557 = .inr (20, [.int p394570, .int p368777, .int p394572, .int p394573, .int p394574, .int p394575, .int p394576]) := e394743
                          have hs394752 : rStr γ [1] F368774 F394742 := rStr_pu2 hs394122 n394744 ht394560 (by decide)
                          have fk394753 : rFk [1] γ F368774 F394742 := rFk_put x394124 n394744 ht394560 (by decide)
                          obtain ⟨z394754, hz394754⟩ : ∃ z : Int32, z = g394119 + Int32.ofInt 1 := ⟨_, rfl⟩
                          have ez394754 : z394754.toInt = g394119.toInt + 1 := gI_inc hz394754 (by decide) bg394119'' (by decide) (by decide)
                          have bz394754 : gB z394754 1 1000000 := ⟨by omega, by omega⟩
                          refine G_iinc (L' := [(5, .int z394754), (6, .ref q394557), (4, .ref q393244), (3, .int g393184), (0, .ref q368775), (1, .int p368776), (2, .int p368777)]) z394754 1 dr_cX17_rename_138 rfl hz394754.symm (Nat.le_of_ble_eq_true rfl) rfl ?_
                          refine G_goto 20 dr_cX17_rename_141 (by decide +kernel) ?_
                          have hT394755 : RS D I P368773 F394742 γ el := RS_set hT394121 n394744 ht394560 (by decide) ⟨p394570, p368777, p394572, p394573, p394574, p394575, p394576, he394751, bp394570, bp368777, bp394574, bp394575, bp394576, r394577, r394578, r394579, r394580, r394581⟩
                          refine G_lv (L' := [(5, .int z394754), (4, .ref q393244), (3, .int g393184), (0, .ref q368775), (1, .int p368776), (2, .int p368777)]) [0, 2, 3, 4, 5, 6] rfl ?_
                          exact ih20_394124 F394742 z394754 (gB_w bz394754 (by decide) (by decide)) hT394755 hs394752 (fun N hv hu hp => rPl_put hT394121 htq368775 rfl (x394123 N hv hu hp) n394744 hp394582 nb394585 hL394583 (fun _ _ _ _ z => z) (rNx_ren he394569 he394751 hu hv (Or.inl rfl) (Or.inl rfl) (Or.inr ⟨rfl, by first | assumption | omega⟩) (by rw [← hp394582]; exact x394123 N hv hu hp _ nb394585 _ hL394583))) fk394753 (mz_up ez394754 (Int.le_trans bg394119''.2 (by decide)) hm20_394124)
                    · have r394757 : o394722.toInt ≠ 0 := gj_neq hc394725 (show Int32.toInt 0 = 0 by decide)
                      have bo394722' : gB o394722 1 1 := gB_t1 bo394722 r394757
                      refine G_aload 0 dr_cX17_rename_100 rfl ?_
                      refine Gp_get 3 hm394568 he394569 dr_cX17_rename_102 (gk_X15 D I) (Nat.le_of_ble_eq_true rfl) wr_9_190 rfl ?_
                      refine G_iload_n 5 dr_cX17_rename_105 rfl ?_
                      refine G_icmp_ne 115 dr_cX17_rename_106 (by decide +kernel) (fun hc394758 => ?_) (fun hc394758 => ?_)
                      · have r394759 : p394573.toInt ≠ p368776.toInt := gC_ne hc394758
                        refine G_aload 0 dr_cX17_rename_115 rfl ?_
                        refine Gw_callV (As := []) (gV_ok D I) (cp_1660_Row_sets l hl0 D I P368773 F394120 q394557 p394570 p394571 p394572 p394573 p394574 p394575 p394576 hm394568 he394569 bp394570 bp394571 bp394574 bp394575 bp394576) dr_cX17_rename_117 ⟨wr_10_181, wr_1_39, wr_10_184, by decide, rfl, (Nat.le_of_ble_eq_true rfl), (Nat.le_of_ble_eq_true rfl)⟩ wr_10_182 wr_10_183 hm394568 he394569 rfl (show 0 + 0 ≤ 0 by first | omega | decide) (show 0 + 0 ≤ 0 by first | omega | decide) (Nat.le_of_ble_eq_true rfl) (fun r394763 w394764 dc394760 ds394761 hp394762 => ?_) (fun _ _ _ _ _ z => z.elim)
                        obtain ⟨o394765, rfl, rfl, hdc, hds, bo394765, ht394766⟩ := hp394762
                        change G _ _ _ _ _ _ _ (.int o394765 :: _) _ _ _
                        refine G_widen (cs' := 0) (sl' := 0) (by omega) (by omega) ?_
                        refine G_if_eq 138 dr_cX17_rename_120 (by decide +kernel) (fun hc394767 => ?_) (fun hc394767 => ?_)
                        · have r394768 : o394765.toInt = 0 := gj_eq hc394767 (show Int32.toInt 0 = 0 by decide)
                          have bo394765' : gB o394765 0 0 := gB_t0 r394768
                          obtain ⟨z394769, hz394769⟩ : ∃ z : Int32, z = g394119 + Int32.ofInt 1 := ⟨_, rfl⟩
                          have ez394769 : z394769.toInt = g394119.toInt + 1 := gI_inc hz394769 (by decide) bg394119'' (by decide) (by decide)
                          have bz394769 : gB z394769 1 1000000 := ⟨by omega, by omega⟩
                          refine G_iinc (L' := [(5, .int z394769), (6, .ref q394557), (4, .ref q393244), (3, .int g393184), (0, .ref q368775), (1, .int p368776), (2, .int p368777)]) z394769 1 dr_cX17_rename_138 rfl hz394769.symm (Nat.le_of_ble_eq_true rfl) rfl ?_
                          refine G_goto 20 dr_cX17_rename_141 (by decide +kernel) ?_
                          refine G_lv (L' := [(5, .int z394769), (4, .ref q393244), (3, .int g393184), (0, .ref q368775), (1, .int p368776), (2, .int p368777)]) [0, 2, 3, 4, 5, 6] rfl ?_
                          exact ih20_394124 F394120 z394769 (gB_w bz394769 (by decide) (by decide)) hT394121 hs394122 x394123 x394124 (mz_up ez394769 (Int.le_trans bg394119''.2 (by decide)) hm20_394124)
                        · have r394770 : o394765.toInt ≠ 0 := gj_neq hc394767 (show Int32.toInt 0 = 0 by decide)
                          have bo394765' : gB o394765 1 1 := gB_t1 bo394765 r394770
                          refine G_aload 0 dr_cX17_rename_123 rfl ?_
                          refine Gp_get 1 hm394568 he394569 dr_cX17_rename_125 (gk_X15 D I) (Nat.le_of_ble_eq_true rfl) wr_9_182 rfl ?_
                          refine G_iload_n 5 dr_cX17_rename_128 rfl ?_
                          refine G_icmp_ne 138 dr_cX17_rename_129 (by decide +kernel) (fun hc394771 => ?_) (fun hc394771 => ?_)
                          · have r394772 : p394571.toInt ≠ p368776.toInt := gC_ne hc394771
                            obtain ⟨z394773, hz394773⟩ : ∃ z : Int32, z = g394119 + Int32.ofInt 1 := ⟨_, rfl⟩
                            have ez394773 : z394773.toInt = g394119.toInt + 1 := gI_inc hz394773 (by decide) bg394119'' (by decide) (by decide)
                            have bz394773 : gB z394773 1 1000000 := ⟨by omega, by omega⟩
                            refine G_iinc (L' := [(5, .int z394773), (6, .ref q394557), (4, .ref q393244), (3, .int g393184), (0, .ref q368775), (1, .int p368776), (2, .int p368777)]) z394773 1 dr_cX17_rename_138 rfl hz394773.symm (Nat.le_of_ble_eq_true rfl) rfl ?_
                            refine G_goto 20 dr_cX17_rename_141 (by decide +kernel) ?_
                            refine G_lv (L' := [(5, .int z394773), (4, .ref q393244), (3, .int g393184), (0, .ref q368775), (1, .int p368776), (2, .int p368777)]) [0, 2, 3, 4, 5, 6] rfl ?_
                            exact ih20_394124 F394120 z394773 (gB_w bz394773 (by decide) (by decide)) hT394121 hs394122 x394123 x394124 (mz_up ez394773 (Int.le_trans bg394119''.2 (by decide)) hm20_394124)
                          · have r394774 : p394571.toInt = p368776.toInt := gC_eq hc394771
                            refine G_aload 0 dr_cX17_rename_132 rfl ?_
                            refine G_iload_n 6 dr_cX17_rename_134 rfl ?_
                            refine Gp_put 1 hm394568 he394569 dr_cX17_rename_135 (gk_X15 D I) (Nat.le_of_ble_eq_true rfl) wr_9_182 rfl rfl rfl (Nat.le_of_ble_eq_true rfl) (fun F394775 e394776 n394777 => ?_)
                            have he394778 : F394775 q368775 = .inr (18, [.ref q393195, .ref q393196, .int p393197, .int p393198]) := (n394777 q368775 (rn_oo he394127 he394569 (by decide))).trans he394127
                            have he394779 : F394775 q393195 = .inr (4, [.int p393225, .ref q393227, .int p393226]) := (n394777 q393195 (rn_oo he394128 he394569 (by decide))).trans he394128
                            have he394780 : F394775 q393227 = .inl (I (.object "java/lang/Object"), n393241, .inr (.inr (.inr (.inr f393242)))) := (n394777 q393227 (rn_ao he394129 he394569)).trans he394129
                            have he394781 : F394775 q393244 = .inr (17, [.ref q393253, .ref q393254, .int p393255, .int p393256]) := (n394777 q393244 (rn_oo he394130 he394569 (by decide))).trans he394130
                            have he394782 : F394775 q393253 = .inr (4, [.int p394134, .ref q394136, .int p394135]) := (n394777 q393253 (rn_oo he394133 he394569 (by decide))).trans he394133
                            have he394783 : F394775 q394136 = .inl (I (.object "java/lang/Object"), n394554, .inr (.inr (.inr (.inr f394555)))) := (n394777 q394136 (rn_ao r394548 he394569)).trans r394548
                            have he394784 : F394775 q394557 = .inr (20, [.int p394570, .int p368777, .int p394572, .int p394573, .int p394574, .int p394575, .int p394576]) := e394776
                            have hs394785 : rStr γ [1] F368774 F394775 := rStr_pu2 hs394122 n394777 ht394560 (by decide)
                            have fk394786 : rFk [1] γ F368774 F394775 := rFk_put x394124 n394777 ht394560 (by decide)
                            obtain ⟨z394787, hz394787⟩ : ∃ z : Int32, z = g394119 + Int32.ofInt 1 := ⟨_, rfl⟩
                            have ez394787 : z394787.toInt = g394119.toInt + 1 := gI_inc hz394787 (by decide) bg394119'' (by decide) (by decide)
                            have bz394787 : gB z394787 1 1000000 := ⟨by omega, by omega⟩
                            refine G_iinc (L' := [(5, .int z394787), (6, .ref q394557), (4, .ref q393244), (3, .int g393184), (0, .ref q368775), (1, .int p368776), (2, .int p368777)]) z394787 1 dr_cX17_rename_138 rfl hz394787.symm (Nat.le_of_ble_eq_true rfl) rfl ?_
                            refine G_goto 20 dr_cX17_rename_141 (by decide +kernel) ?_
                            have hT394788 : RS D I P368773 F394775 γ el := RS_set hT394121 n394777 ht394560 (by decide) ⟨p394570, p368777, p394572, p394573, p394574, p394575, p394576, he394784, bp394570, bp368777, bp394574, bp394575, bp394576, r394577, r394578, r394579, r394580, r394581⟩
                            refine G_lv (L' := [(5, .int z394787), (4, .ref q393244), (3, .int g393184), (0, .ref q368775), (1, .int p368776), (2, .int p368777)]) [0, 2, 3, 4, 5, 6] rfl ?_
                            exact ih20_394124 F394775 z394787 (gB_w bz394787 (by decide) (by decide)) hT394788 hs394785 (fun N hv hu hp => rPl_put hT394121 htq368775 rfl (x394123 N hv hu hp) n394777 hp394582 nb394585 hL394583 (fun _ _ _ _ z => z) (rNx_ren he394569 he394784 hu hv (Or.inl rfl) (Or.inl rfl) (Or.inr ⟨rfl, by first | assumption | omega⟩) (by rw [← hp394582]; exact x394123 N hv hu hp _ nb394585 _ hL394583))) fk394786 (mz_up ez394787 (Int.le_trans bg394119''.2 (by decide)) hm20_394124)
                      · have r394790 : p394573.toInt = p368776.toInt := gC_eq hc394758
                        have bp394573' : gB p394573 0 1999 := ⟨by omega, by omega⟩
                        refine G_aload 0 dr_cX17_rename_109 rfl ?_
                        refine G_iload_n 6 dr_cX17_rename_111 rfl ?_
                        refine Gp_put 3 hm394568 he394569 dr_cX17_rename_112 (gk_X15 D I) (Nat.le_of_ble_eq_true rfl) wr_9_190 rfl rfl rfl (Nat.le_of_ble_eq_true rfl) (fun F394791 e394792 n394793 => ?_)
                        have he394794 : F394791 q368775 = .inr (18, [.ref q393195, .ref q393196, .int p393197, .int p393198]) := (n394793 q368775 (rn_oo he394127 he394569 (by decide))).trans he394127
                        have he394795 : F394791 q393195 = .inr (4, [.int p393225, .ref q393227, .int p393226]) := (n394793 q393195 (rn_oo he394128 he394569 (by decide))).trans he394128
                        have he394796 : F394791 q393227 = .inl (I (.object "java/lang/Object"), n393241, .inr (.inr (.inr (.inr f393242)))) := (n394793 q393227 (rn_ao he394129 he394569)).trans he394129
                        have he394797 : F394791 q393244 = .inr (17, [.ref q393253, .ref q393254, .int p393255, .int p393256]) := (n394793 q393244 (rn_oo he394130 he394569 (by decide))).trans he394130
                        have he394798 : F394791 q393253 = .inr (4, [.int p394134, .ref q394136, .int p394135]) := (n394793 q393253 (rn_oo he394133 he394569 (by decide))).trans he394133
                        have he394799 : F394791 q394136 = .inl (I (.object "java/lang/Object"), n394554, .inr (.inr (.inr (.inr f394555)))) := (n394793 q394136 (rn_ao r394548 he394569)).trans r394548
                        have he394800 : F394791 q394557 = .inr (20, [.int p394570, .int p394571, .int p394572, .int p368777, .int p394574, .int p394575, .int p394576]) := e394792
                        have hs394801 : rStr γ [1] F368774 F394791 := rStr_pu2 hs394122 n394793 ht394560 (by decide)
                        have fk394802 : rFk [1] γ F368774 F394791 := rFk_put x394124 n394793 ht394560 (by decide)
                        refine G_aload 0 dr_cX17_rename_115 rfl ?_
                        have hT394803 : RS D I P368773 F394791 γ el := RS_set hT394121 n394793 ht394560 (by decide) ⟨p394570, p394571, p394572, p368777, p394574, p394575, p394576, he394800, bp394570, bp394571, bp394574, bp394575, bp394576, r394577, r394578, (Or.inr bp368777), r394580, r394581⟩
                        refine Gw_callV (As := []) (gV_ok D I) (cp_1660_Row_sets l hl0 D I P368773 F394791 q394557 p394570 p394571 p394572 p368777 p394574 p394575 p394576 hm394568 he394800 bp394570 bp394571 bp394574 bp394575 bp394576) dr_cX17_rename_117 ⟨wr_10_181, wr_1_39, wr_10_184, by decide, rfl, (Nat.le_of_ble_eq_true rfl), (Nat.le_of_ble_eq_true rfl)⟩ wr_10_182 wr_10_183 hm394568 he394800 rfl (show 0 + 0 ≤ 0 by first | omega | decide) (show 0 + 0 ≤ 0 by first | omega | decide) (Nat.le_of_ble_eq_true rfl) (fun r394808 w394809 dc394805 ds394806 hp394807 => ?_) (fun _ _ _ _ _ z => z.elim)
                        obtain ⟨o394810, rfl, rfl, hdc, hds, bo394810, ht394811⟩ := hp394807
                        change G _ _ _ _ _ _ _ (.int o394810 :: _) _ _ _
                        refine G_widen (cs' := 0) (sl' := 0) (by omega) (by omega) ?_
                        refine G_if_eq 138 dr_cX17_rename_120 (by decide +kernel) (fun hc394812 => ?_) (fun hc394812 => ?_)
                        · have r394813 : o394810.toInt = 0 := gj_eq hc394812 (show Int32.toInt 0 = 0 by decide)
                          have bo394810' : gB o394810 0 0 := gB_t0 r394813
                          obtain ⟨z394814, hz394814⟩ : ∃ z : Int32, z = g394119 + Int32.ofInt 1 := ⟨_, rfl⟩
                          have ez394814 : z394814.toInt = g394119.toInt + 1 := gI_inc hz394814 (by decide) bg394119'' (by decide) (by decide)
                          have bz394814 : gB z394814 1 1000000 := ⟨by omega, by omega⟩
                          refine G_iinc (L' := [(5, .int z394814), (6, .ref q394557), (4, .ref q393244), (3, .int g393184), (0, .ref q368775), (1, .int p368776), (2, .int p368777)]) z394814 1 dr_cX17_rename_138 rfl hz394814.symm (Nat.le_of_ble_eq_true rfl) rfl ?_
                          refine G_goto 20 dr_cX17_rename_141 (by decide +kernel) ?_
                          refine G_lv (L' := [(5, .int z394814), (4, .ref q393244), (3, .int g393184), (0, .ref q368775), (1, .int p368776), (2, .int p368777)]) [0, 2, 3, 4, 5, 6] rfl ?_
                          exact ih20_394124 F394791 z394814 (gB_w bz394814 (by decide) (by decide)) hT394803 hs394801 (fun N hv hu hp => rPl_put hT394121 htq368775 rfl (x394123 N hv hu hp) n394793 hp394582 nb394585 hL394583 (fun _ _ _ _ z => z) (rNx_ren he394569 he394800 hu hv (Or.inl rfl) (Or.inr rfl) (Or.inl rfl) (by rw [← hp394582]; exact x394123 N hv hu hp _ nb394585 _ hL394583))) fk394802 (mz_up ez394814 (Int.le_trans bg394119''.2 (by decide)) hm20_394124)
                        · have r394815 : o394810.toInt ≠ 0 := gj_neq hc394812 (show Int32.toInt 0 = 0 by decide)
                          have bo394810' : gB o394810 1 1 := gB_t1 bo394810 r394815
                          refine G_aload 0 dr_cX17_rename_123 rfl ?_
                          refine Gp_get 1 hm394568 he394800 dr_cX17_rename_125 (gk_X15 D I) (Nat.le_of_ble_eq_true rfl) wr_9_182 rfl ?_
                          refine G_iload_n 5 dr_cX17_rename_128 rfl ?_
                          refine G_icmp_ne 138 dr_cX17_rename_129 (by decide +kernel) (fun hc394816 => ?_) (fun hc394816 => ?_)
                          · have r394817 : p394571.toInt ≠ p368776.toInt := gC_ne hc394816
                            obtain ⟨z394818, hz394818⟩ : ∃ z : Int32, z = g394119 + Int32.ofInt 1 := ⟨_, rfl⟩
                            have ez394818 : z394818.toInt = g394119.toInt + 1 := gI_inc hz394818 (by decide) bg394119'' (by decide) (by decide)
                            have bz394818 : gB z394818 1 1000000 := ⟨by omega, by omega⟩
                            refine G_iinc (L' := [(5, .int z394818), (6, .ref q394557), (4, .ref q393244), (3, .int g393184), (0, .ref q368775), (1, .int p368776), (2, .int p368777)]) z394818 1 dr_cX17_rename_138 rfl hz394818.symm (Nat.le_of_ble_eq_true rfl) rfl ?_
                            refine G_goto 20 dr_cX17_rename_141 (by decide +kernel) ?_
                            refine G_lv (L' := [(5, .int z394818), (4, .ref q393244), (3, .int g393184), (0, .ref q368775), (1, .int p368776), (2, .int p368777)]) [0, 2, 3, 4, 5, 6] rfl ?_
                            exact ih20_394124 F394791 z394818 (gB_w bz394818 (by decide) (by decide)) hT394803 hs394801 (fun N hv hu hp => rPl_put hT394121 htq368775 rfl (x394123 N hv hu hp) n394793 hp394582 nb394585 hL394583 (fun _ _ _ _ z => z) (rNx_ren he394569 he394800 hu hv (Or.inl rfl) (Or.inr rfl) (Or.inl rfl) (by rw [← hp394582]; exact x394123 N hv hu hp _ nb394585 _ hL394583))) fk394802 (mz_up ez394818 (Int.le_trans bg394119''.2 (by decide)) hm20_394124)
                          · have r394819 : p394571.toInt = p368776.toInt := gC_eq hc394816
                            refine G_aload 0 dr_cX17_rename_132 rfl ?_
                            refine G_iload_n 6 dr_cX17_rename_134 rfl ?_
                            refine Gp_put 1 hm394568 he394800 dr_cX17_rename_135 (gk_X15 D I) (Nat.le_of_ble_eq_true rfl) wr_9_182 rfl rfl rfl (Nat.le_of_ble_eq_true rfl) (fun F394820 e394821 n394822 => ?_)
                            have he394823 : F394820 q368775 = .inr (18, [.ref q393195, .ref q393196, .int p393197, .int p393198]) := (n394822 q368775 (rn_oo he394794 he394800 (by decide))).trans he394794
                            have he394824 : F394820 q393195 = .inr (4, [.int p393225, .ref q393227, .int p393226]) := (n394822 q393195 (rn_oo he394795 he394800 (by decide))).trans he394795
                            have he394825 : F394820 q393227 = .inl (I (.object "java/lang/Object"), n393241, .inr (.inr (.inr (.inr f393242)))) := (n394822 q393227 (rn_ao he394796 he394800)).trans he394796
                            have he394826 : F394820 q393244 = .inr (17, [.ref q393253, .ref q393254, .int p393255, .int p393256]) := (n394822 q393244 (rn_oo he394797 he394800 (by decide))).trans he394797
                            have he394827 : F394820 q393253 = .inr (4, [.int p394134, .ref q394136, .int p394135]) := (n394822 q393253 (rn_oo he394798 he394800 (by decide))).trans he394798
                            have he394828 : F394820 q394136 = .inl (I (.object "java/lang/Object"), n394554, .inr (.inr (.inr (.inr f394555)))) := (n394822 q394136 (rn_ao he394799 he394800)).trans he394799
                            have he394829 : F394820 q394557 = .inr (20, [.int p394570, .int p368777, .int p394572, .int p368777, .int p394574, .int p394575, .int p394576]) := e394821
                            have hs394830 : rStr γ [1] F368774 F394820 := rStr_pu2 hs394801 n394822 ht394560 (by decide)
                            have fk394831 : rFk [1] γ F368774 F394820 := rFk_put fk394802 n394822 ht394560 (by decide)
                            obtain ⟨z394832, hz394832⟩ : ∃ z : Int32, z = g394119 + Int32.ofInt 1 := ⟨_, rfl⟩
                            have ez394832 : z394832.toInt = g394119.toInt + 1 := gI_inc hz394832 (by decide) bg394119'' (by decide) (by decide)
                            have bz394832 : gB z394832 1 1000000 := ⟨by omega, by omega⟩
                            refine G_iinc (L' := [(5, .int z394832), (6, .ref q394557), (4, .ref q393244), (3, .int g393184), (0, .ref q368775), (1, .int p368776), (2, .int p368777)]) z394832 1 dr_cX17_rename_138 rfl hz394832.symm (Nat.le_of_ble_eq_true rfl) rfl ?_
                            refine G_goto 20 dr_cX17_rename_141 (by decide +kernel) ?_
                            have hT394833 : RS D I P368773 F394820 γ el := RS_set hT394803 n394822 ht394560 (by decide) ⟨p394570, p368777, p394572, p368777, p394574, p394575, p394576, he394829, bp394570, bp368777, bp394574, bp394575, bp394576, r394577, r394578, (Or.inr bp368777), r394580, r394581⟩
                            have of394834 : ∀ b, b ≠ q394557 → F394820 b = F394120 b := fun b hb => (n394822 b hb).trans (n394793 b hb)
                            refine G_lv (L' := [(5, .int z394832), (4, .ref q393244), (3, .int g393184), (0, .ref q368775), (1, .int p368776), (2, .int p368777)]) [0, 2, 3, 4, 5, 6] rfl ?_
                            exact ih20_394124 F394820 z394832 (gB_w bz394832 (by decide) (by decide)) hT394833 hs394830 (fun N hv hu hp => rPl_put hT394121 htq368775 rfl (x394123 N hv hu hp) of394834 hp394582 nb394585 hL394583 (fun _ _ _ _ z => z) (rNx_ren he394569 he394829 hu hv (Or.inl rfl) (Or.inr rfl) (Or.inr ⟨rfl, by first | assumption | omega⟩) (by rw [← hp394582]; exact x394123 N hv hu hp _ nb394585 _ hL394583))) fk394831 (mz_up ez394832 (Int.le_trans bg394119''.2 (by decide)) hm20_394124)
                  · have r394835 : p394572.toInt = p368776.toInt := gC_eq hc394715
                    have bp394572' : gB p394572 0 1999 := ⟨by omega, by omega⟩
                    refine G_aload 0 dr_cX17_rename_86 rfl ?_
                    refine G_iload_n 6 dr_cX17_rename_88 rfl ?_
                    refine Gp_put 2 hm394568 he394569 dr_cX17_rename_89 (gk_X15 D I) (Nat.le_of_ble_eq_true rfl) wr_9_186 rfl rfl rfl (Nat.le_of_ble_eq_true rfl) (fun F394836 e394837 n394838 => ?_)
                    have he394839 : F394836 q368775 = .inr (18, [.ref q393195, .ref q393196, .int p393197, .int p393198]) := (n394838 q368775 (rn_oo he394127 he394569 (by decide))).trans he394127
                    have he394840 : F394836 q393195 = .inr (4, [.int p393225, .ref q393227, .int p393226]) := (n394838 q393195 (rn_oo he394128 he394569 (by decide))).trans he394128
                    have he394841 : F394836 q393227 = .inl (I (.object "java/lang/Object"), n393241, .inr (.inr (.inr (.inr f393242)))) := (n394838 q393227 (rn_ao he394129 he394569)).trans he394129
                    have he394842 : F394836 q393244 = .inr (17, [.ref q393253, .ref q393254, .int p393255, .int p393256]) := (n394838 q393244 (rn_oo he394130 he394569 (by decide))).trans he394130
                    have he394843 : F394836 q393253 = .inr (4, [.int p394134, .ref q394136, .int p394135]) := (n394838 q393253 (rn_oo he394133 he394569 (by decide))).trans he394133
                    have he394844 : F394836 q394136 = .inl (I (.object "java/lang/Object"), n394554, .inr (.inr (.inr (.inr f394555)))) := (n394838 q394136 (rn_ao r394548 he394569)).trans r394548
                    have he394845 : F394836 q394557 = .inr (20, [.int p394570, .int p394571, .int p368777, .int p394573, .int p394574, .int p394575, .int p394576]) := e394837
                    have hs394846 : rStr γ [1] F368774 F394836 := rStr_pu2 hs394122 n394838 ht394560 (by decide)
                    have fk394847 : rFk [1] γ F368774 F394836 := rFk_put x394124 n394838 ht394560 (by decide)
                    refine G_aload 0 dr_cX17_rename_92 rfl ?_
                    have hT394848 : RS D I P368773 F394836 γ el := RS_set hT394121 n394838 ht394560 (by decide) ⟨p394570, p394571, p368777, p394573, p394574, p394575, p394576, he394845, bp394570, bp394571, bp394574, bp394575, bp394576, r394577, (Or.inr bp368777), r394579, r394580, r394581⟩
                    refine Gw_callV (As := []) (gV_ok D I) (cp_1699_Row_usesB l hl0 D I P368773 F394836 q394557 p394570 p394571 p368777 p394573 p394574 p394575 p394576 hm394568 he394845 bp394570 bp394571 bp394574 bp394575 bp394576) dr_cX17_rename_94 ⟨wr_10_196, wr_1_39, wr_10_199, by decide, rfl, (Nat.le_of_ble_eq_true rfl), (Nat.le_of_ble_eq_true rfl)⟩ wr_10_197 wr_10_198 hm394568 he394845 rfl (show 0 + 0 ≤ 0 by first | omega | decide) (show 0 + 0 ≤ 0 by first | omega | decide) (Nat.le_of_ble_eq_true rfl) (fun r394853 w394854 dc394850 ds394851 hp394852 => ?_) (fun _ _ _ _ _ z => z.elim)
                    obtain ⟨o394855, rfl, rfl, hdc, hds, bo394855, x394856, ht394857⟩ := hp394852
                    change G _ _ _ _ _ _ _ (.int o394855 :: _) _ _ _
                    refine G_widen (cs' := 0) (sl' := 0) (by omega) (by omega) ?_
                    refine G_if_eq 115 dr_cX17_rename_97 (by decide +kernel) (fun hc394858 => ?_) (fun hc394858 => ?_)
                    · have r394859 : o394855.toInt = 0 := gj_eq hc394858 (show Int32.toInt 0 = 0 by decide)
                      have bo394855' : gB o394855 0 0 := gB_t0 r394859
                      refine G_aload 0 dr_cX17_rename_115 rfl ?_
                      refine Gw_callV (As := []) (gV_ok D I) (cp_1660_Row_sets l hl0 D I P368773 F394836 q394557 p394570 p394571 p368777 p394573 p394574 p394575 p394576 hm394568 he394845 bp394570 bp394571 bp394574 bp394575 bp394576) dr_cX17_rename_117 ⟨wr_10_181, wr_1_39, wr_10_184, by decide, rfl, (Nat.le_of_ble_eq_true rfl), (Nat.le_of_ble_eq_true rfl)⟩ wr_10_182 wr_10_183 hm394568 he394845 rfl (show 0 + 0 ≤ 0 by first | omega | decide) (show 0 + 0 ≤ 0 by first | omega | decide) (Nat.le_of_ble_eq_true rfl) (fun r394863 w394864 dc394860 ds394861 hp394862 => ?_) (fun _ _ _ _ _ z => z.elim)
                      obtain ⟨o394865, rfl, rfl, hdc, hds, bo394865, ht394866⟩ := hp394862
                      change G _ _ _ _ _ _ _ (.int o394865 :: _) _ _ _
                      refine G_widen (cs' := 0) (sl' := 0) (by omega) (by omega) ?_
                      refine G_if_eq 138 dr_cX17_rename_120 (by decide +kernel) (fun hc394867 => ?_) (fun hc394867 => ?_)
                      · have r394868 : o394865.toInt = 0 := gj_eq hc394867 (show Int32.toInt 0 = 0 by decide)
                        have bo394865' : gB o394865 0 0 := gB_t0 r394868
                        obtain ⟨z394869, hz394869⟩ : ∃ z : Int32, z = g394119 + Int32.ofInt 1 := ⟨_, rfl⟩
                        have ez394869 : z394869.toInt = g394119.toInt + 1 := gI_inc hz394869 (by decide) bg394119'' (by decide) (by decide)
                        have bz394869 : gB z394869 1 1000000 := ⟨by omega, by omega⟩
                        refine G_iinc (L' := [(5, .int z394869), (6, .ref q394557), (4, .ref q393244), (3, .int g393184), (0, .ref q368775), (1, .int p368776), (2, .int p368777)]) z394869 1 dr_cX17_rename_138 rfl hz394869.symm (Nat.le_of_ble_eq_true rfl) rfl ?_
                        refine G_goto 20 dr_cX17_rename_141 (by decide +kernel) ?_
                        refine G_lv (L' := [(5, .int z394869), (4, .ref q393244), (3, .int g393184), (0, .ref q368775), (1, .int p368776), (2, .int p368777)]) [0, 2, 3, 4, 5, 6] rfl ?_
                        exact ih20_394124 F394836 z394869 (gB_w bz394869 (by decide) (by decide)) hT394848 hs394846 (fun N hv hu hp => rPl_put hT394121 htq368775 rfl (x394123 N hv hu hp) n394838 hp394582 nb394585 hL394583 (fun _ _ _ _ z => z) (rNx_ren he394569 he394845 hu hv (Or.inr rfl) (Or.inl rfl) (Or.inl rfl) (by rw [← hp394582]; exact x394123 N hv hu hp _ nb394585 _ hL394583))) fk394847 (mz_up ez394869 (Int.le_trans bg394119''.2 (by decide)) hm20_394124)
                      · have r394870 : o394865.toInt ≠ 0 := gj_neq hc394867 (show Int32.toInt 0 = 0 by decide)
                        have bo394865' : gB o394865 1 1 := gB_t1 bo394865 r394870
                        refine G_aload 0 dr_cX17_rename_123 rfl ?_
                        refine Gp_get 1 hm394568 he394845 dr_cX17_rename_125 (gk_X15 D I) (Nat.le_of_ble_eq_true rfl) wr_9_182 rfl ?_
                        refine G_iload_n 5 dr_cX17_rename_128 rfl ?_
                        refine G_icmp_ne 138 dr_cX17_rename_129 (by decide +kernel) (fun hc394871 => ?_) (fun hc394871 => ?_)
                        · have r394872 : p394571.toInt ≠ p368776.toInt := gC_ne hc394871
                          obtain ⟨z394873, hz394873⟩ : ∃ z : Int32, z = g394119 + Int32.ofInt 1 := ⟨_, rfl⟩
                          have ez394873 : z394873.toInt = g394119.toInt + 1 := gI_inc hz394873 (by decide) bg394119'' (by decide) (by decide)
                          have bz394873 : gB z394873 1 1000000 := ⟨by omega, by omega⟩
                          refine G_iinc (L' := [(5, .int z394873), (6, .ref q394557), (4, .ref q393244), (3, .int g393184), (0, .ref q368775), (1, .int p368776), (2, .int p368777)]) z394873 1 dr_cX17_rename_138 rfl hz394873.symm (Nat.le_of_ble_eq_true rfl) rfl ?_
                          refine G_goto 20 dr_cX17_rename_141 (by decide +kernel) ?_
                          refine G_lv (L' := [(5, .int z394873), (4, .ref q393244), (3, .int g393184), (0, .ref q368775), (1, .int p368776), (2, .int p368777)]) [0, 2, 3, 4, 5, 6] rfl ?_
                          exact ih20_394124 F394836 z394873 (gB_w bz394873 (by decide) (by decide)) hT394848 hs394846 (fun N hv hu hp => rPl_put hT394121 htq368775 rfl (x394123 N hv hu hp) n394838 hp394582 nb394585 hL394583 (fun _ _ _ _ z => z) (rNx_ren he394569 he394845 hu hv (Or.inr rfl) (Or.inl rfl) (Or.inl rfl) (by rw [← hp394582]; exact x394123 N hv hu hp _ nb394585 _ hL394583))) fk394847 (mz_up ez394873 (Int.le_trans bg394119''.2 (by decide)) hm20_394124)
                        · have r394874 : p394571.toInt = p368776.toInt := gC_eq hc394871
                          refine G_aload 0 dr_cX17_rename_132 rfl ?_
                          refine G_iload_n 6 dr_cX17_rename_134 rfl ?_
                          refine Gp_put 1 hm394568 he394845 dr_cX17_rename_135 (gk_X15 D I) (Nat.le_of_ble_eq_true rfl) wr_9_182 rfl rfl rfl (Nat.le_of_ble_eq_true rfl) (fun F394875 e394876 n394877 => ?_)
                          have he394878 : F394875 q368775 = .inr (18, [.ref q393195, .ref q393196, .int p393197, .int p393198]) := (n394877 q368775 (rn_oo he394839 he394845 (by decide))).trans he394839
                          have he394879 : F394875 q393195 = .inr (4, [.int p393225, .ref q393227, .int p393226]) := (n394877 q393195 (rn_oo he394840 he394845 (by decide))).trans he394840
                          have he394880 : F394875 q393227 = .inl (I (.object "java/lang/Object"), n393241, .inr (.inr (.inr (.inr f393242)))) := (n394877 q393227 (rn_ao he394841 he394845)).trans he394841
                          have he394881 : F394875 q393244 = .inr (17, [.ref q393253, .ref q393254, .int p393255, .int p393256]) := (n394877 q393244 (rn_oo he394842 he394845 (by decide))).trans he394842
                          have he394882 : F394875 q393253 = .inr (4, [.int p394134, .ref q394136, .int p394135]) := (n394877 q393253 (rn_oo he394843 he394845 (by decide))).trans he394843
                          have he394883 : F394875 q394136 = .inl (I (.object "java/lang/Object"), n394554, .inr (.inr (.inr (.inr f394555)))) := (n394877 q394136 (rn_ao he394844 he394845)).trans he394844
                          have he394884 : F394875 q394557 = .inr (20, [.int p394570, .int p368777, .int p368777, .int p394573, .int p394574, .int p394575, .int p394576]) := e394876
                          have hs394885 : rStr γ [1] F368774 F394875 := rStr_pu2 hs394846 n394877 ht394560 (by decide)
                          have fk394886 : rFk [1] γ F368774 F394875 := rFk_put fk394847 n394877 ht394560 (by decide)
                          obtain ⟨z394887, hz394887⟩ : ∃ z : Int32, z = g394119 + Int32.ofInt 1 := ⟨_, rfl⟩
                          have ez394887 : z394887.toInt = g394119.toInt + 1 := gI_inc hz394887 (by decide) bg394119'' (by decide) (by decide)
                          have bz394887 : gB z394887 1 1000000 := ⟨by omega, by omega⟩
                          refine G_iinc (L' := [(5, .int z394887), (6, .ref q394557), (4, .ref q393244), (3, .int g393184), (0, .ref q368775), (1, .int p368776), (2, .int p368777)]) z394887 1 dr_cX17_rename_138 rfl hz394887.symm (Nat.le_of_ble_eq_true rfl) rfl ?_
                          refine G_goto 20 dr_cX17_rename_141 (by decide +kernel) ?_
                          have hT394888 : RS D I P368773 F394875 γ el := RS_set hT394848 n394877 ht394560 (by decide) ⟨p394570, p368777, p368777, p394573, p394574, p394575, p394576, he394884, bp394570, bp368777, bp394574, bp394575, bp394576, r394577, (Or.inr bp368777), r394579, r394580, r394581⟩
                          have of394889 : ∀ b, b ≠ q394557 → F394875 b = F394120 b := fun b hb => (n394877 b hb).trans (n394838 b hb)
                          refine G_lv (L' := [(5, .int z394887), (4, .ref q393244), (3, .int g393184), (0, .ref q368775), (1, .int p368776), (2, .int p368777)]) [0, 2, 3, 4, 5, 6] rfl ?_
                          exact ih20_394124 F394875 z394887 (gB_w bz394887 (by decide) (by decide)) hT394888 hs394885 (fun N hv hu hp => rPl_put hT394121 htq368775 rfl (x394123 N hv hu hp) of394889 hp394582 nb394585 hL394583 (fun _ _ _ _ z => z) (rNx_ren he394569 he394884 hu hv (Or.inr rfl) (Or.inl rfl) (Or.inr ⟨rfl, by first | assumption | omega⟩) (by rw [← hp394582]; exact x394123 N hv hu hp _ nb394585 _ hL394583))) fk394886 (mz_up ez394887 (Int.le_trans bg394119''.2 (by decide)) hm20_394124)
                    · have r394890 : o394855.toInt ≠ 0 := gj_neq hc394858 (show Int32.toInt 0 = 0 by decide)
                      have bo394855' : gB o394855 1 1 := gB_t1 bo394855 r394890
                      refine G_aload 0 dr_cX17_rename_100 rfl ?_
                      refine Gp_get 3 hm394568 he394845 dr_cX17_rename_102 (gk_X15 D I) (Nat.le_of_ble_eq_true rfl) wr_9_190 rfl ?_
                      refine G_iload_n 5 dr_cX17_rename_105 rfl ?_
                      refine G_icmp_ne 115 dr_cX17_rename_106 (by decide +kernel) (fun hc394891 => ?_) (fun hc394891 => ?_)
                      · have r394892 : p394573.toInt ≠ p368776.toInt := gC_ne hc394891
                        refine G_aload 0 dr_cX17_rename_115 rfl ?_
                        refine Gw_callV (As := []) (gV_ok D I) (cp_1660_Row_sets l hl0 D I P368773 F394836 q394557 p394570 p394571 p368777 p394573 p394574 p394575 p394576 hm394568 he394845 bp394570 bp394571 bp394574 bp394575 bp394576) dr_cX17_rename_117 ⟨wr_10_181, wr_1_39, wr_10_184, by decide, rfl, (Nat.le_of_ble_eq_true rfl), (Nat.le_of_ble_eq_true rfl)⟩ wr_10_182 wr_10_183 hm394568 he394845 rfl (show 0 + 0 ≤ 0 by first | omega | decide) (show 0 + 0 ≤ 0 by first | omega | decide) (Nat.le_of_ble_eq_true rfl) (fun r394896 w394897 dc394893 ds394894 hp394895 => ?_) (fun _ _ _ _ _ z => z.elim)
                        obtain ⟨o394898, rfl, rfl, hdc, hds, bo394898, ht394899⟩ := hp394895
                        change G _ _ _ _ _ _ _ (.int o394898 :: _) _ _ _
                        refine G_widen (cs' := 0) (sl' := 0) (by omega) (by omega) ?_
                        refine G_if_eq 138 dr_cX17_rename_120 (by decide +kernel) (fun hc394900 => ?_) (fun hc394900 => ?_)
                        · have r394901 : o394898.toInt = 0 := gj_eq hc394900 (show Int32.toInt 0 = 0 by decide)
                          have bo394898' : gB o394898 0 0 := gB_t0 r394901
                          obtain ⟨z394902, hz394902⟩ : ∃ z : Int32, z = g394119 + Int32.ofInt 1 := ⟨_, rfl⟩
                          have ez394902 : z394902.toInt = g394119.toInt + 1 := gI_inc hz394902 (by decide) bg394119'' (by decide) (by decide)
                          have bz394902 : gB z394902 1 1000000 := ⟨by omega, by omega⟩
                          refine G_iinc (L' := [(5, .int z394902), (6, .ref q394557), (4, .ref q393244), (3, .int g393184), (0, .ref q368775), (1, .int p368776), (2, .int p368777)]) z394902 1 dr_cX17_rename_138 rfl hz394902.symm (Nat.le_of_ble_eq_true rfl) rfl ?_
                          refine G_goto 20 dr_cX17_rename_141 (by decide +kernel) ?_
                          refine G_lv (L' := [(5, .int z394902), (4, .ref q393244), (3, .int g393184), (0, .ref q368775), (1, .int p368776), (2, .int p368777)]) [0, 2, 3, 4, 5, 6] rfl ?_
                          exact ih20_394124 F394836 z394902 (gB_w bz394902 (by decide) (by decide)) hT394848 hs394846 (fun N hv hu hp => rPl_put hT394121 htq368775 rfl (x394123 N hv hu hp) n394838 hp394582 nb394585 hL394583 (fun _ _ _ _ z => z) (rNx_ren he394569 he394845 hu hv (Or.inr rfl) (Or.inl rfl) (Or.inl rfl) (by rw [← hp394582]; exact x394123 N hv hu hp _ nb394585 _ hL394583))) fk394847 (mz_up ez394902 (Int.le_trans bg394119''.2 (by decide)) hm20_394124)
                        · have r394903 : o394898.toInt ≠ 0 := gj_neq hc394900 (show Int32.toInt 0 = 0 by decide)
                          have bo394898' : gB o394898 1 1 := gB_t1 bo394898 r394903
                          refine G_aload 0 dr_cX17_rename_123 rfl ?_
                          refine Gp_get 1 hm394568 he394845 dr_cX17_rename_125 (gk_X15 D I) (Nat.le_of_ble_eq_true rfl) wr_9_182 rfl ?_
                          refine G_iload_n 5 dr_cX17_rename_128 rfl ?_
                          refine G_icmp_ne 138 dr_cX17_rename_129 (by decide +kernel) (fun hc394904 => ?_) (fun hc394904 => ?_)
                          · have r394905 : p394571.toInt ≠ p368776.toInt := gC_ne hc394904
                            obtain ⟨z394906, hz394906⟩ : ∃ z : Int32, z = g394119 + Int32.ofInt 1 := ⟨_, rfl⟩
                            have ez394906 : z394906.toInt = g394119.toInt + 1 := gI_inc hz394906 (by decide) bg394119'' (by decide) (by decide)
                            have bz394906 : gB z394906 1 1000000 := ⟨by omega, by omega⟩
                            refine G_iinc (L' := [(5, .int z394906), (6, .ref q394557), (4, .ref q393244), (3, .int g393184), (0, .ref q368775), (1, .int p368776), (2, .int p368777)]) z394906 1 dr_cX17_rename_138 rfl hz394906.symm (Nat.le_of_ble_eq_true rfl) rfl ?_
                            refine G_goto 20 dr_cX17_rename_141 (by decide +kernel) ?_
                            refine G_lv (L' := [(5, .int z394906), (4, .ref q393244), (3, .int g393184), (0, .ref q368775), (1, .int p368776), (2, .int p368777)]) [0, 2, 3, 4, 5, 6] rfl ?_
                            exact ih20_394124 F394836 z394906 (gB_w bz394906 (by decide) (by decide)) hT394848 hs394846 (fun N hv hu hp => rPl_put hT394121 htq368775 rfl (x394123 N hv hu hp) n394838 hp394582 nb394585 hL394583 (fun _ _ _ _ z => z) (rNx_ren he394569 he394845 hu hv (Or.inr rfl) (Or.inl rfl) (Or.inl rfl) (by rw [← hp394582]; exact x394123 N hv hu hp _ nb394585 _ hL394583))) fk394847 (mz_up ez394906 (Int.le_trans bg394119''.2 (by decide)) hm20_394124)
                          · have r394907 : p394571.toInt = p368776.toInt := gC_eq hc394904
                            refine G_aload 0 dr_cX17_rename_132 rfl ?_
                            refine G_iload_n 6 dr_cX17_rename_134 rfl ?_
                            refine Gp_put 1 hm394568 he394845 dr_cX17_rename_135 (gk_X15 D I) (Nat.le_of_ble_eq_true rfl) wr_9_182 rfl rfl rfl (Nat.le_of_ble_eq_true rfl) (fun F394908 e394909 n394910 => ?_)
                            have he394911 : F394908 q368775 = .inr (18, [.ref q393195, .ref q393196, .int p393197, .int p393198]) := (n394910 q368775 (rn_oo he394839 he394845 (by decide))).trans he394839
                            have he394912 : F394908 q393195 = .inr (4, [.int p393225, .ref q393227, .int p393226]) := (n394910 q393195 (rn_oo he394840 he394845 (by decide))).trans he394840
                            have he394913 : F394908 q393227 = .inl (I (.object "java/lang/Object"), n393241, .inr (.inr (.inr (.inr f393242)))) := (n394910 q393227 (rn_ao he394841 he394845)).trans he394841
                            have he394914 : F394908 q393244 = .inr (17, [.ref q393253, .ref q393254, .int p393255, .int p393256]) := (n394910 q393244 (rn_oo he394842 he394845 (by decide))).trans he394842
                            have he394915 : F394908 q393253 = .inr (4, [.int p394134, .ref q394136, .int p394135]) := (n394910 q393253 (rn_oo he394843 he394845 (by decide))).trans he394843
                            have he394916 : F394908 q394136 = .inl (I (.object "java/lang/Object"), n394554, .inr (.inr (.inr (.inr f394555)))) := (n394910 q394136 (rn_ao he394844 he394845)).trans he394844
                            have he394917 : F394908 q394557 = .inr (20, [.int p394570, .int p368777, .int p368777, .int p394573, .int p394574, .int p394575, .int p394576]) := e394909
                            have hs394918 : rStr γ [1] F368774 F394908 := rStr_pu2 hs394846 n394910 ht394560 (by decide)
                            have fk394919 : rFk [1] γ F368774 F394908 := rFk_put fk394847 n394910 ht394560 (by decide)
                            obtain ⟨z394920, hz394920⟩ : ∃ z : Int32, z = g394119 + Int32.ofInt 1 := ⟨_, rfl⟩
                            have ez394920 : z394920.toInt = g394119.toInt + 1 := gI_inc hz394920 (by decide) bg394119'' (by decide) (by decide)
                            have bz394920 : gB z394920 1 1000000 := ⟨by omega, by omega⟩
                            refine G_iinc (L' := [(5, .int z394920), (6, .ref q394557), (4, .ref q393244), (3, .int g393184), (0, .ref q368775), (1, .int p368776), (2, .int p368777)]) z394920 1 dr_cX17_rename_138 rfl hz394920.symm (Nat.le_of_ble_eq_true rfl) rfl ?_
                            refine G_goto 20 dr_cX17_rename_141 (by decide +kernel) ?_
                            have hT394921 : RS D I P368773 F394908 γ el := RS_set hT394848 n394910 ht394560 (by decide) ⟨p394570, p368777, p368777, p394573, p394574, p394575, p394576, he394917, bp394570, bp368777, bp394574, bp394575, bp394576, r394577, (Or.inr bp368777), r394579, r394580, r394581⟩
                            have of394922 : ∀ b, b ≠ q394557 → F394908 b = F394120 b := fun b hb => (n394910 b hb).trans (n394838 b hb)
                            refine G_lv (L' := [(5, .int z394920), (4, .ref q393244), (3, .int g393184), (0, .ref q368775), (1, .int p368776), (2, .int p368777)]) [0, 2, 3, 4, 5, 6] rfl ?_
                            exact ih20_394124 F394908 z394920 (gB_w bz394920 (by decide) (by decide)) hT394921 hs394918 (fun N hv hu hp => rPl_put hT394121 htq368775 rfl (x394123 N hv hu hp) of394922 hp394582 nb394585 hL394583 (fun _ _ _ _ z => z) (rNx_ren he394569 he394917 hu hv (Or.inr rfl) (Or.inl rfl) (Or.inr ⟨rfl, by first | assumption | omega⟩) (by rw [← hp394582]; exact x394123 N hv hu hp _ nb394585 _ hL394583))) fk394919 (mz_up ez394920 (Int.le_trans bg394119''.2 (by decide)) hm20_394124)
                      · have r394923 : p394573.toInt = p368776.toInt := gC_eq hc394891
                        have bp394573' : gB p394573 0 1999 := ⟨by omega, by omega⟩
                        refine G_aload 0 dr_cX17_rename_109 rfl ?_
                        refine G_iload_n 6 dr_cX17_rename_111 rfl ?_
                        refine Gp_put 3 hm394568 he394845 dr_cX17_rename_112 (gk_X15 D I) (Nat.le_of_ble_eq_true rfl) wr_9_190 rfl rfl rfl (Nat.le_of_ble_eq_true rfl) (fun F394924 e394925 n394926 => ?_)
                        have he394927 : F394924 q368775 = .inr (18, [.ref q393195, .ref q393196, .int p393197, .int p393198]) := (n394926 q368775 (rn_oo he394839 he394845 (by decide))).trans he394839
                        have he394928 : F394924 q393195 = .inr (4, [.int p393225, .ref q393227, .int p393226]) := (n394926 q393195 (rn_oo he394840 he394845 (by decide))).trans he394840
                        have he394929 : F394924 q393227 = .inl (I (.object "java/lang/Object"), n393241, .inr (.inr (.inr (.inr f393242)))) := (n394926 q393227 (rn_ao he394841 he394845)).trans he394841
                        have he394930 : F394924 q393244 = .inr (17, [.ref q393253, .ref q393254, .int p393255, .int p393256]) := (n394926 q393244 (rn_oo he394842 he394845 (by decide))).trans he394842
                        have he394931 : F394924 q393253 = .inr (4, [.int p394134, .ref q394136, .int p394135]) := (n394926 q393253 (rn_oo he394843 he394845 (by decide))).trans he394843
                        have he394932 : F394924 q394136 = .inl (I (.object "java/lang/Object"), n394554, .inr (.inr (.inr (.inr f394555)))) := (n394926 q394136 (rn_ao he394844 he394845)).trans he394844
                        have he394933 : F394924 q394557 = .inr (20, [.int p394570, .int p394571, .int p368777, .int p368777, .int p394574, .int p394575, .int p394576]) := e394925
                        have hs394934 : rStr γ [1] F368774 F394924 := rStr_pu2 hs394846 n394926 ht394560 (by decide)
                        have fk394935 : rFk [1] γ F368774 F394924 := rFk_put fk394847 n394926 ht394560 (by decide)
                        refine G_aload 0 dr_cX17_rename_115 rfl ?_
                        have hT394936 : RS D I P368773 F394924 γ el := RS_set hT394848 n394926 ht394560 (by decide) ⟨p394570, p394571, p368777, p368777, p394574, p394575, p394576, he394933, bp394570, bp394571, bp394574, bp394575, bp394576, r394577, (Or.inr bp368777), (Or.inr bp368777), r394580, r394581⟩
                        have of394937 : ∀ b, b ≠ q394557 → F394924 b = F394120 b := fun b hb => (n394926 b hb).trans (n394838 b hb)
                        refine Gw_callV (As := []) (gV_ok D I) (cp_1660_Row_sets l hl0 D I P368773 F394924 q394557 p394570 p394571 p368777 p368777 p394574 p394575 p394576 hm394568 he394933 bp394570 bp394571 bp394574 bp394575 bp394576) dr_cX17_rename_117 ⟨wr_10_181, wr_1_39, wr_10_184, by decide, rfl, (Nat.le_of_ble_eq_true rfl), (Nat.le_of_ble_eq_true rfl)⟩ wr_10_182 wr_10_183 hm394568 he394933 rfl (show 0 + 0 ≤ 0 by first | omega | decide) (show 0 + 0 ≤ 0 by first | omega | decide) (Nat.le_of_ble_eq_true rfl) (fun r394941 w394942 dc394938 ds394939 hp394940 => ?_) (fun _ _ _ _ _ z => z.elim)
                        obtain ⟨o394943, rfl, rfl, hdc, hds, bo394943, ht394944⟩ := hp394940
                        change G _ _ _ _ _ _ _ (.int o394943 :: _) _ _ _
                        refine G_widen (cs' := 0) (sl' := 0) (by omega) (by omega) ?_
                        refine G_if_eq 138 dr_cX17_rename_120 (by decide +kernel) (fun hc394945 => ?_) (fun hc394945 => ?_)
                        · have r394946 : o394943.toInt = 0 := gj_eq hc394945 (show Int32.toInt 0 = 0 by decide)
                          have bo394943' : gB o394943 0 0 := gB_t0 r394946
                          obtain ⟨z394947, hz394947⟩ : ∃ z : Int32, z = g394119 + Int32.ofInt 1 := ⟨_, rfl⟩
                          have ez394947 : z394947.toInt = g394119.toInt + 1 := gI_inc hz394947 (by decide) bg394119'' (by decide) (by decide)
                          have bz394947 : gB z394947 1 1000000 := ⟨by omega, by omega⟩
                          refine G_iinc (L' := [(5, .int z394947), (6, .ref q394557), (4, .ref q393244), (3, .int g393184), (0, .ref q368775), (1, .int p368776), (2, .int p368777)]) z394947 1 dr_cX17_rename_138 rfl hz394947.symm (Nat.le_of_ble_eq_true rfl) rfl ?_
                          refine G_goto 20 dr_cX17_rename_141 (by decide +kernel) ?_
                          refine G_lv (L' := [(5, .int z394947), (4, .ref q393244), (3, .int g393184), (0, .ref q368775), (1, .int p368776), (2, .int p368777)]) [0, 2, 3, 4, 5, 6] rfl ?_
                          exact ih20_394124 F394924 z394947 (gB_w bz394947 (by decide) (by decide)) hT394936 hs394934 (fun N hv hu hp => rPl_put hT394121 htq368775 rfl (x394123 N hv hu hp) of394937 hp394582 nb394585 hL394583 (fun _ _ _ _ z => z) (rNx_ren he394569 he394933 hu hv (Or.inr rfl) (Or.inr rfl) (Or.inl rfl) (by rw [← hp394582]; exact x394123 N hv hu hp _ nb394585 _ hL394583))) fk394935 (mz_up ez394947 (Int.le_trans bg394119''.2 (by decide)) hm20_394124)
                        · have r394948 : o394943.toInt ≠ 0 := gj_neq hc394945 (show Int32.toInt 0 = 0 by decide)
                          have bo394943' : gB o394943 1 1 := gB_t1 bo394943 r394948
                          refine G_aload 0 dr_cX17_rename_123 rfl ?_
                          refine Gp_get 1 hm394568 he394933 dr_cX17_rename_125 (gk_X15 D I) (Nat.le_of_ble_eq_true rfl) wr_9_182 rfl ?_
                          refine G_iload_n 5 dr_cX17_rename_128 rfl ?_
                          refine G_icmp_ne 138 dr_cX17_rename_129 (by decide +kernel) (fun hc394949 => ?_) (fun hc394949 => ?_)
                          · have r394950 : p394571.toInt ≠ p368776.toInt := gC_ne hc394949
                            obtain ⟨z394951, hz394951⟩ : ∃ z : Int32, z = g394119 + Int32.ofInt 1 := ⟨_, rfl⟩
                            have ez394951 : z394951.toInt = g394119.toInt + 1 := gI_inc hz394951 (by decide) bg394119'' (by decide) (by decide)
                            have bz394951 : gB z394951 1 1000000 := ⟨by omega, by omega⟩
                            refine G_iinc (L' := [(5, .int z394951), (6, .ref q394557), (4, .ref q393244), (3, .int g393184), (0, .ref q368775), (1, .int p368776), (2, .int p368777)]) z394951 1 dr_cX17_rename_138 rfl hz394951.symm (Nat.le_of_ble_eq_true rfl) rfl ?_
                            refine G_goto 20 dr_cX17_rename_141 (by decide +kernel) ?_
                            refine G_lv (L' := [(5, .int z394951), (4, .ref q393244), (3, .int g393184), (0, .ref q368775), (1, .int p368776), (2, .int p368777)]) [0, 2, 3, 4, 5, 6] rfl ?_
                            exact ih20_394124 F394924 z394951 (gB_w bz394951 (by decide) (by decide)) hT394936 hs394934 (fun N hv hu hp => rPl_put hT394121 htq368775 rfl (x394123 N hv hu hp) of394937 hp394582 nb394585 hL394583 (fun _ _ _ _ z => z) (rNx_ren he394569 he394933 hu hv (Or.inr rfl) (Or.inr rfl) (Or.inl rfl) (by rw [← hp394582]; exact x394123 N hv hu hp _ nb394585 _ hL394583))) fk394935 (mz_up ez394951 (Int.le_trans bg394119''.2 (by decide)) hm20_394124)
                          · have r394952 : p394571.toInt = p368776.toInt := gC_eq hc394949
                            refine G_aload 0 dr_cX17_rename_132 rfl ?_
                            refine G_iload_n 6 dr_cX17_rename_134 rfl ?_
                            refine Gp_put 1 hm394568 he394933 dr_cX17_rename_135 (gk_X15 D I) (Nat.le_of_ble_eq_true rfl) wr_9_182 rfl rfl rfl (Nat.le_of_ble_eq_true rfl) (fun F394953 e394954 n394955 => ?_)
                            have he394956 : F394953 q368775 = .inr (18, [.ref q393195, .ref q393196, .int p393197, .int p393198]) := (n394955 q368775 (rn_oo he394927 he394933 (by decide))).trans he394927
                            have he394957 : F394953 q393195 = .inr (4, [.int p393225, .ref q393227, .int p393226]) := (n394955 q393195 (rn_oo he394928 he394933 (by decide))).trans he394928
                            have he394958 : F394953 q393227 = .inl (I (.object "java/lang/Object"), n393241, .inr (.inr (.inr (.inr f393242)))) := (n394955 q393227 (rn_ao he394929 he394933)).trans he394929
                            have he394959 : F394953 q393244 = .inr (17, [.ref q393253, .ref q393254, .int p393255, .int p393256]) := (n394955 q393244 (rn_oo he394930 he394933 (by decide))).trans he394930
                            have he394960 : F394953 q393253 = .inr (4, [.int p394134, .ref q394136, .int p394135]) := (n394955 q393253 (rn_oo he394931 he394933 (by decide))).trans he394931
                            have he394961 : F394953 q394136 = .inl (I (.object "java/lang/Object"), n394554, .inr (.inr (.inr (.inr f394555)))) := (n394955 q394136 (rn_ao he394932 he394933)).trans he394932
                            have he394962 : F394953 q394557 = .inr (20, [.int p394570, .int p368777, .int p368777, .int p368777, .int p394574, .int p394575, .int p394576]) := e394954
                            have hs394963 : rStr γ [1] F368774 F394953 := rStr_pu2 hs394934 n394955 ht394560 (by decide)
                            have fk394964 : rFk [1] γ F368774 F394953 := rFk_put fk394935 n394955 ht394560 (by decide)
                            obtain ⟨z394965, hz394965⟩ : ∃ z : Int32, z = g394119 + Int32.ofInt 1 := ⟨_, rfl⟩
                            have ez394965 : z394965.toInt = g394119.toInt + 1 := gI_inc hz394965 (by decide) bg394119'' (by decide) (by decide)
                            have bz394965 : gB z394965 1 1000000 := ⟨by omega, by omega⟩
                            refine G_iinc (L' := [(5, .int z394965), (6, .ref q394557), (4, .ref q393244), (3, .int g393184), (0, .ref q368775), (1, .int p368776), (2, .int p368777)]) z394965 1 dr_cX17_rename_138 rfl hz394965.symm (Nat.le_of_ble_eq_true rfl) rfl ?_
                            refine G_goto 20 dr_cX17_rename_141 (by decide +kernel) ?_
                            have hT394966 : RS D I P368773 F394953 γ el := RS_set hT394936 n394955 ht394560 (by decide) ⟨p394570, p368777, p368777, p368777, p394574, p394575, p394576, he394962, bp394570, bp368777, bp394574, bp394575, bp394576, r394577, (Or.inr bp368777), (Or.inr bp368777), r394580, r394581⟩
                            have of394967 : ∀ b, b ≠ q394557 → F394953 b = F394120 b := fun b hb => (n394955 b hb).trans (of394937 b hb)
                            refine G_lv (L' := [(5, .int z394965), (4, .ref q393244), (3, .int g393184), (0, .ref q368775), (1, .int p368776), (2, .int p368777)]) [0, 2, 3, 4, 5, 6] rfl ?_
                            exact ih20_394124 F394953 z394965 (gB_w bz394965 (by decide) (by decide)) hT394966 hs394963 (fun N hv hu hp => rPl_put hT394121 htq368775 rfl (x394123 N hv hu hp) of394967 hp394582 nb394585 hL394583 (fun _ _ _ _ z => z) (rNx_ren he394569 he394962 hu hv (Or.inr rfl) (Or.inr rfl) (Or.inr ⟨rfl, by first | assumption | omega⟩) (by rw [← hp394582]; exact x394123 N hv hu hp _ nb394585 _ hL394583))) fk394964 (mz_up ez394965 (Int.le_trans bg394119''.2 (by decide)) hm20_394124)
        exact hlp20_394124 (((1000002 : Int) - 0).toNat + 1) F393185 0 (gB_w (gBl (show Int32.toInt 0 = 0 by decide)) (by decide) (by decide)) hT393186 hs393187 x393188 x393189 (Nat.lt_succ_self _)
  exact hlp2_393189 (((1000001 : Int) - 0).toNat + 1) F368774 0 (gB_w (gBl (show Int32.toInt 0 = 0 by decide)) (by decide) (by decide)) hT (rStr_rf (γ := γ) (W := [1]) (F := F368774)) (fun N _ _ h => h) (rFk_rf) (Nat.lt_succ_self _)
