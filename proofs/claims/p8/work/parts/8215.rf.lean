theorem dr_cX14_init_0 : decode cX14_init 0 = .ok (.aload_n 0, 1) := by decide +kernel
theorem dr_cX14_init_1 : decode cX14_init 1 = .ok (.invokespecial 3, 3) := by decide +kernel
theorem wr_7_213 : (Jvm.Cond.methodLink "SpillForgeModel$Reader" (3 : Nat) ({ cls := "java/lang/Object", name := "<init>", desc := "()V" } : Jvm.MethodName)) ∈ gw := gw_7 213 rfl rfl
theorem dr_cX14_init_4 : decode cX14_init 4 = .ok (.aload_n 0, 1) := by decide +kernel
theorem dr_cX14_init_5 : decode cX14_init 5 = .ok (.ldc 9, 2) := by decide +kernel
theorem dr_cX14_init_7 : decode cX14_init 7 = .ok (.putfield 11, 3) := by decide +kernel
theorem dr_cX14_init_10 : decode cX14_init 10 = .ok (.aload_n 0, 1) := by decide +kernel
theorem dr_cX14_init_11 : decode cX14_init 11 = .ok (.iconst (-1), 1) := by decide +kernel
theorem dr_cX14_init_12 : decode cX14_init 12 = .ok (.putfield 17, 3) := by decide +kernel
theorem dr_cX14_init_15 : decode cX14_init 15 = .ok (.aload_n 0, 1) := by decide +kernel
theorem dr_cX14_init_16 : decode cX14_init 16 = .ok (.bipush 16, 2) := by decide +kernel
theorem dr_cX14_init_18 : decode cX14_init 18 = .ok (.newarray .int, 2) := by decide +kernel
theorem dr_cX14_init_20 : decode cX14_init 20 = .ok (.putfield 21, 3) := by decide +kernel
theorem dr_cX14_init_23 : decode cX14_init 23 = .ok (.aload_n 0, 1) := by decide +kernel
theorem dr_cX14_init_24 : decode cX14_init 24 = .ok (.bipush 16, 2) := by decide +kernel
theorem dr_cX14_init_26 : decode cX14_init 26 = .ok (.newarray .int, 2) := by decide +kernel
theorem dr_cX14_init_28 : decode cX14_init 28 = .ok (.putfield 25, 3) := by decide +kernel
theorem dr_cX14_init_31 : decode cX14_init 31 = .ok (.aload_n 0, 1) := by decide +kernel
theorem dr_cX14_init_32 : decode cX14_init 32 = .ok (.aload_n 1, 1) := by decide +kernel
theorem dr_cX14_init_33 : decode cX14_init 33 = .ok (.putfield 28, 3) := by decide +kernel
theorem dr_cX14_init_36 : decode cX14_init 36 = .ok (.aload_n 0, 1) := by decide +kernel
theorem dr_cX14_init_37 : decode cX14_init 37 = .ok (.iload_n 2, 1) := by decide +kernel
theorem dr_cX14_init_38 : decode cX14_init 38 = .ok (.putfield 32, 3) := by decide +kernel
theorem dr_cX14_init_41 : decode cX14_init 41 = .ok (.aload_n 0, 1) := by decide +kernel
theorem dr_cX14_init_42 : decode cX14_init 42 = .ok (.invokevirtual 35, 3) := by decide +kernel
theorem dr_cX14_init_45 : decode cX14_init 45 = .ok (.return_, 1) := by decide +kernel
abbrev ky_676150_Reader_init : gKey := (cX14_init, 3, "SpillForgeModel$Reader", none, [], "<init>", fun _ _ => True)
def pp_676150_Reader_init (D : va_G) (I : FieldType → ClassId) (P676144 : List Nat) (F676145 : Nat → va_E) (q676146 : Nat) (q676147 : Nat) (p676148 : Int32) (f676149 : Nat → Int32) : Option Value → va_W → Nat → Nat → Prop := fun r w dc ds => ∃ (P676269 : List Nat) (F676270 : Nat → va_E) (o676262 : Int32) (o676263 : Int32) (o676264 : Int32) (o676265 : Int32) (q676266 : Nat) (q676267 : Nat) (q676268 : Nat) (xt676271 : gTx), r = none ∧ w = va_pl P676269 F676270 ∧ rSub P676144 P676269 ∧ rFr [q676146] P676144 F676145 F676270 ∧ F676270 q676267 = .inl (I .int, 16, .inl (fun _ => 0)) ∧ F676270 q676268 = .inl (I .int, 16, .inl (fun _ => 0)) ∧ F676270 q676146 = .inr (19, [.ref q676147, .int p676148, .int o676262, .int o676263, .int o676264, .int o676265, .int 0, .ref q676266, .int (-1), .int 0, .int 0, .ref q676267, .ref q676268, .int 0]) ∧ F676270 q676147 = .inl (I .byte, 8192, .inl f676149) ∧ q676267 ∈ P676269 ∧ q676267 ∉ P676144 ∧ q676268 ∈ P676269 ∧ q676268 ∉ P676144 ∧ dc ≤ (16 * o676262.toInt : Int).toNat + 2 ∧ ds ≤ (160 * o676262.toInt : Int).toNat + 32 ∧ gB o676262 0 8192 ∧ gB o676263 0 6 ∧ gB o676264 0 8192 ∧ 0 ≤ o676262.toInt ∧ o676262.toInt ≤ p676148.toInt ∧ p676148.toInt = p676148.toInt ∧ tP I P676269 F676270 o676263 q676266 q676268 q676267 xt676271 ∧ vP o676263 o676265 ∧ q676268 ≠ q676267 ∧ (16 : Int) = 16 ∧ (16 : Int) = 16 ∧ glP (fun _ => 0) ∧ 0 = 0 ∧ (-1) = -1 ∧ 0 = 0 ∧ tr_RReader_init p676148 f676149 o676262 o676263 o676264 o676265 xt676271
set_option maxRecDepth 100000 in
set_option maxHeartbeats 4000000 in
theorem cp_676150_Reader_init (l : Launch) (hl0 : l.stackTraces = false) (D : va_G) (I : FieldType → ClassId) (P676144 : List Nat) (F676145 : Nat → va_E) (q676146 : Nat) (q676147 : Nat) (p676148 : Int32) (f676149 : Nat → Int32) (hmq676146 : q676146 ∈ P676144) (hmq676147 : q676147 ∈ P676144) (heq676146 : F676145 q676146 = .inr (19, [.null, .int 0, .int 0, .int 0, .int 0, .int 0, .int 0, .null, .int 0, .int 0, .int 0, .null, .null, .int 0])) (heq676147 : F676145 q676147 = .inl (I .byte, 8192, .inl f676149)) (bp676148 : gB p676148 0 8192) (bf676149 : gF f676149 (-128) 127) : CtA (gV D I) l yX14_init cX14_init 3 none 8 177 ((16 * p676148.toInt : Int).toNat + 2) ((160 * p676148.toInt : Int).toNat + 32) [.ref q676146, .ref q676147, .int p676148] (va_pl P676144 F676145) (pp_676150_Reader_init D I P676144 F676145 q676146 q676147 p676148 f676149) gNA := by
  refine CtA_of hl0 (by decide) (Nat.le_of_ble_eq_true rfl) ?_
  refine G_aload_n 0 dr_cX14_init_0 rfl ?_
  refine G_obj dr_cX14_init_1 wr_7_213 wr_1_51 wr_1_52 (Nat.le_of_ble_eq_true rfl) (Nat.le_of_ble_eq_true rfl) ?_
  refine G_aload_n 0 dr_cX14_init_4 rfl ?_
  refine G_ldcK (a := D.2 1000 32) dr_cX14_init_5 (fun _ _ _ h => gx_vk 32 rfl rfl h) ?_
  have hl32_676150 : (sb_32.length : Int) = 0 := rfl
  refine Gp_put 7 hmq676146 heq676146 dr_cX14_init_7 (gk_X14 D I) (Nat.le_of_ble_eq_true rfl) wr_9_43 rfl rfl rfl (Nat.le_of_ble_eq_true rfl) (fun F676152 e676153 n676154 => ?_)
  have he676155 : F676152 q676147 = .inl (I .byte, 8192, .inl f676149) := (n676154 q676147 (rn_ao heq676147 heq676146)).trans heq676147
  have he676156 : F676152 q676146 = .inr (19, [.null, .int 0, .int 0, .int 0, .int 0, .int 0, .int 0, .ref (D.2 1000 32), .int 0, .int 0, .int 0, .null, .null, .int 0]) := e676153
  have hfr676157 : rFr [q676146] P676144 F676145 F676152 := rFr_put (rFr_rf (W := []) (P := P676144) (F := F676145)) n676154
  refine G_aload_n 0 dr_cX14_init_10 rfl ?_
  refine G_iconst (-1) dr_cX14_init_11 (by decide +kernel) ?_
  refine Gp_put 8 hmq676146 he676156 dr_cX14_init_12 (gk_X14 D I) (Nat.le_of_ble_eq_true rfl) wr_9_44 rfl rfl rfl (Nat.le_of_ble_eq_true rfl) (fun F676158 e676159 n676160 => ?_)
  have he676161 : F676158 q676147 = .inl (I .byte, 8192, .inl f676149) := (n676160 q676147 (rn_ao he676155 he676156)).trans he676155
  have he676162 : F676158 q676146 = .inr (19, [.null, .int 0, .int 0, .int 0, .int 0, .int 0, .int 0, .ref (D.2 1000 32), .int (-1), .int 0, .int 0, .null, .null, .int 0]) := e676159
  have hfr676163 : rFr [q676146] P676144 F676145 F676158 := rFr_put' List.mem_cons_self hfr676157 n676160
  refine G_aload_n 0 dr_cX14_init_15 rfl ?_
  refine G_bipush 16 dr_cX14_init_16 (by decide +kernel) ?_
  refine G_newa 0 (16, .inl (fun _ => 0)) dr_cX14_init_18 rfl rfl (by intro C h; cases h) wr_1_95 (fun _ => ga_int _ _) (by decide) (by decide) (by decide) (show 0 + 1 ≤ ((16 * p676148.toInt : Int).toNat + 2) by first | omega | decide) (show 0 + 16 ≤ ((160 * p676148.toInt : Int).toNat + 32) by first | omega | decide) (fun q676164 => Gp_in (fun P676165 F676166 hq676167 hP676168 e676169 n676170 => ?_))
  refine G_widen (cs' := 1) (sl' := 16) (by omega) (by omega) ?_
  have he676171 : F676166 q676146 = .inr (19, [.null, .int 0, .int 0, .int 0, .int 0, .int 0, .int 0, .ref (D.2 1000 32), .int (-1), .int 0, .int 0, .null, .null, .int 0]) := (n676170 q676146 (fun h => hq676167 (h ▸ hmq676146))).trans he676162
  have he676172 : F676166 q676147 = .inl (I .byte, 8192, .inl f676149) := (n676170 q676147 (fun h => hq676167 (h ▸ hmq676147))).trans he676161
  have he676173 : F676166 q676164 = .inl (I .int, 16, .inl (fun _ => 0)) := e676169
  have hm676174 : q676146 ∈ P676165 := (hP676168 q676146).mpr (Or.inl hmq676146)
  have hm676175 : q676147 ∈ P676165 := (hP676168 q676147).mpr (Or.inl hmq676147)
  have hm676176 : q676164 ∈ P676165 := (hP676168 q676164).mpr (Or.inr rfl)
  have hq676177 : q676164 ∉ P676144 := fun z => hq676167 ((rSub_rf (P := P676144)) q676164 z)
  have hfr676178 : rFr [q676146] P676144 F676145 F676166 := rFr_new (rSub_rf (P := P676144)) hq676167 hfr676163 n676170
  have hsb676179 : rSub P676144 P676165 := rSub_new (rSub_rf (P := P676144)) hP676168
  refine Gp_put 11 hm676174 he676171 dr_cX14_init_20 (gk_X14 D I) (Nat.le_of_ble_eq_true rfl) wr_9_49 rfl rfl rfl (Nat.le_of_ble_eq_true rfl) (fun F676180 e676181 n676182 => ?_)
  have he676183 : F676180 q676147 = .inl (I .byte, 8192, .inl f676149) := (n676182 q676147 (rn_ao he676172 he676171)).trans he676172
  have he676184 : F676180 q676164 = .inl (I .int, 16, .inl (fun _ => 0)) := (n676182 q676164 (fun h => hq676177 (h ▸ hmq676146))).trans he676173
  have he676185 : F676180 q676146 = .inr (19, [.null, .int 0, .int 0, .int 0, .int 0, .int 0, .int 0, .ref (D.2 1000 32), .int (-1), .int 0, .int 0, .ref q676164, .null, .int 0]) := e676181
  have hfr676186 : rFr [q676146] P676144 F676145 F676180 := rFr_put' List.mem_cons_self hfr676178 n676182
  refine G_aload_n 0 dr_cX14_init_23 rfl ?_
  refine G_bipush 16 dr_cX14_init_24 (by decide +kernel) ?_
  refine G_newa 0 (16, .inl (fun _ => 0)) dr_cX14_init_26 rfl rfl (by intro C h; cases h) wr_1_95 (fun _ => ga_int _ _) (by decide) (by decide) (by decide) (show 1 + 1 ≤ ((16 * p676148.toInt : Int).toNat + 2) by first | omega | decide) (show 16 + 16 ≤ ((160 * p676148.toInt : Int).toNat + 32) by first | omega | decide) (fun q676187 => Gp_in (fun P676188 F676189 hq676190 hP676191 e676192 n676193 => ?_))
  refine G_widen (cs' := 2) (sl' := 32) (by omega) (by omega) ?_
  have he676194 : F676189 q676146 = .inr (19, [.null, .int 0, .int 0, .int 0, .int 0, .int 0, .int 0, .ref (D.2 1000 32), .int (-1), .int 0, .int 0, .ref q676164, .null, .int 0]) := (n676193 q676146 (fun h => hq676190 (h ▸ hm676174))).trans he676185
  have he676195 : F676189 q676147 = .inl (I .byte, 8192, .inl f676149) := (n676193 q676147 (fun h => hq676190 (h ▸ hm676175))).trans he676183
  have he676196 : F676189 q676164 = .inl (I .int, 16, .inl (fun _ => 0)) := (n676193 q676164 (fun h => hq676190 (h ▸ hm676176))).trans he676184
  have he676197 : F676189 q676187 = .inl (I .int, 16, .inl (fun _ => 0)) := e676192
  have hm676198 : q676146 ∈ P676188 := (hP676191 q676146).mpr (Or.inl hm676174)
  have hm676199 : q676147 ∈ P676188 := (hP676191 q676147).mpr (Or.inl hm676175)
  have hm676200 : q676164 ∈ P676188 := (hP676191 q676164).mpr (Or.inl hm676176)
  have hm676201 : q676187 ∈ P676188 := (hP676191 q676187).mpr (Or.inr rfl)
  have hq676202 : q676187 ∉ P676144 := fun z => hq676190 (hsb676179 q676187 z)
  have hfr676203 : rFr [q676146] P676144 F676145 F676189 := rFr_new hsb676179 hq676190 hfr676186 n676193
  have hsb676204 : rSub P676144 P676188 := rSub_new hsb676179 hP676191
  have hne676205 : q676164 ≠ q676187 := fun h => hq676190 (h ▸ hm676176)
  refine Gp_put 12 hm676198 he676194 dr_cX14_init_28 (gk_X14 D I) (Nat.le_of_ble_eq_true rfl) wr_9_50 rfl rfl rfl (Nat.le_of_ble_eq_true rfl) (fun F676206 e676207 n676208 => ?_)
  have he676209 : F676206 q676147 = .inl (I .byte, 8192, .inl f676149) := (n676208 q676147 (rn_ao he676195 he676194)).trans he676195
  have he676210 : F676206 q676164 = .inl (I .int, 16, .inl (fun _ => 0)) := (n676208 q676164 (fun h => hq676177 (h ▸ hmq676146))).trans he676196
  have he676211 : F676206 q676187 = .inl (I .int, 16, .inl (fun _ => 0)) := (n676208 q676187 (fun h => hq676202 (h ▸ hmq676146))).trans he676197
  have he676212 : F676206 q676146 = .inr (19, [.null, .int 0, .int 0, .int 0, .int 0, .int 0, .int 0, .ref (D.2 1000 32), .int (-1), .int 0, .int 0, .ref q676164, .ref q676187, .int 0]) := e676207
  have hfr676213 : rFr [q676146] P676144 F676145 F676206 := rFr_put' List.mem_cons_self hfr676203 n676208
  refine G_aload_n 0 dr_cX14_init_31 rfl ?_
  refine G_aload_n 1 dr_cX14_init_32 rfl ?_
  refine Gp_putF 0 hm676198 he676212 dr_cX14_init_33 (gk_X14 D I) (Nat.le_of_ble_eq_true rfl) wr_9_36 rfl rfl rfl rfl rfl (Nat.le_of_ble_eq_true rfl) (fun F676214 e676215 n676216 => ?_)
  have he676217 : F676214 q676147 = .inl (I .byte, 8192, .inl f676149) := (n676216 q676147 (rn_ao he676209 he676212)).trans he676209
  have he676218 : F676214 q676164 = .inl (I .int, 16, .inl (fun _ => 0)) := (n676216 q676164 (fun h => hq676177 (h ▸ hmq676146))).trans he676210
  have he676219 : F676214 q676187 = .inl (I .int, 16, .inl (fun _ => 0)) := (n676216 q676187 (fun h => hq676202 (h ▸ hmq676146))).trans he676211
  have he676220 : F676214 q676146 = .inr (19, [.ref q676147, .int 0, .int 0, .int 0, .int 0, .int 0, .int 0, .ref (D.2 1000 32), .int (-1), .int 0, .int 0, .ref q676164, .ref q676187, .int 0]) := e676215
  have hfr676221 : rFr [q676146] P676144 F676145 F676214 := rFr_put' List.mem_cons_self hfr676213 n676216
  refine G_aload_n 0 dr_cX14_init_36 rfl ?_
  refine G_iload_n 2 dr_cX14_init_37 rfl ?_
  refine Gp_putF 1 hm676198 he676220 dr_cX14_init_38 (gk_X14 D I) (Nat.le_of_ble_eq_true rfl) wr_9_37 rfl rfl rfl rfl rfl (Nat.le_of_ble_eq_true rfl) (fun F676222 e676223 n676224 => ?_)
  have he676225 : F676222 q676147 = .inl (I .byte, 8192, .inl f676149) := (n676224 q676147 (rn_ao he676217 he676220)).trans he676217
  have he676226 : F676222 q676164 = .inl (I .int, 16, .inl (fun _ => 0)) := (n676224 q676164 (fun h => hq676177 (h ▸ hmq676146))).trans he676218
  have he676227 : F676222 q676187 = .inl (I .int, 16, .inl (fun _ => 0)) := (n676224 q676187 (fun h => hq676202 (h ▸ hmq676146))).trans he676219
  have he676228 : F676222 q676146 = .inr (19, [.ref q676147, .int p676148, .int 0, .int 0, .int 0, .int 0, .int 0, .ref (D.2 1000 32), .int (-1), .int 0, .int 0, .ref q676164, .ref q676187, .int 0]) := e676223
  have hfr676229 : rFr [q676146] P676144 F676145 F676222 := rFr_put' List.mem_cons_self hfr676221 n676224
  refine G_aload_n 0 dr_cX14_init_41 rfl ?_
  refine Gw_callV (As := []) (gV_ok D I) (cp_671599_Reader_next l hl0 D I P676188 F676222 q676146 q676147 p676148 0 0 0 0 0 (D.2 1000 32) (-1) 0 0 q676164 q676187 0 f676149 hm676198 hm676199 he676228 he676225 bp676148 (gB_w (gBl (show Int32.toInt 0 = 0 by decide)) (by decide) (by decide)) (gB_w (gBl (show Int32.toInt 0 = 0 by decide)) (by decide) (by decide)) (gB_w (gBl (show Int32.toInt 0 = 0 by decide)) (by decide) (by decide)) (gB_w (gBl (show Int32.toInt 0 = 0 by decide)) (by decide) (by decide)) (gB_w (gBl (show Int32.toInt (-1) = (-1) by decide)) (by decide) (by decide)) (gB_w (gBl (show Int32.toInt 0 = 0 by decide)) (by decide) (by decide)) (gB_w (gBl (show Int32.toInt 0 = 0 by decide)) (by decide) (by decide)) (gB_w (gBl (show Int32.toInt 0 = 0 by decide)) (by decide) (by decide)) bf676149 (by have qa0 : Int32.toInt (-1) = (-1) := (by decide); have qa1 : Int32.toInt 0 = 0 := (by decide); omega) hm676201 hm676200) dr_cX14_init_42 ⟨wr_7_215, wr_1_32, wr_7_218, by decide, rfl, (Nat.le_of_ble_eq_true rfl), (Nat.le_of_ble_eq_true rfl)⟩ wr_7_217 wr_p_75 hm676198 he676228 rfl (show 2 + ((16 * (p676148.toInt - 0)).toNat) ≤ ((16 * p676148.toInt : Int).toNat + 2) by first | omega | decide) (show 32 + ((160 * (p676148.toInt - 0)).toNat) ≤ ((160 * p676148.toInt : Int).toNat + 32) by first | omega | decide) (Nat.le_of_ble_eq_true rfl) (fun r676233 w676234 dc676230 ds676231 hp676232 => ?_) (fun _ _ _ _ _ z => z.elim)
  obtain ⟨P676247, F676248, o676235, o676236, o676237, o676238, q676239, xt676246, rfl, rfl, hsb676249, hfr676250, he676251, he676252, hdc, hds, bo676235, bo676236, bo676237, x676240, x676241, x676242, x676243, x676244, ht676245⟩ := hp676232
  have hm676253 : q676146 ∈ P676247 := hsb676249 q676146 hm676198
  have hm676254 : q676147 ∈ P676247 := hsb676249 q676147 hm676199
  have hm676255 : q676164 ∈ P676247 := hsb676249 q676164 hm676200
  have hm676256 : q676187 ∈ P676247 := hsb676249 q676187 hm676201
  have hsb676257 : rSub P676144 P676247 := rSub_tr hsb676204 hsb676249
  have he676258 : F676248 q676164 = .inl (I .int, 16, .inl (fun _ => 0)) := (hfr676250 q676164 hm676200 (nm_c (fun h => hq676177 (h ▸ hmq676146)) nm_n)).trans he676226
  have he676259 : F676248 q676187 = .inl (I .int, 16, .inl (fun _ => 0)) := (hfr676250 q676187 hm676201 (nm_c (fun h => hq676202 (h ▸ hmq676146)) nm_n)).trans he676227
  have hfr676260 : rFr [q676146] P676144 F676145 F676248 := rFr_call hsb676204 hfr676229 hfr676250 (fun b hb hn => ⟨(nm_c (fun e => hn (e ▸ List.mem_cons_self)) nm_n), (nm_c (fun e => hn (e ▸ List.mem_cons_self)) nm_n)⟩)
  have bo676238 := gB_any o676238
  rw [show Int32.toInt 0 = 0 from by decide] at x676240
  change G _ _ _ _ _ _ _ _ _ _ _
  have qz676261 : Int32.toInt 0 = 0 := by decide
  refine G_widen (cs' := 2 + ((16 * (o676235.toInt - 0)).toNat)) (sl' := 32 + ((160 * (o676235.toInt - 0)).toNat)) (by omega) (by omega) ?_
  exact G_vretA dr_cX14_init_45 rfl (show 2 + ((16 * (o676235.toInt - 0)).toNat) ≤ ((16 * p676148.toInt : Int).toNat + 2) by omega) (show 32 + ((160 * (o676235.toInt - 0)).toNat) ≤ ((160 * p676148.toInt : Int).toNat + 32) by omega) ⟨P676247, F676248, o676235, o676236, o676237, o676238, q676239, q676164, q676187, xt676246, rfl, rfl, hsb676257, hfr676260, he676258, he676259, he676251, he676252, hm676255, hq676177, hm676256, hq676202, (by omega), (by omega), bo676235, bo676236, bo676237, (by have qa0 : Int32.toInt (-1) = (-1) := (by decide); have qa1 : Int32.toInt 0 = 0 := (by decide); omega), (by have qa0 : Int32.toInt (-1) = (-1) := (by decide); have qa1 : Int32.toInt 0 = 0 := (by decide); omega), (by have qa0 : Int32.toInt (-1) = (-1) := (by decide); have qa1 : Int32.toInt 0 = 0 := (by decide); omega), x676243, x676244, (Ne.symm hne676205), (by have qa0 : Int32.toInt (-1) = (-1) := (by decide); have qa1 : Int32.toInt 0 = 0 := (by decide); omega), (by have qa0 : Int32.toInt (-1) = (-1) := (by decide); have qa1 : Int32.toInt 0 = 0 := (by decide); omega), glP_0, (by have qa0 : Int32.toInt (-1) = (-1) := (by decide); have qa1 : Int32.toInt 0 = 0 := (by decide); omega), (by have qa0 : Int32.toInt (-1) = (-1) := (by decide); have qa1 : Int32.toInt 0 = 0 := (by decide); omega), (by have qa0 : Int32.toInt (-1) = (-1) := (by decide); have qa1 : Int32.toInt 0 = 0 := (by decide); omega), (fun R c1 => c1 xt676246 o676235 o676236 o676237 o676238 bo676235 bo676236 bo676237 ht676245)⟩
