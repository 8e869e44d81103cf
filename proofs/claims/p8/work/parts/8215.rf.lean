theorem dr_cX14_init_0 : decode cX14_init 0 = .ok (.aload_n 0, 1) := by decide +kernel
theorem dr_cX14_init_1 : decode cX14_init 1 = .ok (.invokespecial 3, 3) := by decide +kernel
theorem wr_7_213 : (Jvm.Cond.methodLink "SpillForgeModel$Reader" (3 : Nat) ({ cls := "java/lang/Object", name := "<init>", desc := "()V" } : Jvm.MethodName)) ∈ gw := gw_7 213 rfl rfl
theorem dr_cX14_init_4 : decode cX14_init 4 = .ok (.aload_n 0, 1) := by decide +kernel
theorem dr_cX14_init_5 : decode cX14_init 5 = .ok (.ldc 9, 2) := by decide +kernel
theorem dr_cX14_init_7 : decode cX14_init 7 = .ok (.putfield 11, 3) := by decide +kernel
theorem dr_cX14_init_10 : decode cX14_init 10 = .ok (.aload_n 0, 1) := by decide +kernel
theorem dr_cX14_init_11 : decode cX14_init 11 = .ok (.iconst (-1), 1) := by decide +kernel
theorem dr_cX14_init_12 : decode cX14_init 12 = .ok (.putfield 17, 3) := by decide +kernel
theorem dr_cX14_init_15 : decode cX14_init 15 = .ok (.aload_n 0, 1) := by decide +kernel
theorem dr_cX14_init_16 : decode cX14_init 16 = .ok (.bipush 16, 2) := by decide +kernel
theorem dr_cX14_init_18 : decode cX14_init 18 = .ok (.newarray .int, 2) := by decide +kernel
theorem dr_cX14_init_20 : decode cX14_init 20 = .ok (.putfield 21, 3) := by decide +kernel
theorem dr_cX14_init_23 : decode cX14_init 23 = .ok (.aload_n 0, 1) := by decide +kernel
theorem dr_cX14_init_24 : decode cX14_init 24 = .ok (.bipush 16, 2) := by decide +kernel
theorem dr_cX14_init_26 : decode cX14_init 26 = .ok (.newarray .int, 2) := by decide +kernel
theorem dr_cX14_init_28 : decode cX14_init 28 = .ok (.putfield 25, 3) := by decide +kernel
theorem dr_cX14_init_31 : decode cX14_init 31 = .ok (.aload_n 0, 1) := by decide +kernel
theorem dr_cX14_init_32 : decode cX14_init 32 = .ok (.aload_n 1, 1) := by decide +kernel
theorem dr_cX14_init_33 : decode cX14_init 33 = .ok (.putfield 28, 3) := by decide +kernel
theorem dr_cX14_init_36 : decode cX14_init 36 = .ok (.aload_n 0, 1) := by decide +kernel
theorem dr_cX14_init_37 : decode cX14_init 37 = .ok (.iload_n 2, 1) := by decide +kernel
theorem dr_cX14_init_38 : decode cX14_init 38 = .ok (.putfield 32, 3) := by decide +kernel
theorem dr_cX14_init_41 : decode cX14_init 41 = .ok (.aload_n 0, 1) := by decide +kernel
theorem dr_cX14_init_42 : decode cX14_init 42 = .ok (.invokevirtual 35, 3) := by decide +kernel
theorem dr_cX14_init_45 : decode cX14_init 45 = .ok (.return_, 1) := by decide +kernel
abbrev ky_674176_Reader_init : gKey := (cX14_init, 3, "SpillForgeModel$Reader", none, [], "<init>", fun _ _ => True)
def pp_674176_Reader_init (D : va_G) (I : FieldType → ClassId) (P674170 : List Nat) (F674171 : Nat → va_E) (q674172 : Nat) (q674173 : Nat) (p674174 : Int32) (f674175 : Nat → Int32) : Option Value → va_W → Nat → Nat → Prop := fun r w dc ds => ∃ (P674295 : List Nat) (F674296 : Nat → va_E) (o674288 : Int32) (o674289 : Int32) (o674290 : Int32) (o674291 : Int32) (q674292 : Nat) (q674293 : Nat) (q674294 : Nat) (xt674297 : gTx), r = none ∧ w = va_pl P674295 F674296 ∧ rSub P674170 P674295 ∧ rFr [q674172] P674170 F674171 F674296 ∧ F674296 q674293 = .inl (I .int, 16, .inl (fun _ => 0)) ∧ F674296 q674294 = .inl (I .int, 16, .inl (fun _ => 0)) ∧ F674296 q674172 = .inr (19, [.ref q674173, .int p674174, .int o674288, .int o674289, .int o674290, .int o674291, .int 0, .ref q674292, .int (-1), .int 0, .int 0, .ref q674293, .ref q674294, .int 0]) ∧ F674296 q674173 = .inl (I .byte, 8192, .inl f674175) ∧ q674293 ∈ P674295 ∧ q674293 ∉ P674170 ∧ q674294 ∈ P674295 ∧ q674294 ∉ P674170 ∧ dc ≤ (16 * o674288.toInt : Int).toNat + 2 ∧ ds ≤ (160 * o674288.toInt : Int).toNat + 32 ∧ gB o674288 0 8192 ∧ gB o674289 0 6 ∧ gB o674290 0 8192 ∧ 0 ≤ o674288.toInt ∧ o674288.toInt ≤ p674174.toInt ∧ p674174.toInt = p674174.toInt ∧ tP I P674295 F674296 o674289 q674292 q674294 q674293 xt674297 ∧ vP o674289 o674291 ∧ q674294 ≠ q674293 ∧ (16 : Int) = 16 ∧ (16 : Int) = 16 ∧ glP (fun _ => 0) ∧ 0 = 0 ∧ (-1) = -1 ∧ 0 = 0 ∧ tr_RReader_init p674174 f674175 o674288 o674289 o674290 o674291 xt674297
set_option maxRecDepth 100000 in
set_option maxHeartbeats 4000000 in
theorem cp_674176_Reader_init (l : Launch) (hl0 : l.stackTraces = false) (D : va_G) (I : FieldType → ClassId) (P674170 : List Nat) (F674171 : Nat → va_E) (q674172 : Nat) (q674173 : Nat) (p674174 : Int32) (f674175 : Nat → Int32) (hmq674172 : q674172 ∈ P674170) (hmq674173 : q674173 ∈ P674170) (heq674172 : F674171 q674172 = .inr (19, [.null, .int 0, .int 0, .int 0, .int 0, .int 0, .int 0, .null, .int 0, .int 0, .int 0, .null, .null, .int 0])) (heq674173 : F674171 q674173 = .inl (I .byte, 8192, .inl f674175)) (bp674174 : gB p674174 0 8192) (bf674175 : gF f674175 (-128) 127) : CtA (gV D I) l yX14_init cX14_init 3 none 8 177 ((16 * p674174.toInt : Int).toNat + 2) ((160 * p674174.toInt : Int).toNat + 32) [.ref q674172, .ref q674173, .int p674174] (va_pl P674170 F674171) (pp_674176_Reader_init D I P674170 F674171 q674172 q674173 p674174 f674175) gNA := by
  refine CtA_of hl0 (by decide) (Nat.le_of_ble_eq_true rfl) ?_
  refine G_aload_n 0 dr_cX14_init_0 rfl ?_
  refine G_obj dr_cX14_init_1 wr_7_213 wr_1_51 wr_1_52 (Nat.le_of_ble_eq_true rfl) (Nat.le_of_ble_eq_true rfl) ?_
  refine G_aload_n 0 dr_cX14_init_4 rfl ?_
  refine G_ldcK (a := D.2 1000 32) dr_cX14_init_5 (fun _ _ _ h => gx_vk 32 rfl rfl h) ?_
  have hl32_674176 : (sb_32.length : Int) = 0 := rfl
  refine Gp_put 7 hmq674172 heq674172 dr_cX14_init_7 (gk_X14 D I) (Nat.le_of_ble_eq_true rfl) wr_9_43 rfl rfl rfl (Nat.le_of_ble_eq_true rfl) (fun F674178 e674179 n674180 => ?_)
  have he674181 : F674178 q674173 = .inl (I .byte, 8192, .inl f674175) := (n674180 q674173 (rn_ao heq674173 heq674172)).trans heq674173
  have he674182 : F674178 q674172 = .inr (19, [.null, .int 0, .int 0, .int 0, .int 0, .int 0, .int 0, .ref (D.2 1000 32), .int 0, .int 0, .int 0, .null, .null, .int 0]) := e674179
  have hfr674183 : rFr [q674172] P674170 F674171 F674178 := rFr_put (rFr_rf (W := []) (P := P674170) (F := F674171)) n674180
  refine G_aload_n 0 dr_cX14_init_10 rfl ?_
  refine G_iconst (-1) dr_cX14_init_11 (by decide +kernel) ?_
  refine Gp_put 8 hmq674172 he674182 dr_cX14_init_12 (gk_X14 D I) (Nat.le_of_ble_eq_true rfl) wr_9_44 rfl rfl rfl (Nat.le_of_ble_eq_true rfl) (fun F674184 e674185 n674186 => ?_)
  have he674187 : F674184 q674173 = .inl (I .byte, 8192, .inl f674175) := (n674186 q674173 (rn_ao he674181 he674182)).trans he674181
  have he674188 : F674184 q674172 = .inr (19, [.null, .int 0, .int 0, .int 0, .int 0, .int 0, .int 0, .ref (D.2 1000 32), .int (-1), .int 0, .int 0, .null, .null, .int 0]) := e674185
  have hfr674189 : rFr [q674172] P674170 F674171 F674184 := rFr_put' List.mem_cons_self hfr674183 n674186
  refine G_aload_n 0 dr_cX14_init_15 rfl ?_
  refine G_bipush 16 dr_cX14_init_16 (by decide +kernel) ?_
  refine G_newa 0 (16, .inl (fun _ => 0)) dr_cX14_init_18 rfl rfl (by intro C h; cases h) wr_1_95 (fun _ => ga_int _ _) (by decide) (by decide) (by decide) (show 0 + 1 ≤ ((16 * p674174.toInt : Int).toNat + 2) by first | omega | decide) (show 0 + 16 ≤ ((160 * p674174.toInt : Int).toNat + 32) by first | omega | decide) (fun q674190 => Gp_in (fun P674191 F674192 hq674193 hP674194 e674195 n674196 => ?_))
  refine G_widen (cs' := 1) (sl' := 16) (by omega) (by omega) ?_
  have he674197 : F674192 q674172 = .inr (19, [.null, .int 0, .int 0, .int 0, .int 0, .int 0, .int 0, .ref (D.2 1000 32), .int (-1), .int 0, .int 0, .null, .null, .int 0]) := (n674196 q674172 (fun h => hq674193 (h ▸ hmq674172))).trans he674188
  have he674198 : F674192 q674173 = .inl (I .byte, 8192, .inl f674175) := (n674196 q674173 (fun h => hq674193 (h ▸ hmq674173))).trans he674187
  have he674199 : F674192 q674190 = .inl (I .int, 16, .inl (fun _ => 0)) := e674195
  have hm674200 : q674172 ∈ P674191 := (hP674194 q674172).mpr (Or.inl hmq674172)
  have hm674201 : q674173 ∈ P674191 := (hP674194 q674173).mpr (Or.inl hmq674173)
  have hm674202 : q674190 ∈ P674191 := (hP674194 q674190).mpr (Or.inr rfl)
  have hq674203 : q674190 ∉ P674170 := fun z => hq674193 ((rSub_rf (P := P674170)) q674190 z)
  have hfr674204 : rFr [q674172] P674170 F674171 F674192 := rFr_new (rSub_rf (P := P674170)) hq674193 hfr674189 n674196
  have hsb674205 : rSub P674170 P674191 := rSub_new (rSub_rf (P := P674170)) hP674194
  refine Gp_put 11 hm674200 he674197 dr_cX14_init_20 (gk_X14 D I) (Nat.le_of_ble_eq_true rfl) wr_9_49 rfl rfl rfl (Nat.le_of_ble_eq_true rfl) (fun F674206 e674207 n674208 => ?_)
  have he674209 : F674206 q674173 = .inl (I .byte, 8192, .inl f674175) := (n674208 q674173 (rn_ao he674198 he674197)).trans he674198
  have he674210 : F674206 q674190 = .inl (I .int, 16, .inl (fun _ => 0)) := (n674208 q674190 (fun h => hq674203 (h ▸ hmq674172))).trans he674199
  have he674211 : F674206 q674172 = .inr (19, [.null, .int 0, .int 0, .int 0, .int 0, .int 0, .int 0, .ref (D.2 1000 32), .int (-1), .int 0, .int 0, .ref q674190, .null, .int 0]) := e674207
  have hfr674212 : rFr [q674172] P674170 F674171 F674206 := rFr_put' List.mem_cons_self hfr674204 n674208
  refine G_aload_n 0 dr_cX14_init_23 rfl ?_
  refine G_bipush 16 dr_cX14_init_24 (by decide +kernel) ?_
  refine G_newa 0 (16, .inl (fun _ => 0)) dr_cX14_init_26 rfl rfl (by intro C h; cases h) wr_1_95 (fun _ => ga_int _ _) (by decide) (by decide) (by decide) (show 1 + 1 ≤ ((16 * p674174.toInt : Int).toNat + 2) by first | omega | decide) (show 16 + 16 ≤ ((160 * p674174.toInt : Int).toNat + 32) by first | omega | decide) (fun q674213 => Gp_in (fun P674214 F674215 hq674216 hP674217 e674218 n674219 => ?_))
  refine G_widen (cs' := 2) (sl' := 32) (by omega) (by omega) ?_
  have he674220 : F674215 q674172 = .inr (19, [.null, .int 0, .int 0, .int 0, .int 0, .int 0, .int 0, .ref (D.2 1000 32), .int (-1), .int 0, .int 0, .ref q674190, .null, .int 0]) := (n674219 q674172 (fun h => hq674216 (h ▸ hm674200))).trans he674211
  have he674221 : F674215 q674173 = .inl (I .byte, 8192, .inl f674175) := (n674219 q674173 (fun h => hq674216 (h ▸ hm674201))).trans he674209
  have he674222 : F674215 q674190 = .inl (I .int, 16, .inl (fun _ => 0)) := (n674219 q674190 (fun h => hq674216 (h ▸ hm674202))).trans he674210
  have he674223 : F674215 q674213 = .inl (I .int, 16, .inl (fun _ => 0)) := e674218
  have hm674224 : q674172 ∈ P674214 := (hP674217 q674172).mpr (Or.inl hm674200)
  have hm674225 : q674173 ∈ P674214 := (hP674217 q674173).mpr (Or.inl hm674201)
  have hm674226 : q674190 ∈ P674214 := (hP674217 q674190).mpr (Or.inl hm674202)
  have hm674227 : q674213 ∈ P674214 := (hP674217 q674213).mpr (Or.inr rfl)
  have hq674228 : q674213 ∉ P674170 := fun z => hq674216 (hsb674205 q674213 z)
  have hfr674229 : rFr [q674172] P674170 F674171 F674215 := rFr_new hsb674205 hq674216 hfr674212 n674219
  have hsb674230 : rSub P674170 P674214 := rSub_new hsb674205 hP674217
  have hne674231 : q674190 ≠ q674213 := fun h => hq674216 (h ▸ hm674202)
  refine Gp_put 12 hm674224 he674220 dr_cX14_init_28 (gk_X14 D I) (Nat.le_of_ble_eq_true rfl) wr_9_50 rfl rfl rfl (Nat.le_of_ble_eq_true rfl) (fun F674232 e674233 n674234 => ?_)
  have he674235 : F674232 q674173 = .inl (I .byte, 8192, .inl f674175) := (n674234 q674173 (rn_ao he674221 he674220)).trans he674221
  have he674236 : F674232 q674190 = .inl (I .int, 16, .inl (fun _ => 0)) := (n674234 q674190 (fun h => hq674203 (h ▸ hmq674172))).trans he674222
  have he674237 : F674232 q674213 = .inl (I .int, 16, .inl (fun _ => 0)) := (n674234 q674213 (fun h => hq674228 (h ▸ hmq674172))).trans he674223
  have he674238 : F674232 q674172 = .inr (19, [.null, .int 0, .int 0, .int 0, .int 0, .int 0, .int 0, .ref (D.2 1000 32), .int (-1), .int 0, .int 0, .ref q674190, .ref q674213, .int 0]) := e674233
  have hfr674239 : rFr [q674172] P674170 F674171 F674232 := rFr_put' List.mem_cons_self hfr674229 n674234
  refine G_aload_n 0 dr_cX14_init_31 rfl ?_
  refine G_aload_n 1 dr_cX14_init_32 rfl ?_
  refine Gp_putF 0 hm674224 he674238 dr_cX14_init_33 (gk_X14 D I) (Nat.le_of_ble_eq_true rfl) wr_9_36 rfl rfl rfl rfl rfl (Nat.le_of_ble_eq_true rfl) (fun F674240 e674241 n674242 => ?_)
  have he674243 : F674240 q674173 = .inl (I .byte, 8192, .inl f674175) := (n674242 q674173 (rn_ao he674235 he674238)).trans he674235
  have he674244 : F674240 q674190 = .inl (I .int, 16, .inl (fun _ => 0)) := (n674242 q674190 (fun h => hq674203 (h ▸ hmq674172))).trans he674236
  have he674245 : F674240 q674213 = .inl (I .int, 16, .inl (fun _ => 0)) := (n674242 q674213 (fun h => hq674228 (h ▸ hmq674172))).trans he674237
  have he674246 : F674240 q674172 = .inr (19, [.ref q674173, .int 0, .int 0, .int 0, .int 0, .int 0, .int 0, .ref (D.2 1000 32), .int (-1), .int 0, .int 0, .ref q674190, .ref q674213, .int 0]) := e674241
  have hfr674247 : rFr [q674172] P674170 F674171 F674240 := rFr_put' List.mem_cons_self hfr674239 n674242
  refine G_aload_n 0 dr_cX14_init_36 rfl ?_
  refine G_iload_n 2 dr_cX14_init_37 rfl ?_
  refine Gp_putF 1 hm674224 he674246 dr_cX14_init_38 (gk_X14 D I) (Nat.le_of_ble_eq_true rfl) wr_9_37 rfl rfl rfl rfl rfl (Nat.le_of_ble_eq_true rfl) (fun F674248 e674249 n674250 => ?_)
  have he674251 : F674248 q674173 = .inl (I .byte, 8192, .inl f674175) := (n674250 q674173 (rn_ao he674243 he674246)).trans he674243
  have he674252 : F674248 q674190 = .inl (I .int, 16, .inl (fun _ => 0)) := (n674250 q674190 (fun h => hq674203 (h ▸ hmq674172))).trans he674244
  have he674253 : F674248 q674213 = .inl (I .int, 16, .inl (fun _ => 0)) := (n674250 q674213 (fun h => hq674228 (h ▸ hmq674172))).trans he674245
  have he674254 : F674248 q674172 = .inr (19, [.ref q674173, .int p674174, .int 0, .int 0, .int 0, .int 0, .int 0, .ref (D.2 1000 32), .int (-1), .int 0, .int 0, .ref q674190, .ref q674213, .int 0]) := e674249
  have hfr674255 : rFr [q674172] P674170 F674171 F674248 := rFr_put' List.mem_cons_self hfr674247 n674250
  refine G_aload_n 0 dr_cX14_init_41 rfl ?_
  refine Gw_callV (As := []) (gV_ok D I) (cp_669625_Reader_next l hl0 D I P674214 F674248 q674172 q674173 p674174 0 0 0 0 0 (D.2 1000 32) (-1) 0 0 q674190 q674213 0 f674175 hm674224 hm674225 he674254 he674251 bp674174 (gB_w (gBl (show Int32.toInt 0 = 0 by decide)) (by decide) (by decide)) (gB_w (gBl (show Int32.toInt 0 = 0 by decide)) (by decide) (by decide)) (gB_w (gBl (show Int32.toInt 0 = 0 by decide)) (by decide) (by decide)) (gB_w (gBl (show Int32.toInt 0 = 0 by decide)) (by decide) (by decide)) (gB_w (gBl (show Int32.toInt (-1) = (-1) by decide)) (by decide) (by decide)) (gB_w (gBl (show Int32.toInt 0 = 0 by decide)) (by decide) (by decide)) (gB_w (gBl (show Int32.toInt 0 = 0 by decide)) (by decide) (by decide)) (gB_w (gBl (show Int32.toInt 0 = 0 by decide)) (by decide) (by decide)) bf674175 (by have qa0 : Int32.toInt (-1) = (-1) := (by decide); have qa1 : Int32.toInt 0 = 0 := (by decide); omega) hm674227 hm674226) dr_cX14_init_42 ⟨wr_7_215, wr_1_32, wr_7_218, by decide, rfl, (Nat.le_of_ble_eq_true rfl), (Nat.le_of_ble_eq_true rfl)⟩ wr_7_217 wr_p_75 hm674224 he674254 rfl (show 2 + ((16 * (p674174.toInt - 0)).toNat) ≤ ((16 * p674174.toInt : Int).toNat + 2) by first | omega | decide) (show 32 + ((160 * (p674174.toInt - 0)).toNat) ≤ ((160 * p674174.toInt : Int).toNat + 32) by first | omega | decide) (Nat.le_of_ble_eq_true rfl) (fun r674259 w674260 dc674256 ds674257 hp674258 => ?_) (fun _ _ _ _ _ z => z.elim)
  obtain ⟨P674273, F674274, o674261, o674262, o674263, o674264, q674265, xt674272, rfl, rfl, hsb674275, hfr674276, he674277, he674278, hdc, hds, bo674261, bo674262, bo674263, x674266, x674267, x674268, x674269, x674270, ht674271⟩ := hp674258
  have hm674279 : q674172 ∈ P674273 := hsb674275 q674172 hm674224
  have hm674280 : q674173 ∈ P674273 := hsb674275 q674173 hm674225
  have hm674281 : q674190 ∈ P674273 := hsb674275 q674190 hm674226
  have hm674282 : q674213 ∈ P674273 := hsb674275 q674213 hm674227
  have hsb674283 : rSub P674170 P674273 := rSub_tr hsb674230 hsb674275
  have he674284 : F674274 q674190 = .inl (I .int, 16, .inl (fun _ => 0)) := (hfr674276 q674190 hm674226 (nm_c (fun h => hq674203 (h ▸ hmq674172)) nm_n)).trans he674252
  have he674285 : F674274 q674213 = .inl (I .int, 16, .inl (fun _ => 0)) := (hfr674276 q674213 hm674227 (nm_c (fun h => hq674228 (h ▸ hmq674172)) nm_n)).trans he674253
  have hfr674286 : rFr [q674172] P674170 F674171 F674274 := rFr_call hsb674230 hfr674255 hfr674276 (fun b hb hn => ⟨(nm_c (fun e => hn (e ▸ List.mem_cons_self)) nm_n), (nm_c (fun e => hn (e ▸ List.mem_cons_self)) nm_n)⟩)
  have bo674264 := gB_any o674264
  rw [show Int32.toInt 0 = 0 from by decide] at x674266
  change G _ _ _ _ _ _ _ _ _ _ _
  have qz674287 : Int32.toInt 0 = 0 := by decide
  refine G_widen (cs' := 2 + ((16 * (o674261.toInt - 0)).toNat)) (sl' := 32 + ((160 * (o674261.toInt - 0)).toNat)) (by omega) (by omega) ?_
  exact G_vretA dr_cX14_init_45 rfl (show 2 + ((16 * (o674261.toInt - 0)).toNat) ≤ ((16 * p674174.toInt : Int).toNat + 2) by omega) (show 32 + ((160 * (o674261.toInt - 0)).toNat) ≤ ((160 * p674174.toInt : Int).toNat + 32) by omega) ⟨P674273, F674274, o674261, o674262, o674263, o674264, q674265, q674190, q674213, xt674272, rfl, rfl, hsb674283, hfr674286, he674284, he674285, he674277, he674278, hm674281, hq674203, hm674282, hq674228, (by omega), (by omega), bo674261, bo674262, bo674263, (by have qa0 : Int32.toInt (-1) = (-1) := (by decide); have qa1 : Int32.toInt 0 = 0 := (by decide); omega), (by have qa0 : Int32.toInt (-1) = (-1) := (by decide); have qa1 : Int32.toInt 0 = 0 := (by decide); omega), (by have qa0 : Int32.toInt (-1) = (-1) := (by decide); have qa1 : Int32.toInt 0 = 0 := (by decide); omega), x674269, x674270, (Ne.symm hne674231), (by have qa0 : Int32.toInt (-1) = (-1) := (by decide); have qa1 : Int32.toInt 0 = 0 := (by decide); omega), (by have qa0 : Int32.toInt (-1) = (-1) := (by decide); have qa1 : Int32.toInt 0 = 0 := (by decide); omega), glP_0, (by have qa0 : Int32.toInt (-1) = (-1) := (by decide); have qa1 : Int32.toInt 0 = 0 := (by decide); omega), (by have qa0 : Int32.toInt (-1) = (-1) := (by decide); have qa1 : Int32.toInt 0 = 0 := (by decide); omega), (by have qa0 : Int32.toInt (-1) = (-1) := (by decide); have qa1 : Int32.toInt 0 = 0 := (by decide); omega), (fun R c1 => c1 xt674272 o674261 o674262 o674263 o674264 bo674261 bo674262 bo674263 ht674271)⟩
