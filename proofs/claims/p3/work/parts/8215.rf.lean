theorem dr_cX14_init_0 : decode cX14_init 0 = .ok (.aload_n 0, 1) := by decide +kernel
theorem dr_cX14_init_1 : decode cX14_init 1 = .ok (.invokespecial 3, 3) := by decide +kernel
theorem wr_7_213 : (Jvm.Cond.methodLink "SpillForgeModel$Reader" (3 : Nat) ({ cls := "java/lang/Object", name := "<init>", desc := "()V" } : Jvm.MethodName)) ∈ gw := gw_7 213 rfl rfl
theorem dr_cX14_init_4 : decode cX14_init 4 = .ok (.aload_n 0, 1) := by decide +kernel
theorem dr_cX14_init_5 : decode cX14_init 5 = .ok (.ldc 9, 2) := by decide +kernel
theorem dr_cX14_init_7 : decode cX14_init 7 = .ok (.putfield 11, 3) := by decide +kernel
theorem dr_cX14_init_10 : decode cX14_init 10 = .ok (.aload_n 0, 1) := by decide +kernel
theorem dr_cX14_init_11 : decode cX14_init 11 = .ok (.iconst (-1), 1) := by decide +kernel
theorem dr_cX14_init_12 : decode cX14_init 12 = .ok (.putfield 17, 3) := by decide +kernel
theorem dr_cX14_init_15 : decode cX14_init 15 = .ok (.aload_n 0, 1) := by decide +kernel
theorem dr_cX14_init_16 : decode cX14_init 16 = .ok (.bipush 16, 2) := by decide +kernel
theorem dr_cX14_init_18 : decode cX14_init 18 = .ok (.newarray .int, 2) := by decide +kernel
theorem dr_cX14_init_20 : decode cX14_init 20 = .ok (.putfield 21, 3) := by decide +kernel
theorem dr_cX14_init_23 : decode cX14_init 23 = .ok (.aload_n 0, 1) := by decide +kernel
theorem dr_cX14_init_24 : decode cX14_init 24 = .ok (.bipush 16, 2) := by decide +kernel
theorem dr_cX14_init_26 : decode cX14_init 26 = .ok (.newarray .int, 2) := by decide +kernel
theorem dr_cX14_init_28 : decode cX14_init 28 = .ok (.putfield 25, 3) := by decide +kernel
theorem dr_cX14_init_31 : decode cX14_init 31 = .ok (.aload_n 0, 1) := by decide +kernel
theorem dr_cX14_init_32 : decode cX14_init 32 = .ok (.aload_n 1, 1) := by decide +kernel
theorem dr_cX14_init_33 : decode cX14_init 33 = .ok (.putfield 28, 3) := by decide +kernel
theorem dr_cX14_init_36 : decode cX14_init 36 = .ok (.aload_n 0, 1) := by decide +kernel
theorem dr_cX14_init_37 : decode cX14_init 37 = .ok (.iload_n 2, 1) := by decide +kernel
theorem dr_cX14_init_38 : decode cX14_init 38 = .ok (.putfield 32, 3) := by decide +kernel
theorem dr_cX14_init_41 : decode cX14_init 41 = .ok (.aload_n 0, 1) := by decide +kernel
theorem dr_cX14_init_42 : decode cX14_init 42 = .ok (.invokevirtual 35, 3) := by decide +kernel
theorem dr_cX14_init_45 : decode cX14_init 45 = .ok (.return_, 1) := by decide +kernel
abbrev ky_658110_Reader_init : gKey := (cX14_init, 3, "SpillForgeModel$Reader", none, [], "<init>", fun _ _ => True)
def pp_658110_Reader_init (D : va_G) (I : FieldType → ClassId) (P658104 : List Nat) (F658105 : Nat → va_E) (q658106 : Nat) (q658107 : Nat) (p658108 : Int32) (f658109 : Nat → Int32) : Option Value → va_W → Nat → Nat → Prop := fun r w dc ds => ∃ (P658227 : List Nat) (F658228 : Nat → va_E) (o658220 : Int32) (o658221 : Int32) (o658222 : Int32) (o658223 : Int32) (q658224 : Nat) (q658225 : Nat) (q658226 : Nat), r = none ∧ w = va_pl P658227 F658228 ∧ rSub P658104 P658227 ∧ rFr [q658106] P658104 F658105 F658228 ∧ F658228 q658225 = .inl (I .int, 16, .inl (fun _ => 0)) ∧ F658228 q658226 = .inl (I .int, 16, .inl (fun _ => 0)) ∧ F658228 q658106 = .inr (19, [.ref q658107, .int p658108, .int o658220, .int o658221, .int o658222, .int o658223, .int 0, .ref q658224, .int (-1), .int 0, .int 0, .ref q658225, .ref q658226, .int 0]) ∧ F658228 q658107 = .inl (I .byte, 8192, .inl f658109) ∧ q658225 ∈ P658227 ∧ q658225 ∉ P658104 ∧ q658226 ∈ P658227 ∧ q658226 ∉ P658104 ∧ dc ≤ (16 * o658220.toInt : Int).toNat + 2 ∧ ds ≤ (160 * o658220.toInt : Int).toNat + 32 ∧ gB o658220 0 8192 ∧ gB o658221 0 6 ∧ gB o658222 0 8192 ∧ 0 ≤ o658220.toInt ∧ o658220.toInt ≤ p658108.toInt ∧ p658108.toInt = p658108.toInt ∧ tP I P658227 F658228 o658221 q658224 q658226 q658225 ∧ vP o658221 o658223 ∧ q658226 ≠ q658225 ∧ (16 : Int) = 16 ∧ (16 : Int) = 16 ∧ glP (fun _ => 0) ∧ 0 = 0 ∧ (-1) = -1 ∧ 0 = 0
set_option maxRecDepth 100000 in
set_option maxHeartbeats 4000000 in
theorem cp_658110_Reader_init (l : Launch) (hl0 : l.stackTraces = false) (D : va_G) (I : FieldType → ClassId) (P658104 : List Nat) (F658105 : Nat → va_E) (q658106 : Nat) (q658107 : Nat) (p658108 : Int32) (f658109 : Nat → Int32) (hmq658106 : q658106 ∈ P658104) (hmq658107 : q658107 ∈ P658104) (heq658106 : F658105 q658106 = .inr (19, [.null, .int 0, .int 0, .int 0, .int 0, .int 0, .int 0, .null, .int 0, .int 0, .int 0, .null, .null, .int 0])) (heq658107 : F658105 q658107 = .inl (I .byte, 8192, .inl f658109)) (bp658108 : gB p658108 0 8192) (bf658109 : gF f658109 (-128) 127) : CtA (gV D I) l yX14_init cX14_init 3 none 8 177 ((16 * p658108.toInt : Int).toNat + 2) ((160 * p658108.toInt : Int).toNat + 32) [.ref q658106, .ref q658107, .int p658108] (va_pl P658104 F658105) (pp_658110_Reader_init D I P658104 F658105 q658106 q658107 p658108 f658109) gNA := by
  refine CtA_of hl0 (by decide) (Nat.le_of_ble_eq_true rfl) ?_
  refine G_aload_n 0 dr_cX14_init_0 rfl ?_
  refine G_obj dr_cX14_init_1 wr_7_213 wr_1_51 wr_1_52 (Nat.le_of_ble_eq_true rfl) (Nat.le_of_ble_eq_true rfl) ?_
  refine G_aload_n 0 dr_cX14_init_4 rfl ?_
  refine G_ldcK (a := D.2 1000 32) dr_cX14_init_5 (fun _ _ _ h => gx_vk 32 rfl rfl h) ?_
  have hl32_658110 : (sb_32.length : Int) = 0 := rfl
  refine Gp_put 7 hmq658106 heq658106 dr_cX14_init_7 (gk_X14 D I) (Nat.le_of_ble_eq_true rfl) wr_9_43 rfl rfl rfl (Nat.le_of_ble_eq_true rfl) (fun F658112 e658113 n658114 => ?_)
  have he658115 : F658112 q658107 = .inl (I .byte, 8192, .inl f658109) := (n658114 q658107 (rn_ao heq658107 heq658106)).trans heq658107
  have he658116 : F658112 q658106 = .inr (19, [.null, .int 0, .int 0, .int 0, .int 0, .int 0, .int 0, .ref (D.2 1000 32), .int 0, .int 0, .int 0, .null, .null, .int 0]) := e658113
  have hfr658117 : rFr [q658106] P658104 F658105 F658112 := rFr_put (rFr_rf (W := []) (P := P658104) (F := F658105)) n658114
  refine G_aload_n 0 dr_cX14_init_10 rfl ?_
  refine G_iconst (-1) dr_cX14_init_11 (by decide +kernel) ?_
  refine Gp_put 8 hmq658106 he658116 dr_cX14_init_12 (gk_X14 D I) (Nat.le_of_ble_eq_true rfl) wr_9_44 rfl rfl rfl (Nat.le_of_ble_eq_true rfl) (fun F658118 e658119 n658120 => ?_)
  have he658121 : F658118 q658107 = .inl (I .byte, 8192, .inl f658109) := (n658120 q658107 (rn_ao he658115 he658116)).trans he658115
  have he658122 : F658118 q658106 = .inr (19, [.null, .int 0, .int 0, .int 0, .int 0, .int 0, .int 0, .ref (D.2 1000 32), .int (-1), .int 0, .int 0, .null, .null, .int 0]) := e658119
  have hfr658123 : rFr [q658106] P658104 F658105 F658118 := rFr_put' List.mem_cons_self hfr658117 n658120
  refine G_aload_n 0 dr_cX14_init_15 rfl ?_
  refine G_bipush 16 dr_cX14_init_16 (by decide +kernel) ?_
  refine G_newa 0 (16, .inl (fun _ => 0)) dr_cX14_init_18 rfl rfl (by intro C h; cases h) wr_1_95 (fun _ => ga_int _ _) (by decide) (by decide) (by decide) (show 0 + 1 ≤ ((16 * p658108.toInt : Int).toNat + 2) by first | omega | decide) (show 0 + 16 ≤ ((160 * p658108.toInt : Int).toNat + 32) by first | omega | decide) (fun q658124 => Gp_in (fun P658125 F658126 hq658127 hP658128 e658129 n658130 => ?_))
  refine G_widen (cs' := 1) (sl' := 16) (by omega) (by omega) ?_
  have he658131 : F658126 q658106 = .inr (19, [.null, .int 0, .int 0, .int 0, .int 0, .int 0, .int 0, .ref (D.2 1000 32), .int (-1), .int 0, .int 0, .null, .null, .int 0]) := (n658130 q658106 (fun h => hq658127 (h ▸ hmq658106))).trans he658122
  have he658132 : F658126 q658107 = .inl (I .byte, 8192, .inl f658109) := (n658130 q658107 (fun h => hq658127 (h ▸ hmq658107))).trans he658121
  have he658133 : F658126 q658124 = .inl (I .int, 16, .inl (fun _ => 0)) := e658129
  have hm658134 : q658106 ∈ P658125 := (hP658128 q658106).mpr (Or.inl hmq658106)
  have hm658135 : q658107 ∈ P658125 := (hP658128 q658107).mpr (Or.inl hmq658107)
  have hm658136 : q658124 ∈ P658125 := (hP658128 q658124).mpr (Or.inr rfl)
  have hq658137 : q658124 ∉ P658104 := fun z => hq658127 ((rSub_rf (P := P658104)) q658124 z)
  have hfr658138 : rFr [q658106] P658104 F658105 F658126 := rFr_new (rSub_rf (P := P658104)) hq658127 hfr658123 n658130
  have hsb658139 : rSub P658104 P658125 := rSub_new (rSub_rf (P := P658104)) hP658128
  refine Gp_put 11 hm658134 he658131 dr_cX14_init_20 (gk_X14 D I) (Nat.le_of_ble_eq_true rfl) wr_9_49 rfl rfl rfl (Nat.le_of_ble_eq_true rfl) (fun F658140 e658141 n658142 => ?_)
  have he658143 : F658140 q658107 = .inl (I .byte, 8192, .inl f658109) := (n658142 q658107 (rn_ao he658132 he658131)).trans he658132
  have he658144 : F658140 q658124 = .inl (I .int, 16, .inl (fun _ => 0)) := (n658142 q658124 (fun h => hq658137 (h ▸ hmq658106))).trans he658133
  have he658145 : F658140 q658106 = .inr (19, [.null, .int 0, .int 0, .int 0, .int 0, .int 0, .int 0, .ref (D.2 1000 32), .int (-1), .int 0, .int 0, .ref q658124, .null, .int 0]) := e658141
  have hfr658146 : rFr [q658106] P658104 F658105 F658140 := rFr_put' List.mem_cons_self hfr658138 n658142
  refine G_aload_n 0 dr_cX14_init_23 rfl ?_
  refine G_bipush 16 dr_cX14_init_24 (by decide +kernel) ?_
  refine G_newa 0 (16, .inl (fun _ => 0)) dr_cX14_init_26 rfl rfl (by intro C h; cases h) wr_1_95 (fun _ => ga_int _ _) (by decide) (by decide) (by decide) (show 1 + 1 ≤ ((16 * p658108.toInt : Int).toNat + 2) by first | omega | decide) (show 16 + 16 ≤ ((160 * p658108.toInt : Int).toNat + 32) by first | omega | decide) (fun q658147 => Gp_in (fun P658148 F658149 hq658150 hP658151 e658152 n658153 => ?_))
  refine G_widen (cs' := 2) (sl' := 32) (by omega) (by omega) ?_
  have he658154 : F658149 q658106 = .inr (19, [.null, .int 0, .int 0, .int 0, .int 0, .int 0, .int 0, .ref (D.2 1000 32), .int (-1), .int 0, .int 0, .ref q658124, .null, .int 0]) := (n658153 q658106 (fun h => hq658150 (h ▸ hm658134))).trans he658145
  have he658155 : F658149 q658107 = .inl (I .byte, 8192, .inl f658109) := (n658153 q658107 (fun h => hq658150 (h ▸ hm658135))).trans he658143
  have he658156 : F658149 q658124 = .inl (I .int, 16, .inl (fun _ => 0)) := (n658153 q658124 (fun h => hq658150 (h ▸ hm658136))).trans he658144
  have he658157 : F658149 q658147 = .inl (I .int, 16, .inl (fun _ => 0)) := e658152
  have hm658158 : q658106 ∈ P658148 := (hP658151 q658106).mpr (Or.inl hm658134)
  have hm658159 : q658107 ∈ P658148 := (hP658151 q658107).mpr (Or.inl hm658135)
  have hm658160 : q658124 ∈ P658148 := (hP658151 q658124).mpr (Or.inl hm658136)
  have hm658161 : q658147 ∈ P658148 := (hP658151 q658147).mpr (Or.inr rfl)
  have hq658162 : q658147 ∉ P658104 := fun z => hq658150 (hsb658139 q658147 z)
  have hfr658163 : rFr [q658106] P658104 F658105 F658149 := rFr_new hsb658139 hq658150 hfr658146 n658153
  have hsb658164 : rSub P658104 P658148 := rSub_new hsb658139 hP658151
  have hne658165 : q658124 ≠ q658147 := fun h => hq658150 (h ▸ hm658136)
  refine Gp_put 12 hm658158 he658154 dr_cX14_init_28 (gk_X14 D I) (Nat.le_of_ble_eq_true rfl) wr_9_50 rfl rfl rfl (Nat.le_of_ble_eq_true rfl) (fun F658166 e658167 n658168 => ?_)
  have he658169 : F658166 q658107 = .inl (I .byte, 8192, .inl f658109) := (n658168 q658107 (rn_ao he658155 he658154)).trans he658155
  have he658170 : F658166 q658124 = .inl (I .int, 16, .inl (fun _ => 0)) := (n658168 q658124 (fun h => hq658137 (h ▸ hmq658106))).trans he658156
  have he658171 : F658166 q658147 = .inl (I .int, 16, .inl (fun _ => 0)) := (n658168 q658147 (fun h => hq658162 (h ▸ hmq658106))).trans he658157
  have he658172 : F658166 q658106 = .inr (19, [.null, .int 0, .int 0, .int 0, .int 0, .int 0, .int 0, .ref (D.2 1000 32), .int (-1), .int 0, .int 0, .ref q658124, .ref q658147, .int 0]) := e658167
  have hfr658173 : rFr [q658106] P658104 F658105 F658166 := rFr_put' List.mem_cons_self hfr658163 n658168
  refine G_aload_n 0 dr_cX14_init_31 rfl ?_
  refine G_aload_n 1 dr_cX14_init_32 rfl ?_
  refine Gp_putF 0 hm658158 he658172 dr_cX14_init_33 (gk_X14 D I) (Nat.le_of_ble_eq_true rfl) wr_9_36 rfl rfl rfl rfl rfl (Nat.le_of_ble_eq_true rfl) (fun F658174 e658175 n658176 => ?_)
  have he658177 : F658174 q658107 = .inl (I .byte, 8192, .inl f658109) := (n658176 q658107 (rn_ao he658169 he658172)).trans he658169
  have he658178 : F658174 q658124 = .inl (I .int, 16, .inl (fun _ => 0)) := (n658176 q658124 (fun h => hq658137 (h ▸ hmq658106))).trans he658170
  have he658179 : F658174 q658147 = .inl (I .int, 16, .inl (fun _ => 0)) := (n658176 q658147 (fun h => hq658162 (h ▸ hmq658106))).trans he658171
  have he658180 : F658174 q658106 = .inr (19, [.ref q658107, .int 0, .int 0, .int 0, .int 0, .int 0, .int 0, .ref (D.2 1000 32), .int (-1), .int 0, .int 0, .ref q658124, .ref q658147, .int 0]) := e658175
  have hfr658181 : rFr [q658106] P658104 F658105 F658174 := rFr_put' List.mem_cons_self hfr658173 n658176
  refine G_aload_n 0 dr_cX14_init_36 rfl ?_
  refine G_iload_n 2 dr_cX14_init_37 rfl ?_
  refine Gp_putF 1 hm658158 he658180 dr_cX14_init_38 (gk_X14 D I) (Nat.le_of_ble_eq_true rfl) wr_9_37 rfl rfl rfl rfl rfl (Nat.le_of_ble_eq_true rfl) (fun F658182 e658183 n658184 => ?_)
  have he658185 : F658182 q658107 = .inl (I .byte, 8192, .inl f658109) := (n658184 q658107 (rn_ao he658177 he658180)).trans he658177
  have he658186 : F658182 q658124 = .inl (I .int, 16, .inl (fun _ => 0)) := (n658184 q658124 (fun h => hq658137 (h ▸ hmq658106))).trans he658178
  have he658187 : F658182 q658147 = .inl (I .int, 16, .inl (fun _ => 0)) := (n658184 q658147 (fun h => hq658162 (h ▸ hmq658106))).trans he658179
  have he658188 : F658182 q658106 = .inr (19, [.ref q658107, .int p658108, .int 0, .int 0, .int 0, .int 0, .int 0, .ref (D.2 1000 32), .int (-1), .int 0, .int 0, .ref q658124, .ref q658147, .int 0]) := e658183
  have hfr658189 : rFr [q658106] P658104 F658105 F658182 := rFr_put' List.mem_cons_self hfr658181 n658184
  refine G_aload_n 0 dr_cX14_init_41 rfl ?_
  refine Gw_callV (As := []) (gV_ok D I) (cp_653764_Reader_next l hl0 D I P658148 F658182 q658106 q658107 p658108 0 0 0 0 0 (D.2 1000 32) (-1) 0 0 q658124 q658147 0 f658109 hm658158 hm658159 he658188 he658185 bp658108 (gB_w (gBl (show Int32.toInt 0 = 0 by decide)) (by decide) (by decide)) (gB_w (gBl (show Int32.toInt 0 = 0 by decide)) (by decide) (by decide)) (gB_w (gBl (show Int32.toInt 0 = 0 by decide)) (by decide) (by decide)) (gB_w (gBl (show Int32.toInt 0 = 0 by decide)) (by decide) (by decide)) (gB_w (gBl (show Int32.toInt (-1) = (-1) by decide)) (by decide) (by decide)) (gB_w (gBl (show Int32.toInt 0 = 0 by decide)) (by decide) (by decide)) (gB_w (gBl (show Int32.toInt 0 = 0 by decide)) (by decide) (by decide)) (gB_w (gBl (show Int32.toInt 0 = 0 by decide)) (by decide) (by decide)) bf658109 (by have qa0 : Int32.toInt (-1) = (-1) := (by decide); have qa1 : Int32.toInt 0 = 0 := (by decide); omega) hm658161 hm658160) dr_cX14_init_42 ⟨wr_7_215, wr_1_32, wr_7_218, by decide, rfl, (Nat.le_of_ble_eq_true rfl), (Nat.le_of_ble_eq_true rfl)⟩ wr_7_217 wr_p_75 hm658158 he658188 rfl (show 2 + ((16 * (p658108.toInt - 0)).toNat) ≤ ((16 * p658108.toInt : Int).toNat + 2) by first | omega | decide) (show 32 + ((160 * (p658108.toInt - 0)).toNat) ≤ ((160 * p658108.toInt : Int).toNat + 32) by first | omega | decide) (Nat.le_of_ble_eq_true rfl) (fun r658193 w658194 dc658190 ds658191 hp658192 => ?_) (fun _ _ _ _ _ z => z.elim)
  obtain ⟨P658205, F658206, o658195, o658196, o658197, o658198, q658199, rfl, rfl, hsb658207, hfr658208, he658209, he658210, hdc, hds, bo658195, bo658196, bo658197, x658200, x658201, x658202, x658203, x658204⟩ := hp658192
  have hm658211 : q658106 ∈ P658205 := hsb658207 q658106 hm658158
  have hm658212 : q658107 ∈ P658205 := hsb658207 q658107 hm658159
  have hm658213 : q658124 ∈ P658205 := hsb658207 q658124 hm658160
  have hm658214 : q658147 ∈ P658205 := hsb658207 q658147 hm658161
  have hsb658215 : rSub P658104 P658205 := rSub_tr hsb658164 hsb658207
  have he658216 : F658206 q658124 = .inl (I .int, 16, .inl (fun _ => 0)) := (hfr658208 q658124 hm658160 (nm_c (fun h => hq658137 (h ▸ hmq658106)) nm_n)).trans he658186
  have he658217 : F658206 q658147 = .inl (I .int, 16, .inl (fun _ => 0)) := (hfr658208 q658147 hm658161 (nm_c (fun h => hq658162 (h ▸ hmq658106)) nm_n)).trans he658187
  have hfr658218 : rFr [q658106] P658104 F658105 F658206 := rFr_call hsb658164 hfr658189 hfr658208 (fun b hb hn => ⟨(nm_c (fun e => hn (e ▸ List.mem_cons_self)) nm_n), (nm_c (fun e => hn (e ▸ List.mem_cons_self)) nm_n)⟩)
  have bo658198 := gB_any o658198
  rw [show Int32.toInt 0 = 0 from by decide] at x658200
  change G _ _ _ _ _ _ _ _ _ _ _
  have qz658219 : Int32.toInt 0 = 0 := by decide
  refine G_widen (cs' := 2 + ((16 * (o658195.toInt - 0)).toNat)) (sl' := 32 + ((160 * (o658195.toInt - 0)).toNat)) (by omega) (by omega) ?_
  exact G_vretA dr_cX14_init_45 rfl (show 2 + ((16 * (o658195.toInt - 0)).toNat) ≤ ((16 * p658108.toInt : Int).toNat + 2) by omega) (show 32 + ((160 * (o658195.toInt - 0)).toNat) ≤ ((160 * p658108.toInt : Int).toNat + 32) by omega) ⟨P658205, F658206, o658195, o658196, o658197, o658198, q658199, q658124, q658147, rfl, rfl, hsb658215, hfr658218, he658216, he658217, he658209, he658210, hm658213, hq658137, hm658214, hq658162, (by omega), (by omega), bo658195, bo658196, bo658197, (by have qa0 : Int32.toInt (-1) = (-1) := (by decide); have qa1 : Int32.toInt 0 = 0 := (by decide); omega), (by have qa0 : Int32.toInt (-1) = (-1) := (by decide); have qa1 : Int32.toInt 0 = 0 := (by decide); omega), (by have qa0 : Int32.toInt (-1) = (-1) := (by decide); have qa1 : Int32.toInt 0 = 0 := (by decide); omega), x658203, x658204, (Ne.symm hne658165), (by have qa0 : Int32.toInt (-1) = (-1) := (by decide); have qa1 : Int32.toInt 0 = 0 := (by decide); omega), (by have qa0 : Int32.toInt (-1) = (-1) := (by decide); have qa1 : Int32.toInt 0 = 0 := (by decide); omega), glP_0, (by have qa0 : Int32.toInt (-1) = (-1) := (by decide); have qa1 : Int32.toInt 0 = 0 := (by decide); omega), (by have qa0 : Int32.toInt (-1) = (-1) := (by decide); have qa1 : Int32.toInt 0 = 0 := (by decide); omega), (by have qa0 : Int32.toInt (-1) = (-1) := (by decide); have qa1 : Int32.toInt 0 = 0 := (by decide); omega)⟩
