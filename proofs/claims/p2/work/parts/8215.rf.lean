theorem dr_cX14_init_0 : decode cX14_init 0 = .ok (.aload_n 0, 1) := by decide +kernel
theorem dr_cX14_init_1 : decode cX14_init 1 = .ok (.invokespecial 3, 3) := by decide +kernel
theorem wr_7_213 : (Jvm.Cond.methodLink "SpillForgeModel$Reader" (3 : Nat) ({ cls := "java/lang/Object", name := "<init>", desc := "()V" } : Jvm.MethodName)) ∈ gw := gw_7 213 rfl rfl
theorem dr_cX14_init_4 : decode cX14_init 4 = .ok (.aload_n 0, 1) := by decide +kernel
theorem dr_cX14_init_5 : decode cX14_init 5 = .ok (.ldc 9, 2) := by decide +kernel
theorem dr_cX14_init_7 : decode cX14_init 7 = .ok (.putfield 11, 3) := by decide +kernel
theorem dr_cX14_init_10 : decode cX14_init 10 = .ok (.aload_n 0, 1) := by decide +kernel
theorem dr_cX14_init_11 : decode cX14_init 11 = .ok (.iconst (-1), 1) := by decide +kernel
theorem dr_cX14_init_12 : decode cX14_init 12 = .ok (.putfield 17, 3) := by decide +kernel
theorem dr_cX14_init_15 : decode cX14_init 15 = .ok (.aload_n 0, 1) := by decide +kernel
theorem dr_cX14_init_16 : decode cX14_init 16 = .ok (.bipush 16, 2) := by decide +kernel
theorem dr_cX14_init_18 : decode cX14_init 18 = .ok (.newarray .int, 2) := by decide +kernel
theorem dr_cX14_init_20 : decode cX14_init 20 = .ok (.putfield 21, 3) := by decide +kernel
theorem dr_cX14_init_23 : decode cX14_init 23 = .ok (.aload_n 0, 1) := by decide +kernel
theorem dr_cX14_init_24 : decode cX14_init 24 = .ok (.bipush 16, 2) := by decide +kernel
theorem dr_cX14_init_26 : decode cX14_init 26 = .ok (.newarray .int, 2) := by decide +kernel
theorem dr_cX14_init_28 : decode cX14_init 28 = .ok (.putfield 25, 3) := by decide +kernel
theorem dr_cX14_init_31 : decode cX14_init 31 = .ok (.aload_n 0, 1) := by decide +kernel
theorem dr_cX14_init_32 : decode cX14_init 32 = .ok (.aload_n 1, 1) := by decide +kernel
theorem dr_cX14_init_33 : decode cX14_init 33 = .ok (.putfield 28, 3) := by decide +kernel
theorem dr_cX14_init_36 : decode cX14_init 36 = .ok (.aload_n 0, 1) := by decide +kernel
theorem dr_cX14_init_37 : decode cX14_init 37 = .ok (.iload_n 2, 1) := by decide +kernel
theorem dr_cX14_init_38 : decode cX14_init 38 = .ok (.putfield 32, 3) := by decide +kernel
theorem dr_cX14_init_41 : decode cX14_init 41 = .ok (.aload_n 0, 1) := by decide +kernel
theorem dr_cX14_init_42 : decode cX14_init 42 = .ok (.invokevirtual 35, 3) := by decide +kernel
theorem dr_cX14_init_45 : decode cX14_init 45 = .ok (.return_, 1) := by decide +kernel
abbrev ky_658096_Reader_init : gKey := (cX14_init, 3, "SpillForgeModel$Reader", none, [], "<init>", fun _ _ => True)
def pp_658096_Reader_init (D : va_G) (I : FieldType → ClassId) (P658090 : List Nat) (F658091 : Nat → va_E) (q658092 : Nat) (q658093 : Nat) (p658094 : Int32) (f658095 : Nat → Int32) : Option Value → va_W → Nat → Nat → Prop := fun r w dc ds => ∃ (P658213 : List Nat) (F658214 : Nat → va_E) (o658206 : Int32) (o658207 : Int32) (o658208 : Int32) (o658209 : Int32) (q658210 : Nat) (q658211 : Nat) (q658212 : Nat), r = none ∧ w = va_pl P658213 F658214 ∧ rSub P658090 P658213 ∧ rFr [q658092] P658090 F658091 F658214 ∧ F658214 q658211 = .inl (I .int, 16, .inl (fun _ => 0)) ∧ F658214 q658212 = .inl (I .int, 16, .inl (fun _ => 0)) ∧ F658214 q658092 = .inr (19, [.ref q658093, .int p658094, .int o658206, .int o658207, .int o658208, .int o658209, .int 0, .ref q658210, .int (-1), .int 0, .int 0, .ref q658211, .ref q658212, .int 0]) ∧ F658214 q658093 = .inl (I .byte, 8192, .inl f658095) ∧ q658211 ∈ P658213 ∧ q658211 ∉ P658090 ∧ q658212 ∈ P658213 ∧ q658212 ∉ P658090 ∧ dc ≤ (16 * o658206.toInt : Int).toNat + 2 ∧ ds ≤ (256 * o658206.toInt : Int).toNat + 32 ∧ gB o658206 0 8192 ∧ gB o658207 0 6 ∧ gB o658208 0 8192 ∧ 0 ≤ o658206.toInt ∧ o658206.toInt ≤ p658094.toInt ∧ p658094.toInt = p658094.toInt ∧ tP I P658213 F658214 o658207 q658210 q658212 q658211 ∧ vP o658207 o658209 ∧ q658212 ≠ q658211 ∧ (16 : Int) = 16 ∧ (16 : Int) = 16 ∧ glP (fun _ => 0) ∧ 0 = 0 ∧ (-1) = -1 ∧ 0 = 0
set_option maxRecDepth 100000 in
set_option maxHeartbeats 4000000 in
theorem cp_658096_Reader_init (l : Launch) (hl0 : l.stackTraces = false) (D : va_G) (I : FieldType → ClassId) (P658090 : List Nat) (F658091 : Nat → va_E) (q658092 : Nat) (q658093 : Nat) (p658094 : Int32) (f658095 : Nat → Int32) (hmq658092 : q658092 ∈ P658090) (hmq658093 : q658093 ∈ P658090) (heq658092 : F658091 q658092 = .inr (19, [.null, .int 0, .int 0, .int 0, .int 0, .int 0, .int 0, .null, .int 0, .int 0, .int 0, .null, .null, .int 0])) (heq658093 : F658091 q658093 = .inl (I .byte, 8192, .inl f658095)) (bp658094 : gB p658094 0 8192) (bf658095 : gF f658095 (-128) 127) : CtA (gV D I) l yX14_init cX14_init 3 none 8 177 ((16 * p658094.toInt : Int).toNat + 2) ((256 * p658094.toInt : Int).toNat + 32) [.ref q658092, .ref q658093, .int p658094] (va_pl P658090 F658091) (pp_658096_Reader_init D I P658090 F658091 q658092 q658093 p658094 f658095) gNA := by
  refine CtA_of hl0 (by decide) (Nat.le_of_ble_eq_true rfl) ?_
  refine G_aload_n 0 dr_cX14_init_0 rfl ?_
  refine G_obj dr_cX14_init_1 wr_7_213 wr_1_51 wr_1_52 (Nat.le_of_ble_eq_true rfl) (Nat.le_of_ble_eq_true rfl) ?_
  refine G_aload_n 0 dr_cX14_init_4 rfl ?_
  refine G_ldcK (a := D.2 1000 32) dr_cX14_init_5 (fun _ _ _ h => gx_vk 32 rfl rfl h) ?_
  have hl32_658096 : (sb_32.length : Int) = 0 := rfl
  refine Gp_put 7 hmq658092 heq658092 dr_cX14_init_7 (gk_X14 D I) (Nat.le_of_ble_eq_true rfl) wr_9_43 rfl rfl rfl (Nat.le_of_ble_eq_true rfl) (fun F658098 e658099 n658100 => ?_)
  have he658101 : F658098 q658093 = .inl (I .byte, 8192, .inl f658095) := (n658100 q658093 (rn_ao heq658093 heq658092)).trans heq658093
  have he658102 : F658098 q658092 = .inr (19, [.null, .int 0, .int 0, .int 0, .int 0, .int 0, .int 0, .ref (D.2 1000 32), .int 0, .int 0, .int 0, .null, .null, .int 0]) := e658099
  have hfr658103 : rFr [q658092] P658090 F658091 F658098 := rFr_put (rFr_rf (W := []) (P := P658090) (F := F658091)) n658100
  refine G_aload_n 0 dr_cX14_init_10 rfl ?_
  refine G_iconst (-1) dr_cX14_init_11 (by decide +kernel) ?_
  refine Gp_put 8 hmq658092 he658102 dr_cX14_init_12 (gk_X14 D I) (Nat.le_of_ble_eq_true rfl) wr_9_44 rfl rfl rfl (Nat.le_of_ble_eq_true rfl) (fun F658104 e658105 n658106 => ?_)
  have he658107 : F658104 q658093 = .inl (I .byte, 8192, .inl f658095) := (n658106 q658093 (rn_ao he658101 he658102)).trans he658101
  have he658108 : F658104 q658092 = .inr (19, [.null, .int 0, .int 0, .int 0, .int 0, .int 0, .int 0, .ref (D.2 1000 32), .int (-1), .int 0, .int 0, .null, .null, .int 0]) := e658105
  have hfr658109 : rFr [q658092] P658090 F658091 F658104 := rFr_put' List.mem_cons_self hfr658103 n658106
  refine G_aload_n 0 dr_cX14_init_15 rfl ?_
  refine G_bipush 16 dr_cX14_init_16 (by decide +kernel) ?_
  refine G_newa 0 (16, .inl (fun _ => 0)) dr_cX14_init_18 rfl rfl (by intro C h; cases h) wr_1_95 (fun _ => ga_int _ _) (by decide) (by decide) (by decide) (show 0 + 1 ≤ ((16 * p658094.toInt : Int).toNat + 2) by first | omega | decide) (show 0 + 16 ≤ ((256 * p658094.toInt : Int).toNat + 32) by first | omega | decide) (fun q658110 => Gp_in (fun P658111 F658112 hq658113 hP658114 e658115 n658116 => ?_))
  refine G_widen (cs' := 1) (sl' := 16) (by omega) (by omega) ?_
  have he658117 : F658112 q658092 = .inr (19, [.null, .int 0, .int 0, .int 0, .int 0, .int 0, .int 0, .ref (D.2 1000 32), .int (-1), .int 0, .int 0, .null, .null, .int 0]) := (n658116 q658092 (fun h => hq658113 (h ▸ hmq658092))).trans he658108
  have he658118 : F658112 q658093 = .inl (I .byte, 8192, .inl f658095) := (n658116 q658093 (fun h => hq658113 (h ▸ hmq658093))).trans he658107
  have he658119 : F658112 q658110 = .inl (I .int, 16, .inl (fun _ => 0)) := e658115
  have hm658120 : q658092 ∈ P658111 := (hP658114 q658092).mpr (Or.inl hmq658092)
  have hm658121 : q658093 ∈ P658111 := (hP658114 q658093).mpr (Or.inl hmq658093)
  have hm658122 : q658110 ∈ P658111 := (hP658114 q658110).mpr (Or.inr rfl)
  have hq658123 : q658110 ∉ P658090 := fun z => hq658113 ((rSub_rf (P := P658090)) q658110 z)
  have hfr658124 : rFr [q658092] P658090 F658091 F658112 := rFr_new (rSub_rf (P := P658090)) hq658113 hfr658109 n658116
  have hsb658125 : rSub P658090 P658111 := rSub_new (rSub_rf (P := P658090)) hP658114
  refine Gp_put 11 hm658120 he658117 dr_cX14_init_20 (gk_X14 D I) (Nat.le_of_ble_eq_true rfl) wr_9_49 rfl rfl rfl (Nat.le_of_ble_eq_true rfl) (fun F658126 e658127 n658128 => ?_)
  have he658129 : F658126 q658093 = .inl (I .byte, 8192, .inl f658095) := (n658128 q658093 (rn_ao he658118 he658117)).trans he658118
  have he658130 : F658126 q658110 = .inl (I .int, 16, .inl (fun _ => 0)) := (n658128 q658110 (fun h => hq658123 (h ▸ hmq658092))).trans he658119
  have he658131 : F658126 q658092 = .inr (19, [.null, .int 0, .int 0, .int 0, .int 0, .int 0, .int 0, .ref (D.2 1000 32), .int (-1), .int 0, .int 0, .ref q658110, .null, .int 0]) := e658127
  have hfr658132 : rFr [q658092] P658090 F658091 F658126 := rFr_put' List.mem_cons_self hfr658124 n658128
  refine G_aload_n 0 dr_cX14_init_23 rfl ?_
  refine G_bipush 16 dr_cX14_init_24 (by decide +kernel) ?_
  refine G_newa 0 (16, .inl (fun _ => 0)) dr_cX14_init_26 rfl rfl (by intro C h; cases h) wr_1_95 (fun _ => ga_int _ _) (by decide) (by decide) (by decide) (show 1 + 1 ≤ ((16 * p658094.toInt : Int).toNat + 2) by first | omega | decide) (show 16 + 16 ≤ ((256 * p658094.toInt : Int).toNat + 32) by first | omega | decide) (fun q658133 => Gp_in (fun P658134 F658135 hq658136 hP658137 e658138 n658139 => ?_))
  refine G_widen (cs' := 2) (sl' := 32) (by omega) (by omega) ?_
  have he658140 : F658135 q658092 = .inr (19, [.null, .int 0, .int 0, .int 0, .int 0, .int 0, .int 0, .ref (D.2 1000 32), .int (-1), .int 0, .int 0, .ref q658110, .null, .int 0]) := (n658139 q658092 (fun h => hq658136 (h ▸ hm658120))).trans he658131
  have he658141 : F658135 q658093 = .inl (I .byte, 8192, .inl f658095) := (n658139 q658093 (fun h => hq658136 (h ▸ hm658121))).trans he658129
  have he658142 : F658135 q658110 = .inl (I .int, 16, .inl (fun _ => 0)) := (n658139 q658110 (fun h => hq658136 (h ▸ hm658122))).trans he658130
  have he658143 : F658135 q658133 = .inl (I .int, 16, .inl (fun _ => 0)) := e658138
  have hm658144 : q658092 ∈ P658134 := (hP658137 q658092).mpr (Or.inl hm658120)
  have hm658145 : q658093 ∈ P658134 := (hP658137 q658093).mpr (Or.inl hm658121)
  have hm658146 : q658110 ∈ P658134 := (hP658137 q658110).mpr (Or.inl hm658122)
  have hm658147 : q658133 ∈ P658134 := (hP658137 q658133).mpr (Or.inr rfl)
  have hq658148 : q658133 ∉ P658090 := fun z => hq658136 (hsb658125 q658133 z)
  have hfr658149 : rFr [q658092] P658090 F658091 F658135 := rFr_new hsb658125 hq658136 hfr658132 n658139
  have hsb658150 : rSub P658090 P658134 := rSub_new hsb658125 hP658137
  have hne658151 : q658110 ≠ q658133 := fun h => hq658136 (h ▸ hm658122)
  refine Gp_put 12 hm658144 he658140 dr_cX14_init_28 (gk_X14 D I) (Nat.le_of_ble_eq_true rfl) wr_9_50 rfl rfl rfl (Nat.le_of_ble_eq_true rfl) (fun F658152 e658153 n658154 => ?_)
  have he658155 : F658152 q658093 = .inl (I .byte, 8192, .inl f658095) := (n658154 q658093 (rn_ao he658141 he658140)).trans he658141
  have he658156 : F658152 q658110 = .inl (I .int, 16, .inl (fun _ => 0)) := (n658154 q658110 (fun h => hq658123 (h ▸ hmq658092))).trans he658142
  have he658157 : F658152 q658133 = .inl (I .int, 16, .inl (fun _ => 0)) := (n658154 q658133 (fun h => hq658148 (h ▸ hmq658092))).trans he658143
  have he658158 : F658152 q658092 = .inr (19, [.null, .int 0, .int 0, .int 0, .int 0, .int 0, .int 0, .ref (D.2 1000 32), .int (-1), .int 0, .int 0, .ref q658110, .ref q658133, .int 0]) := e658153
  have hfr658159 : rFr [q658092] P658090 F658091 F658152 := rFr_put' List.mem_cons_self hfr658149 n658154
  refine G_aload_n 0 dr_cX14_init_31 rfl ?_
  refine G_aload_n 1 dr_cX14_init_32 rfl ?_
  refine Gp_putF 0 hm658144 he658158 dr_cX14_init_33 (gk_X14 D I) (Nat.le_of_ble_eq_true rfl) wr_9_36 rfl rfl rfl rfl rfl (Nat.le_of_ble_eq_true rfl) (fun F658160 e658161 n658162 => ?_)
  have he658163 : F658160 q658093 = .inl (I .byte, 8192, .inl f658095) := (n658162 q658093 (rn_ao he658155 he658158)).trans he658155
  have he658164 : F658160 q658110 = .inl (I .int, 16, .inl (fun _ => 0)) := (n658162 q658110 (fun h => hq658123 (h ▸ hmq658092))).trans he658156
  have he658165 : F658160 q658133 = .inl (I .int, 16, .inl (fun _ => 0)) := (n658162 q658133 (fun h => hq658148 (h ▸ hmq658092))).trans he658157
  have he658166 : F658160 q658092 = .inr (19, [.ref q658093, .int 0, .int 0, .int 0, .int 0, .int 0, .int 0, .ref (D.2 1000 32), .int (-1), .int 0, .int 0, .ref q658110, .ref q658133, .int 0]) := e658161
  have hfr658167 : rFr [q658092] P658090 F658091 F658160 := rFr_put' List.mem_cons_self hfr658159 n658162
  refine G_aload_n 0 dr_cX14_init_36 rfl ?_
  refine G_iload_n 2 dr_cX14_init_37 rfl ?_
  refine Gp_putF 1 hm658144 he658166 dr_cX14_init_38 (gk_X14 D I) (Nat.le_of_ble_eq_true rfl) wr_9_37 rfl rfl rfl rfl rfl (Nat.le_of_ble_eq_true rfl) (fun F658168 e658169 n658170 => ?_)
  have he658171 : F658168 q658093 = .inl (I .byte, 8192, .inl f658095) := (n658170 q658093 (rn_ao he658163 he658166)).trans he658163
  have he658172 : F658168 q658110 = .inl (I .int, 16, .inl (fun _ => 0)) := (n658170 q658110 (fun h => hq658123 (h ▸ hmq658092))).trans he658164
  have he658173 : F658168 q658133 = .inl (I .int, 16, .inl (fun _ => 0)) := (n658170 q658133 (fun h => hq658148 (h ▸ hmq658092))).trans he658165
  have he658174 : F658168 q658092 = .inr (19, [.ref q658093, .int p658094, .int 0, .int 0, .int 0, .int 0, .int 0, .ref (D.2 1000 32), .int (-1), .int 0, .int 0, .ref q658110, .ref q658133, .int 0]) := e658169
  have hfr658175 : rFr [q658092] P658090 F658091 F658168 := rFr_put' List.mem_cons_self hfr658167 n658170
  refine G_aload_n 0 dr_cX14_init_41 rfl ?_
  refine Gw_callV (As := []) (gV_ok D I) (cp_653750_Reader_next l hl0 D I P658134 F658168 q658092 q658093 p658094 0 0 0 0 0 (D.2 1000 32) (-1) 0 0 q658110 q658133 0 f658095 hm658144 hm658145 he658174 he658171 bp658094 (gB_w (gBl (show Int32.toInt 0 = 0 by decide)) (by decide) (by decide)) (gB_w (gBl (show Int32.toInt 0 = 0 by decide)) (by decide) (by decide)) (gB_w (gBl (show Int32.toInt 0 = 0 by decide)) (by decide) (by decide)) (gB_w (gBl (show Int32.toInt 0 = 0 by decide)) (by decide) (by decide)) (gB_w (gBl (show Int32.toInt (-1) = (-1) by decide)) (by decide) (by decide)) (gB_w (gBl (show Int32.toInt 0 = 0 by decide)) (by decide) (by decide)) (gB_w (gBl (show Int32.toInt 0 = 0 by decide)) (by decide) (by decide)) (gB_w (gBl (show Int32.toInt 0 = 0 by decide)) (by decide) (by decide)) bf658095 (by have qa0 : Int32.toInt (-1) = (-1) := (by decide); have qa1 : Int32.toInt 0 = 0 := (by decide); omega) hm658147 hm658146) dr_cX14_init_42 ⟨wr_7_215, wr_1_32, wr_7_218, by decide, rfl, (Nat.le_of_ble_eq_true rfl), (Nat.le_of_ble_eq_true rfl)⟩ wr_7_217 wr_p_75 hm658144 he658174 rfl (show 2 + ((16 * (p658094.toInt - 0)).toNat) ≤ ((16 * p658094.toInt : Int).toNat + 2) by first | omega | decide) (show 32 + ((256 * (p658094.toInt - 0)).toNat) ≤ ((256 * p658094.toInt : Int).toNat + 32) by first | omega | decide) (Nat.le_of_ble_eq_true rfl) (fun r658179 w658180 dc658176 ds658177 hp658178 => ?_) (fun _ _ _ _ _ z => z.elim)
  obtain ⟨P658191, F658192, o658181, o658182, o658183, o658184, q658185, rfl, rfl, hsb658193, hfr658194, he658195, he658196, hdc, hds, bo658181, bo658182, bo658183, x658186, x658187, x658188, x658189, x658190⟩ := hp658178
  have hm658197 : q658092 ∈ P658191 := hsb658193 q658092 hm658144
  have hm658198 : q658093 ∈ P658191 := hsb658193 q658093 hm658145
  have hm658199 : q658110 ∈ P658191 := hsb658193 q658110 hm658146
  have hm658200 : q658133 ∈ P658191 := hsb658193 q658133 hm658147
  have hsb658201 : rSub P658090 P658191 := rSub_tr hsb658150 hsb658193
  have he658202 : F658192 q658110 = .inl (I .int, 16, .inl (fun _ => 0)) := (hfr658194 q658110 hm658146 (nm_c (fun h => hq658123 (h ▸ hmq658092)) nm_n)).trans he658172
  have he658203 : F658192 q658133 = .inl (I .int, 16, .inl (fun _ => 0)) := (hfr658194 q658133 hm658147 (nm_c (fun h => hq658148 (h ▸ hmq658092)) nm_n)).trans he658173
  have hfr658204 : rFr [q658092] P658090 F658091 F658192 := rFr_call hsb658150 hfr658175 hfr658194 (fun b hb hn => ⟨(nm_c (fun e => hn (e ▸ List.mem_cons_self)) nm_n), (nm_c (fun e => hn (e ▸ List.mem_cons_self)) nm_n)⟩)
  have bo658184 := gB_any o658184
  rw [show Int32.toInt 0 = 0 from by decide] at x658186
  change G _ _ _ _ _ _ _ _ _ _ _
  have qz658205 : Int32.toInt 0 = 0 := by decide
  refine G_widen (cs' := 2 + ((16 * (o658181.toInt - 0)).toNat)) (sl' := 32 + ((256 * (o658181.toInt - 0)).toNat)) (by omega) (by omega) ?_
  exact G_vretA dr_cX14_init_45 rfl (show 2 + ((16 * (o658181.toInt - 0)).toNat) ≤ ((16 * p658094.toInt : Int).toNat + 2) by omega) (show 32 + ((256 * (o658181.toInt - 0)).toNat) ≤ ((256 * p658094.toInt : Int).toNat + 32) by omega) ⟨P658191, F658192, o658181, o658182, o658183, o658184, q658185, q658110, q658133, rfl, rfl, hsb658201, hfr658204, he658202, he658203, he658195, he658196, hm658199, hq658123, hm658200, hq658148, (by omega), (by omega), bo658181, bo658182, bo658183, (by have qa0 : Int32.toInt (-1) = (-1) := (by decide); have qa1 : Int32.toInt 0 = 0 := (by decide); omega), (by have qa0 : Int32.toInt (-1) = (-1) := (by decide); have qa1 : Int32.toInt 0 = 0 := (by decide); omega), (by have qa0 : Int32.toInt (-1) = (-1) := (by decide); have qa1 : Int32.toInt 0 = 0 := (by decide); omega), x658189, x658190, (Ne.symm hne658151), (by have qa0 : Int32.toInt (-1) = (-1) := (by decide); have qa1 : Int32.toInt 0 = 0 := (by decide); omega), (by have qa0 : Int32.toInt (-1) = (-1) := (by decide); have qa1 : Int32.toInt 0 = 0 := (by decide); omega), glP_0, (by have qa0 : Int32.toInt (-1) = (-1) := (by decide); have qa1 : Int32.toInt 0 = 0 := (by decide); omega), (by have qa0 : Int32.toInt (-1) = (-1) := (by decide); have qa1 : Int32.toInt 0 = 0 := (by decide); omega), (by have qa0 : Int32.toInt (-1) = (-1) := (by decide); have qa1 : Int32.toInt 0 = 0 := (by decide); omega)⟩
