theorem dr_cX14_init_0 : decode cX14_init 0 = .ok (.aload_n 0, 1) := by decide +kernel
theorem dr_cX14_init_1 : decode cX14_init 1 = .ok (.invokespecial 3, 3) := by decide +kernel
theorem wr_7_213 : (Jvm.Cond.methodLink "SpillForgeModel$Reader" (3 : Nat) ({ cls := "java/lang/Object", name := "<init>", desc := "()V" } : Jvm.MethodName)) ∈ gw := gw_7 213 rfl rfl
theorem dr_cX14_init_4 : decode cX14_init 4 = .ok (.aload_n 0, 1) := by decide +kernel
theorem dr_cX14_init_5 : decode cX14_init 5 = .ok (.ldc 9, 2) := by decide +kernel
theorem dr_cX14_init_7 : decode cX14_init 7 = .ok (.putfield 11, 3) := by decide +kernel
theorem dr_cX14_init_10 : decode cX14_init 10 = .ok (.aload_n 0, 1) := by decide +kernel
theorem dr_cX14_init_11 : decode cX14_init 11 = .ok (.iconst (-1), 1) := by decide +kernel
theorem dr_cX14_init_12 : decode cX14_init 12 = .ok (.putfield 17, 3) := by decide +kernel
theorem dr_cX14_init_15 : decode cX14_init 15 = .ok (.aload_n 0, 1) := by decide +kernel
theorem dr_cX14_init_16 : decode cX14_init 16 = .ok (.bipush 16, 2) := by decide +kernel
theorem dr_cX14_init_18 : decode cX14_init 18 = .ok (.newarray .int, 2) := by decide +kernel
theorem dr_cX14_init_20 : decode cX14_init 20 = .ok (.putfield 21, 3) := by decide +kernel
theorem dr_cX14_init_23 : decode cX14_init 23 = .ok (.aload_n 0, 1) := by decide +kernel
theorem dr_cX14_init_24 : decode cX14_init 24 = .ok (.bipush 16, 2) := by decide +kernel
theorem dr_cX14_init_26 : decode cX14_init 26 = .ok (.newarray .int, 2) := by decide +kernel
theorem dr_cX14_init_28 : decode cX14_init 28 = .ok (.putfield 25, 3) := by decide +kernel
theorem dr_cX14_init_31 : decode cX14_init 31 = .ok (.aload_n 0, 1) := by decide +kernel
theorem dr_cX14_init_32 : decode cX14_init 32 = .ok (.aload_n 1, 1) := by decide +kernel
theorem dr_cX14_init_33 : decode cX14_init 33 = .ok (.putfield 28, 3) := by decide +kernel
theorem dr_cX14_init_36 : decode cX14_init 36 = .ok (.aload_n 0, 1) := by decide +kernel
theorem dr_cX14_init_37 : decode cX14_init 37 = .ok (.iload_n 2, 1) := by decide +kernel
theorem dr_cX14_init_38 : decode cX14_init 38 = .ok (.putfield 32, 3) := by decide +kernel
theorem dr_cX14_init_41 : decode cX14_init 41 = .ok (.aload_n 0, 1) := by decide +kernel
theorem dr_cX14_init_42 : decode cX14_init 42 = .ok (.invokevirtual 35, 3) := by decide +kernel
theorem dr_cX14_init_45 : decode cX14_init 45 = .ok (.return_, 1) := by decide +kernel
abbrev ky_658043_Reader_init : gKey := (cX14_init, 3, "SpillForgeModel$Reader", none, [], "<init>", fun _ _ => True)
def pp_658043_Reader_init (D : va_G) (I : FieldType → ClassId) (P658037 : List Nat) (F658038 : Nat → va_E) (q658039 : Nat) (q658040 : Nat) (p658041 : Int32) (f658042 : Nat → Int32) : Option Value → va_W → Nat → Nat → Prop := fun r w dc ds => ∃ (P658160 : List Nat) (F658161 : Nat → va_E) (o658153 : Int32) (o658154 : Int32) (o658155 : Int32) (o658156 : Int32) (q658157 : Nat) (q658158 : Nat) (q658159 : Nat), r = none ∧ w = va_pl P658160 F658161 ∧ rSub P658037 P658160 ∧ rFr [q658039] P658037 F658038 F658161 ∧ F658161 q658158 = .inl (I .int, 16, .inl (fun _ => 0)) ∧ F658161 q658159 = .inl (I .int, 16, .inl (fun _ => 0)) ∧ F658161 q658039 = .inr (19, [.ref q658040, .int p658041, .int o658153, .int o658154, .int o658155, .int o658156, .int 0, .ref q658157, .int (-1), .int 0, .int 0, .ref q658158, .ref q658159, .int 0]) ∧ F658161 q658040 = .inl (I .byte, 8192, .inl f658042) ∧ q658158 ∈ P658160 ∧ q658158 ∉ P658037 ∧ q658159 ∈ P658160 ∧ q658159 ∉ P658037 ∧ dc ≤ (16 * o658153.toInt : Int).toNat + 2 ∧ ds ≤ (256 * o658153.toInt : Int).toNat + 32 ∧ gB o658153 0 8192 ∧ gB o658154 0 6 ∧ gB o658155 0 8192 ∧ 0 ≤ o658153.toInt ∧ o658153.toInt ≤ p658041.toInt ∧ p658041.toInt = p658041.toInt ∧ tP I P658160 F658161 o658154 q658157 q658159 q658158 ∧ vP o658154 o658156 ∧ q658159 ≠ q658158 ∧ (16 : Int) = 16 ∧ (16 : Int) = 16 ∧ 0 = 0 ∧ (-1) = -1 ∧ 0 = 0
set_option maxRecDepth 100000 in
set_option maxHeartbeats 4000000 in
theorem cp_658043_Reader_init (l : Launch) (hl0 : l.stackTraces = false) (D : va_G) (I : FieldType → ClassId) (P658037 : List Nat) (F658038 : Nat → va_E) (q658039 : Nat) (q658040 : Nat) (p658041 : Int32) (f658042 : Nat → Int32) (hmq658039 : q658039 ∈ P658037) (hmq658040 : q658040 ∈ P658037) (heq658039 : F658038 q658039 = .inr (19, [.null, .int 0, .int 0, .int 0, .int 0, .int 0, .int 0, .null, .int 0, .int 0, .int 0, .null, .null, .int 0])) (heq658040 : F658038 q658040 = .inl (I .byte, 8192, .inl f658042)) (bp658041 : gB p658041 0 8192) (bf658042 : gF f658042 (-128) 127) : CtA (gV D I) l yX14_init cX14_init 3 none 8 177 ((16 * p658041.toInt : Int).toNat + 2) ((256 * p658041.toInt : Int).toNat + 32) [.ref q658039, .ref q658040, .int p658041] (va_pl P658037 F658038) (pp_658043_Reader_init D I P658037 F658038 q658039 q658040 p658041 f658042) gNA := by
  refine CtA_of hl0 (by decide) (Nat.le_of_ble_eq_true rfl) ?_
  refine G_aload_n 0 dr_cX14_init_0 rfl ?_
  refine G_obj dr_cX14_init_1 wr_7_213 wr_1_51 wr_1_52 (Nat.le_of_ble_eq_true rfl) (Nat.le_of_ble_eq_true rfl) ?_
  refine G_aload_n 0 dr_cX14_init_4 rfl ?_
  refine G_ldcK (a := D.2 1000 32) dr_cX14_init_5 (fun _ _ _ h => gx_vk 32 rfl rfl h) ?_
  have hl32_658043 : (sb_32.length : Int) = 0 := rfl
  refine Gp_put 7 hmq658039 heq658039 dr_cX14_init_7 (gk_X14 D I) (Nat.le_of_ble_eq_true rfl) wr_9_43 rfl rfl rfl (Nat.le_of_ble_eq_true rfl) (fun F658045 e658046 n658047 => ?_)
  have he658048 : F658045 q658040 = .inl (I .byte, 8192, .inl f658042) := (n658047 q658040 (rn_ao heq658040 heq658039)).trans heq658040
  have he658049 : F658045 q658039 = .inr (19, [.null, .int 0, .int 0, .int 0, .int 0, .int 0, .int 0, .ref (D.2 1000 32), .int 0, .int 0, .int 0, .null, .null, .int 0]) := e658046
  have hfr658050 : rFr [q658039] P658037 F658038 F658045 := rFr_put (rFr_rf (W := []) (P := P658037) (F := F658038)) n658047
  refine G_aload_n 0 dr_cX14_init_10 rfl ?_
  refine G_iconst (-1) dr_cX14_init_11 (by decide +kernel) ?_
  refine Gp_put 8 hmq658039 he658049 dr_cX14_init_12 (gk_X14 D I) (Nat.le_of_ble_eq_true rfl) wr_9_44 rfl rfl rfl (Nat.le_of_ble_eq_true rfl) (fun F658051 e658052 n658053 => ?_)
  have he658054 : F658051 q658040 = .inl (I .byte, 8192, .inl f658042) := (n658053 q658040 (rn_ao he658048 he658049)).trans he658048
  have he658055 : F658051 q658039 = .inr (19, [.null, .int 0, .int 0, .int 0, .int 0, .int 0, .int 0, .ref (D.2 1000 32), .int (-1), .int 0, .int 0, .null, .null, .int 0]) := e658052
  have hfr658056 : rFr [q658039] P658037 F658038 F658051 := rFr_put' List.mem_cons_self hfr658050 n658053
  refine G_aload_n 0 dr_cX14_init_15 rfl ?_
  refine G_bipush 16 dr_cX14_init_16 (by decide +kernel) ?_
  refine G_newa 0 (16, .inl (fun _ => 0)) dr_cX14_init_18 rfl rfl (by intro C h; cases h) wr_1_95 (fun _ => ga_int _ _) (by decide) (by decide) (by decide) (show 0 + 1 ≤ ((16 * p658041.toInt : Int).toNat + 2) by first | omega | decide) (show 0 + 16 ≤ ((256 * p658041.toInt : Int).toNat + 32) by first | omega | decide) (fun q658057 => Gp_in (fun P658058 F658059 hq658060 hP658061 e658062 n658063 => ?_))
  refine G_widen (cs' := 1) (sl' := 16) (by omega) (by omega) ?_
  have he658064 : F658059 q658039 = .inr (19, [.null, .int 0, .int 0, .int 0, .int 0, .int 0, .int 0, .ref (D.2 1000 32), .int (-1), .int 0, .int 0, .null, .null, .int 0]) := (n658063 q658039 (fun h => hq658060 (h ▸ hmq658039))).trans he658055
  have he658065 : F658059 q658040 = .inl (I .byte, 8192, .inl f658042) := (n658063 q658040 (fun h => hq658060 (h ▸ hmq658040))).trans he658054
  have he658066 : F658059 q658057 = .inl (I .int, 16, .inl (fun _ => 0)) := e658062
  have hm658067 : q658039 ∈ P658058 := (hP658061 q658039).mpr (Or.inl hmq658039)
  have hm658068 : q658040 ∈ P658058 := (hP658061 q658040).mpr (Or.inl hmq658040)
  have hm658069 : q658057 ∈ P658058 := (hP658061 q658057).mpr (Or.inr rfl)
  have hq658070 : q658057 ∉ P658037 := fun z => hq658060 ((rSub_rf (P := P658037)) q658057 z)
  have hfr658071 : rFr [q658039] P658037 F658038 F658059 := rFr_new (rSub_rf (P := P658037)) hq658060 hfr658056 n658063
  have hsb658072 : rSub P658037 P658058 := rSub_new (rSub_rf (P := P658037)) hP658061
  refine Gp_put 11 hm658067 he658064 dr_cX14_init_20 (gk_X14 D I) (Nat.le_of_ble_eq_true rfl) wr_9_49 rfl rfl rfl (Nat.le_of_ble_eq_true rfl) (fun F658073 e658074 n658075 => ?_)
  have he658076 : F658073 q658040 = .inl (I .byte, 8192, .inl f658042) := (n658075 q658040 (rn_ao he658065 he658064)).trans he658065
  have he658077 : F658073 q658057 = .inl (I .int, 16, .inl (fun _ => 0)) := (n658075 q658057 (fun h => hq658070 (h ▸ hmq658039))).trans he658066
  have he658078 : F658073 q658039 = .inr (19, [.null, .int 0, .int 0, .int 0, .int 0, .int 0, .int 0, .ref (D.2 1000 32), .int (-1), .int 0, .int 0, .ref q658057, .null, .int 0]) := e658074
  have hfr658079 : rFr [q658039] P658037 F658038 F658073 := rFr_put' List.mem_cons_self hfr658071 n658075
  refine G_aload_n 0 dr_cX14_init_23 rfl ?_
  refine G_bipush 16 dr_cX14_init_24 (by decide +kernel) ?_
  refine G_newa 0 (16, .inl (fun _ => 0)) dr_cX14_init_26 rfl rfl (by intro C h; cases h) wr_1_95 (fun _ => ga_int _ _) (by decide) (by decide) (by decide) (show 1 + 1 ≤ ((16 * p658041.toInt : Int).toNat + 2) by first | omega | decide) (show 16 + 16 ≤ ((256 * p658041.toInt : Int).toNat + 32) by first | omega | decide) (fun q658080 => Gp_in (fun P658081 F658082 hq658083 hP658084 e658085 n658086 => ?_))
  refine G_widen (cs' := 2) (sl' := 32) (by omega) (by omega) ?_
  have he658087 : F658082 q658039 = .inr (19, [.null, .int 0, .int 0, .int 0, .int 0, .int 0, .int 0, .ref (D.2 1000 32), .int (-1), .int 0, .int 0, .ref q658057, .null, .int 0]) := (n658086 q658039 (fun h => hq658083 (h ▸ hm658067))).trans he658078
  have he658088 : F658082 q658040 = .inl (I .byte, 8192, .inl f658042) := (n658086 q658040 (fun h => hq658083 (h ▸ hm658068))).trans he658076
  have he658089 : F658082 q658057 = .inl (I .int, 16, .inl (fun _ => 0)) := (n658086 q658057 (fun h => hq658083 (h ▸ hm658069))).trans he658077
  have he658090 : F658082 q658080 = .inl (I .int, 16, .inl (fun _ => 0)) := e658085
  have hm658091 : q658039 ∈ P658081 := (hP658084 q658039).mpr (Or.inl hm658067)
  have hm658092 : q658040 ∈ P658081 := (hP658084 q658040).mpr (Or.inl hm658068)
  have hm658093 : q658057 ∈ P658081 := (hP658084 q658057).mpr (Or.inl hm658069)
  have hm658094 : q658080 ∈ P658081 := (hP658084 q658080).mpr (Or.inr rfl)
  have hq658095 : q658080 ∉ P658037 := fun z => hq658083 (hsb658072 q658080 z)
  have hfr658096 : rFr [q658039] P658037 F658038 F658082 := rFr_new hsb658072 hq658083 hfr658079 n658086
  have hsb658097 : rSub P658037 P658081 := rSub_new hsb658072 hP658084
  have hne658098 : q658057 ≠ q658080 := fun h => hq658083 (h ▸ hm658069)
  refine Gp_put 12 hm658091 he658087 dr_cX14_init_28 (gk_X14 D I) (Nat.le_of_ble_eq_true rfl) wr_9_50 rfl rfl rfl (Nat.le_of_ble_eq_true rfl) (fun F658099 e658100 n658101 => ?_)
  have he658102 : F658099 q658040 = .inl (I .byte, 8192, .inl f658042) := (n658101 q658040 (rn_ao he658088 he658087)).trans he658088
  have he658103 : F658099 q658057 = .inl (I .int, 16, .inl (fun _ => 0)) := (n658101 q658057 (fun h => hq658070 (h ▸ hmq658039))).trans he658089
  have he658104 : F658099 q658080 = .inl (I .int, 16, .inl (fun _ => 0)) := (n658101 q658080 (fun h => hq658095 (h ▸ hmq658039))).trans he658090
  have he658105 : F658099 q658039 = .inr (19, [.null, .int 0, .int 0, .int 0, .int 0, .int 0, .int 0, .ref (D.2 1000 32), .int (-1), .int 0, .int 0, .ref q658057, .ref q658080, .int 0]) := e658100
  have hfr658106 : rFr [q658039] P658037 F658038 F658099 := rFr_put' List.mem_cons_self hfr658096 n658101
  refine G_aload_n 0 dr_cX14_init_31 rfl ?_
  refine G_aload_n 1 dr_cX14_init_32 rfl ?_
  refine Gp_putF 0 hm658091 he658105 dr_cX14_init_33 (gk_X14 D I) (Nat.le_of_ble_eq_true rfl) wr_9_36 rfl rfl rfl rfl rfl (Nat.le_of_ble_eq_true rfl) (fun F658107 e658108 n658109 => ?_)
  have he658110 : F658107 q658040 = .inl (I .byte, 8192, .inl f658042) := (n658109 q658040 (rn_ao he658102 he658105)).trans he658102
  have he658111 : F658107 q658057 = .inl (I .int, 16, .inl (fun _ => 0)) := (n658109 q658057 (fun h => hq658070 (h ▸ hmq658039))).trans he658103
  have he658112 : F658107 q658080 = .inl (I .int, 16, .inl (fun _ => 0)) := (n658109 q658080 (fun h => hq658095 (h ▸ hmq658039))).trans he658104
  have he658113 : F658107 q658039 = .inr (19, [.ref q658040, .int 0, .int 0, .int 0, .int 0, .int 0, .int 0, .ref (D.2 1000 32), .int (-1), .int 0, .int 0, .ref q658057, .ref q658080, .int 0]) := e658108
  have hfr658114 : rFr [q658039] P658037 F658038 F658107 := rFr_put' List.mem_cons_self hfr658106 n658109
  refine G_aload_n 0 dr_cX14_init_36 rfl ?_
  refine G_iload_n 2 dr_cX14_init_37 rfl ?_
  refine Gp_putF 1 hm658091 he658113 dr_cX14_init_38 (gk_X14 D I) (Nat.le_of_ble_eq_true rfl) wr_9_37 rfl rfl rfl rfl rfl (Nat.le_of_ble_eq_true rfl) (fun F658115 e658116 n658117 => ?_)
  have he658118 : F658115 q658040 = .inl (I .byte, 8192, .inl f658042) := (n658117 q658040 (rn_ao he658110 he658113)).trans he658110
  have he658119 : F658115 q658057 = .inl (I .int, 16, .inl (fun _ => 0)) := (n658117 q658057 (fun h => hq658070 (h ▸ hmq658039))).trans he658111
  have he658120 : F658115 q658080 = .inl (I .int, 16, .inl (fun _ => 0)) := (n658117 q658080 (fun h => hq658095 (h ▸ hmq658039))).trans he658112
  have he658121 : F658115 q658039 = .inr (19, [.ref q658040, .int p658041, .int 0, .int 0, .int 0, .int 0, .int 0, .ref (D.2 1000 32), .int (-1), .int 0, .int 0, .ref q658057, .ref q658080, .int 0]) := e658116
  have hfr658122 : rFr [q658039] P658037 F658038 F658115 := rFr_put' List.mem_cons_self hfr658114 n658117
  refine G_aload_n 0 dr_cX14_init_41 rfl ?_
  refine Gw_callV (As := []) (gV_ok D I) (cp_653748_Reader_next l hl0 D I P658081 F658115 q658039 q658040 p658041 0 0 0 0 0 (D.2 1000 32) (-1) 0 0 q658057 q658080 0 f658042 hm658091 hm658092 he658121 he658118 bp658041 (gB_w (gBl (show Int32.toInt 0 = 0 by decide)) (by decide) (by decide)) (gB_w (gBl (show Int32.toInt 0 = 0 by decide)) (by decide) (by decide)) (gB_w (gBl (show Int32.toInt 0 = 0 by decide)) (by decide) (by decide)) (gB_w (gBl (show Int32.toInt 0 = 0 by decide)) (by decide) (by decide)) (gB_w (gBl (show Int32.toInt (-1) = (-1) by decide)) (by decide) (by decide)) (gB_w (gBl (show Int32.toInt 0 = 0 by decide)) (by decide) (by decide)) (gB_w (gBl (show Int32.toInt 0 = 0 by decide)) (by decide) (by decide)) (gB_w (gBl (show Int32.toInt 0 = 0 by decide)) (by decide) (by decide)) bf658042 (by have qa0 : Int32.toInt (-1) = (-1) := (by decide); have qa1 : Int32.toInt 0 = 0 := (by decide); omega) hm658094 hm658093) dr_cX14_init_42 ⟨wr_7_215, wr_1_32, wr_7_218, by decide, rfl, (Nat.le_of_ble_eq_true rfl), (Nat.le_of_ble_eq_true rfl)⟩ wr_7_217 wr_p_75 hm658091 he658121 rfl (show 2 + ((16 * (p658041.toInt - 0)).toNat) ≤ ((16 * p658041.toInt : Int).toNat + 2) by first | omega | decide) (show 32 + ((256 * (p658041.toInt - 0)).toNat) ≤ ((256 * p658041.toInt : Int).toNat + 32) by first | omega | decide) (Nat.le_of_ble_eq_true rfl) (fun r658126 w658127 dc658123 ds658124 hp658125 => ?_) (fun _ _ _ _ _ z => z.elim)
  obtain ⟨P658138, F658139, o658128, o658129, o658130, o658131, q658132, rfl, rfl, hsb658140, hfr658141, he658142, he658143, hdc, hds, bo658128, bo658129, bo658130, x658133, x658134, x658135, x658136, x658137⟩ := hp658125
  have hm658144 : q658039 ∈ P658138 := hsb658140 q658039 hm658091
  have hm658145 : q658040 ∈ P658138 := hsb658140 q658040 hm658092
  have hm658146 : q658057 ∈ P658138 := hsb658140 q658057 hm658093
  have hm658147 : q658080 ∈ P658138 := hsb658140 q658080 hm658094
  have hsb658148 : rSub P658037 P658138 := rSub_tr hsb658097 hsb658140
  have he658149 : F658139 q658057 = .inl (I .int, 16, .inl (fun _ => 0)) := (hfr658141 q658057 hm658093 (nm_c (fun h => hq658070 (h ▸ hmq658039)) nm_n)).trans he658119
  have he658150 : F658139 q658080 = .inl (I .int, 16, .inl (fun _ => 0)) := (hfr658141 q658080 hm658094 (nm_c (fun h => hq658095 (h ▸ hmq658039)) nm_n)).trans he658120
  have hfr658151 : rFr [q658039] P658037 F658038 F658139 := rFr_call hsb658097 hfr658122 hfr658141 (fun b hb hn => ⟨(nm_c (fun e => hn (e ▸ List.mem_cons_self)) nm_n), (nm_c (fun e => hn (e ▸ List.mem_cons_self)) nm_n)⟩)
  have bo658131 := gB_any o658131
  rw [show Int32.toInt 0 = 0 from by decide] at x658133
  change G _ _ _ _ _ _ _ _ _ _ _
  have qz658152 : Int32.toInt 0 = 0 := by decide
  refine G_widen (cs' := 2 + ((16 * (o658128.toInt - 0)).toNat)) (sl' := 32 + ((256 * (o658128.toInt - 0)).toNat)) (by omega) (by omega) ?_
  exact G_vretA dr_cX14_init_45 rfl (show 2 + ((16 * (o658128.toInt - 0)).toNat) ≤ ((16 * p658041.toInt : Int).toNat + 2) by omega) (show 32 + ((256 * (o658128.toInt - 0)).toNat) ≤ ((256 * p658041.toInt : Int).toNat + 32) by omega) ⟨P658138, F658139, o658128, o658129, o658130, o658131, q658132, q658057, q658080, rfl, rfl, hsb658148, hfr658151, he658149, he658150, he658142, he658143, hm658146, hq658070, hm658147, hq658095, (by omega), (by omega), bo658128, bo658129, bo658130, (by have qa0 : Int32.toInt (-1) = (-1) := (by decide); have qa1 : Int32.toInt 0 = 0 := (by decide); omega), (by have qa0 : Int32.toInt (-1) = (-1) := (by decide); have qa1 : Int32.toInt 0 = 0 := (by decide); omega), (by have qa0 : Int32.toInt (-1) = (-1) := (by decide); have qa1 : Int32.toInt 0 = 0 := (by decide); omega), x658136, x658137, (Ne.symm hne658098), (by have qa0 : Int32.toInt (-1) = (-1) := (by decide); have qa1 : Int32.toInt 0 = 0 := (by decide); omega), (by have qa0 : Int32.toInt (-1) = (-1) := (by decide); have qa1 : Int32.toInt 0 = 0 := (by decide); omega), (by have qa0 : Int32.toInt (-1) = (-1) := (by decide); have qa1 : Int32.toInt 0 = 0 := (by decide); omega), (by have qa0 : Int32.toInt (-1) = (-1) := (by decide); have qa1 : Int32.toInt 0 = 0 := (by decide); omega), (by have qa0 : Int32.toInt (-1) = (-1) := (by decide); have qa1 : Int32.toInt 0 = 0 := (by decide); omega)⟩
