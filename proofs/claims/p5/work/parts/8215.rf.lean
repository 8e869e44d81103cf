theorem dr_cX14_init_0 : decode cX14_init 0 = .ok (.aload_n 0, 1) := by decide +kernel
theorem dr_cX14_init_1 : decode cX14_init 1 = .ok (.invokespecial 3, 3) := by decide +kernel
theorem wr_7_209 : (Jvm.Cond.methodLink "SpillForgeModel$Reader" (3 : Nat) ({ cls := "java/lang/Object", name := "<init>", desc := "()V" } : Jvm.MethodName)) ∈ gw := gw_7 209 rfl rfl
theorem dr_cX14_init_4 : decode cX14_init 4 = .ok (.aload_n 0, 1) := by decide +kernel
theorem dr_cX14_init_5 : decode cX14_init 5 = .ok (.ldc 9, 2) := by decide +kernel
theorem dr_cX14_init_7 : decode cX14_init 7 = .ok (.putfield 11, 3) := by decide +kernel
theorem dr_cX14_init_10 : decode cX14_init 10 = .ok (.aload_n 0, 1) := by decide +kernel
theorem dr_cX14_init_11 : decode cX14_init 11 = .ok (.iconst (-1), 1) := by decide +kernel
theorem dr_cX14_init_12 : decode cX14_init 12 = .ok (.putfield 17, 3) := by decide +kernel
theorem dr_cX14_init_15 : decode cX14_init 15 = .ok (.aload_n 0, 1) := by decide +kernel
theorem dr_cX14_init_16 : decode cX14_init 16 = .ok (.bipush 16, 2) := by decide +kernel
theorem dr_cX14_init_18 : decode cX14_init 18 = .ok (.newarray .int, 2) := by decide +kernel
theorem dr_cX14_init_20 : decode cX14_init 20 = .ok (.putfield 21, 3) := by decide +kernel
theorem dr_cX14_init_23 : decode cX14_init 23 = .ok (.aload_n 0, 1) := by decide +kernel
theorem dr_cX14_init_24 : decode cX14_init 24 = .ok (.bipush 16, 2) := by decide +kernel
theorem dr_cX14_init_26 : decode cX14_init 26 = .ok (.newarray .int, 2) := by decide +kernel
theorem dr_cX14_init_28 : decode cX14_init 28 = .ok (.putfield 25, 3) := by decide +kernel
theorem dr_cX14_init_31 : decode cX14_init 31 = .ok (.aload_n 0, 1) := by decide +kernel
theorem dr_cX14_init_32 : decode cX14_init 32 = .ok (.aload_n 1, 1) := by decide +kernel
theorem dr_cX14_init_33 : decode cX14_init 33 = .ok (.putfield 28, 3) := by decide +kernel
theorem dr_cX14_init_36 : decode cX14_init 36 = .ok (.aload_n 0, 1) := by decide +kernel
theorem dr_cX14_init_37 : decode cX14_init 37 = .ok (.iload_n 2, 1) := by decide +kernel
theorem dr_cX14_init_38 : decode cX14_init 38 = .ok (.putfield 32, 3) := by decide +kernel
theorem dr_cX14_init_41 : decode cX14_init 41 = .ok (.aload_n 0, 1) := by decide +kernel
theorem dr_cX14_init_42 : decode cX14_init 42 = .ok (.invokevirtual 35, 3) := by decide +kernel
theorem dr_cX14_init_45 : decode cX14_init 45 = .ok (.return_, 1) := by decide +kernel
abbrev ky_658002_Reader_init : gKey := (cX14_init, 3, "SpillForgeModel$Reader", none, [], "<init>", fun _ _ => True)
def pp_658002_Reader_init (D : va_G) (I : FieldType → ClassId) (P657996 : List Nat) (F657997 : Nat → va_E) (q657998 : Nat) (q657999 : Nat) (p658000 : Int32) (f658001 : Nat → Int32) : Option Value → va_W → Nat → Nat → Prop := fun r w dc ds => ∃ (P658119 : List Nat) (F658120 : Nat → va_E) (o658112 : Int32) (o658113 : Int32) (o658114 : Int32) (o658115 : Int32) (q658116 : Nat) (q658117 : Nat) (q658118 : Nat), r = none ∧ w = va_pl P658119 F658120 ∧ rSub P657996 P658119 ∧ rFr [q657998] P657996 F657997 F658120 ∧ F658120 q658117 = .inl (I .int, 16, .inl (fun _ => 0)) ∧ F658120 q658118 = .inl (I .int, 16, .inl (fun _ => 0)) ∧ F658120 q657998 = .inr (19, [.ref q657999, .int p658000, .int o658112, .int o658113, .int o658114, .int o658115, .int 0, .ref q658116, .int (-1), .int 0, .int 0, .ref q658117, .ref q658118, .int 0]) ∧ F658120 q657999 = .inl (I .byte, 8192, .inl f658001) ∧ q658117 ∈ P658119 ∧ q658117 ∉ P657996 ∧ q658118 ∈ P658119 ∧ q658118 ∉ P657996 ∧ dc ≤ (16 * o658112.toInt : Int).toNat + 2 ∧ ds ≤ (160 * o658112.toInt : Int).toNat + 32 ∧ gB o658112 0 8192 ∧ gB o658113 0 6 ∧ gB o658114 0 8192 ∧ 0 ≤ o658112.toInt ∧ o658112.toInt ≤ p658000.toInt ∧ p658000.toInt = p658000.toInt ∧ tP I P658119 F658120 o658113 q658116 q658118 q658117 ∧ vP o658113 o658115 ∧ q658118 ≠ q658117 ∧ (16 : Int) = 16 ∧ (16 : Int) = 16 ∧ glP (fun _ => 0) ∧ 0 = 0 ∧ (-1) = -1 ∧ 0 = 0
set_option maxRecDepth 100000 in
set_option maxHeartbeats 4000000 in
theorem cp_658002_Reader_init (l : Launch) (hl0 : l.stackTraces = false) (D : va_G) (I : FieldType → ClassId) (P657996 : List Nat) (F657997 : Nat → va_E) (q657998 : Nat) (q657999 : Nat) (p658000 : Int32) (f658001 : Nat → Int32) (hmq657998 : q657998 ∈ P657996) (hmq657999 : q657999 ∈ P657996) (heq657998 : F657997 q657998 = .inr (19, [.null, .int 0, .int 0, .int 0, .int 0, .int 0, .int 0, .null, .int 0, .int 0, .int 0, .null, .null, .int 0])) (heq657999 : F657997 q657999 = .inl (I .byte, 8192, .inl f658001)) (bp658000 : gB p658000 0 8192) (bf658001 : gF f658001 (-128) 127) : CtA (gV D I) l yX14_init cX14_init 3 none 8 177 ((16 * p658000.toInt : Int).toNat + 2) ((160 * p658000.toInt : Int).toNat + 32) [.ref q657998, .ref q657999, .int p658000] (va_pl P657996 F657997) (pp_658002_Reader_init D I P657996 F657997 q657998 q657999 p658000 f658001) gNA := by
  refine CtA_of hl0 (by decide) (Nat.le_of_ble_eq_true rfl) ?_
  refine G_aload_n 0 dr_cX14_init_0 rfl ?_
  refine G_obj dr_cX14_init_1 wr_7_209 wr_1_51 wr_1_52 (Nat.le_of_ble_eq_true rfl) (Nat.le_of_ble_eq_true rfl) ?_
  refine G_aload_n 0 dr_cX14_init_4 rfl ?_
  refine G_ldcK (a := D.2 1000 32) dr_cX14_init_5 (fun _ _ _ h => gx_vk 32 rfl rfl h) ?_
  have hl32_658002 : (sb_32.length : Int) = 0 := rfl
  refine Gp_put 7 hmq657998 heq657998 dr_cX14_init_7 (gk_X14 D I) (Nat.le_of_ble_eq_true rfl) wr_9_39 rfl rfl rfl (Nat.le_of_ble_eq_true rfl) (fun F658004 e658005 n658006 => ?_)
  have he658007 : F658004 q657999 = .inl (I .byte, 8192, .inl f658001) := (n658006 q657999 (rn_ao heq657999 heq657998)).trans heq657999
  have he658008 : F658004 q657998 = .inr (19, [.null, .int 0, .int 0, .int 0, .int 0, .int 0, .int 0, .ref (D.2 1000 32), .int 0, .int 0, .int 0, .null, .null, .int 0]) := e658005
  have hfr658009 : rFr [q657998] P657996 F657997 F658004 := rFr_put (rFr_rf (W := []) (P := P657996) (F := F657997)) n658006
  refine G_aload_n 0 dr_cX14_init_10 rfl ?_
  refine G_iconst (-1) dr_cX14_init_11 (by decide +kernel) ?_
  refine Gp_put 8 hmq657998 he658008 dr_cX14_init_12 (gk_X14 D I) (Nat.le_of_ble_eq_true rfl) wr_9_40 rfl rfl rfl (Nat.le_of_ble_eq_true rfl) (fun F658010 e658011 n658012 => ?_)
  have he658013 : F658010 q657999 = .inl (I .byte, 8192, .inl f658001) := (n658012 q657999 (rn_ao he658007 he658008)).trans he658007
  have he658014 : F658010 q657998 = .inr (19, [.null, .int 0, .int 0, .int 0, .int 0, .int 0, .int 0, .ref (D.2 1000 32), .int (-1), .int 0, .int 0, .null, .null, .int 0]) := e658011
  have hfr658015 : rFr [q657998] P657996 F657997 F658010 := rFr_put' List.mem_cons_self hfr658009 n658012
  refine G_aload_n 0 dr_cX14_init_15 rfl ?_
  refine G_bipush 16 dr_cX14_init_16 (by decide +kernel) ?_
  refine G_newa 0 (16, .inl (fun _ => 0)) dr_cX14_init_18 rfl rfl (by intro C h; cases h) wr_1_95 (fun _ => ga_int _ _) (by decide) (by decide) (by decide) (show 0 + 1 ≤ ((16 * p658000.toInt : Int).toNat + 2) by first | omega | decide) (show 0 + 16 ≤ ((160 * p658000.toInt : Int).toNat + 32) by first | omega | decide) (fun q658016 => Gp_in (fun P658017 F658018 hq658019 hP658020 e658021 n658022 => ?_))
  refine G_widen (cs' := 1) (sl' := 16) (by omega) (by omega) ?_
  have he658023 : F658018 q657998 = .inr (19, [.null, .int 0, .int 0, .int 0, .int 0, .int 0, .int 0, .ref (D.2 1000 32), .int (-1), .int 0, .int 0, .null, .null, .int 0]) := (n658022 q657998 (fun h => hq658019 (h ▸ hmq657998))).trans he658014
  have he658024 : F658018 q657999 = .inl (I .byte, 8192, .inl f658001) := (n658022 q657999 (fun h => hq658019 (h ▸ hmq657999))).trans he658013
  have he658025 : F658018 q658016 = .inl (I .int, 16, .inl (fun _ => 0)) := e658021
  have hm658026 : q657998 ∈ P658017 := (hP658020 q657998).mpr (Or.inl hmq657998)
  have hm658027 : q657999 ∈ P658017 := (hP658020 q657999).mpr (Or.inl hmq657999)
  have hm658028 : q658016 ∈ P658017 := (hP658020 q658016).mpr (Or.inr rfl)
  have hq658029 : q658016 ∉ P657996 := fun z => hq658019 ((rSub_rf (P := P657996)) q658016 z)
  have hfr658030 : rFr [q657998] P657996 F657997 F658018 := rFr_new (rSub_rf (P := P657996)) hq658019 hfr658015 n658022
  have hsb658031 : rSub P657996 P658017 := rSub_new (rSub_rf (P := P657996)) hP658020
  refine Gp_put 11 hm658026 he658023 dr_cX14_init_20 (gk_X14 D I) (Nat.le_of_ble_eq_true rfl) wr_9_45 rfl rfl rfl (Nat.le_of_ble_eq_true rfl) (fun F658032 e658033 n658034 => ?_)
  have he658035 : F658032 q657999 = .inl (I .byte, 8192, .inl f658001) := (n658034 q657999 (rn_ao he658024 he658023)).trans he658024
  have he658036 : F658032 q658016 = .inl (I .int, 16, .inl (fun _ => 0)) := (n658034 q658016 (fun h => hq658029 (h ▸ hmq657998))).trans he658025
  have he658037 : F658032 q657998 = .inr (19, [.null, .int 0, .int 0, .int 0, .int 0, .int 0, .int 0, .ref (D.2 1000 32), .int (-1), .int 0, .int 0, .ref q658016, .null, .int 0]) := e658033
  have hfr658038 : rFr [q657998] P657996 F657997 F658032 := rFr_put' List.mem_cons_self hfr658030 n658034
  refine G_aload_n 0 dr_cX14_init_23 rfl ?_
  refine G_bipush 16 dr_cX14_init_24 (by decide +kernel) ?_
  refine G_newa 0 (16, .inl (fun _ => 0)) dr_cX14_init_26 rfl rfl (by intro C h; cases h) wr_1_95 (fun _ => ga_int _ _) (by decide) (by decide) (by decide) (show 1 + 1 ≤ ((16 * p658000.toInt : Int).toNat + 2) by first | omega | decide) (show 16 + 16 ≤ ((160 * p658000.toInt : Int).toNat + 32) by first | omega | decide) (fun q658039 => Gp_in (fun P658040 F658041 hq658042 hP658043 e658044 n658045 => ?_))
  refine G_widen (cs' := 2) (sl' := 32) (by omega) (by omega) ?_
  have he658046 : F658041 q657998 = .inr (19, [.null, .int 0, .int 0, .int 0, .int 0, .int 0, .int 0, .ref (D.2 1000 32), .int (-1), .int 0, .int 0, .ref q658016, .null, .int 0]) := (n658045 q657998 (fun h => hq658042 (h ▸ hm658026))).trans he658037
  have he658047 : F658041 q657999 = .inl (I .byte, 8192, .inl f658001) := (n658045 q657999 (fun h => hq658042 (h ▸ hm658027))).trans he658035
  have he658048 : F658041 q658016 = .inl (I .int, 16, .inl (fun _ => 0)) := (n658045 q658016 (fun h => hq658042 (h ▸ hm658028))).trans he658036
  have he658049 : F658041 q658039 = .inl (I .int, 16, .inl (fun _ => 0)) := e658044
  have hm658050 : q657998 ∈ P658040 := (hP658043 q657998).mpr (Or.inl hm658026)
  have hm658051 : q657999 ∈ P658040 := (hP658043 q657999).mpr (Or.inl hm658027)
  have hm658052 : q658016 ∈ P658040 := (hP658043 q658016).mpr (Or.inl hm658028)
  have hm658053 : q658039 ∈ P658040 := (hP658043 q658039).mpr (Or.inr rfl)
  have hq658054 : q658039 ∉ P657996 := fun z => hq658042 (hsb658031 q658039 z)
  have hfr658055 : rFr [q657998] P657996 F657997 F658041 := rFr_new hsb658031 hq658042 hfr658038 n658045
  have hsb658056 : rSub P657996 P658040 := rSub_new hsb658031 hP658043
  have hne658057 : q658016 ≠ q658039 := fun h => hq658042 (h ▸ hm658028)
  refine Gp_put 12 hm658050 he658046 dr_cX14_init_28 (gk_X14 D I) (Nat.le_of_ble_eq_true rfl) wr_9_46 rfl rfl rfl (Nat.le_of_ble_eq_true rfl) (fun F658058 e658059 n658060 => ?_)
  have he658061 : F658058 q657999 = .inl (I .byte, 8192, .inl f658001) := (n658060 q657999 (rn_ao he658047 he658046)).trans he658047
  have he658062 : F658058 q658016 = .inl (I .int, 16, .inl (fun _ => 0)) := (n658060 q658016 (fun h => hq658029 (h ▸ hmq657998))).trans he658048
  have he658063 : F658058 q658039 = .inl (I .int, 16, .inl (fun _ => 0)) := (n658060 q658039 (fun h => hq658054 (h ▸ hmq657998))).trans he658049
  have he658064 : F658058 q657998 = .inr (19, [.null, .int 0, .int 0, .int 0, .int 0, .int 0, .int 0, .ref (D.2 1000 32), .int (-1), .int 0, .int 0, .ref q658016, .ref q658039, .int 0]) := e658059
  have hfr658065 : rFr [q657998] P657996 F657997 F658058 := rFr_put' List.mem_cons_self hfr658055 n658060
  refine G_aload_n 0 dr_cX14_init_31 rfl ?_
  refine G_aload_n 1 dr_cX14_init_32 rfl ?_
  refine Gp_putF 0 hm658050 he658064 dr_cX14_init_33 (gk_X14 D I) (Nat.le_of_ble_eq_true rfl) wr_9_32 rfl rfl rfl rfl rfl (Nat.le_of_ble_eq_true rfl) (fun F658066 e658067 n658068 => ?_)
  have he658069 : F658066 q657999 = .inl (I .byte, 8192, .inl f658001) := (n658068 q657999 (rn_ao he658061 he658064)).trans he658061
  have he658070 : F658066 q658016 = .inl (I .int, 16, .inl (fun _ => 0)) := (n658068 q658016 (fun h => hq658029 (h ▸ hmq657998))).trans he658062
  have he658071 : F658066 q658039 = .inl (I .int, 16, .inl (fun _ => 0)) := (n658068 q658039 (fun h => hq658054 (h ▸ hmq657998))).trans he658063
  have he658072 : F658066 q657998 = .inr (19, [.ref q657999, .int 0, .int 0, .int 0, .int 0, .int 0, .int 0, .ref (D.2 1000 32), .int (-1), .int 0, .int 0, .ref q658016, .ref q658039, .int 0]) := e658067
  have hfr658073 : rFr [q657998] P657996 F657997 F658066 := rFr_put' List.mem_cons_self hfr658065 n658068
  refine G_aload_n 0 dr_cX14_init_36 rfl ?_
  refine G_iload_n 2 dr_cX14_init_37 rfl ?_
  refine Gp_putF 1 hm658050 he658072 dr_cX14_init_38 (gk_X14 D I) (Nat.le_of_ble_eq_true rfl) wr_9_33 rfl rfl rfl rfl rfl (Nat.le_of_ble_eq_true rfl) (fun F658074 e658075 n658076 => ?_)
  have he658077 : F658074 q657999 = .inl (I .byte, 8192, .inl f658001) := (n658076 q657999 (rn_ao he658069 he658072)).trans he658069
  have he658078 : F658074 q658016 = .inl (I .int, 16, .inl (fun _ => 0)) := (n658076 q658016 (fun h => hq658029 (h ▸ hmq657998))).trans he658070
  have he658079 : F658074 q658039 = .inl (I .int, 16, .inl (fun _ => 0)) := (n658076 q658039 (fun h => hq658054 (h ▸ hmq657998))).trans he658071
  have he658080 : F658074 q657998 = .inr (19, [.ref q657999, .int p658000, .int 0, .int 0, .int 0, .int 0, .int 0, .ref (D.2 1000 32), .int (-1), .int 0, .int 0, .ref q658016, .ref q658039, .int 0]) := e658075
  have hfr658081 : rFr [q657998] P657996 F657997 F658074 := rFr_put' List.mem_cons_self hfr658073 n658076
  refine G_aload_n 0 dr_cX14_init_41 rfl ?_
  refine Gw_callV (As := []) (gV_ok D I) (cp_653656_Reader_next l hl0 D I P658040 F658074 q657998 q657999 p658000 0 0 0 0 0 (D.2 1000 32) (-1) 0 0 q658016 q658039 0 f658001 hm658050 hm658051 he658080 he658077 bp658000 (gB_w (gBl (show Int32.toInt 0 = 0 by decide)) (by decide) (by decide)) (gB_w (gBl (show Int32.toInt 0 = 0 by decide)) (by decide) (by decide)) (gB_w (gBl (show Int32.toInt 0 = 0 by decide)) (by decide) (by decide)) (gB_w (gBl (show Int32.toInt 0 = 0 by decide)) (by decide) (by decide)) (gB_w (gBl (show Int32.toInt (-1) = (-1) by decide)) (by decide) (by decide)) (gB_w (gBl (show Int32.toInt 0 = 0 by decide)) (by decide) (by decide)) (gB_w (gBl (show Int32.toInt 0 = 0 by decide)) (by decide) (by decide)) (gB_w (gBl (show Int32.toInt 0 = 0 by decide)) (by decide) (by decide)) bf658001 (by have qa0 : Int32.toInt (-1) = (-1) := (by decide); have qa1 : Int32.toInt 0 = 0 := (by decide); omega) hm658053 hm658052) dr_cX14_init_42 ⟨wr_7_211, wr_1_32, wr_7_214, by decide, rfl, (Nat.le_of_ble_eq_true rfl), (Nat.le_of_ble_eq_true rfl)⟩ wr_7_213 wr_p_75 hm658050 he658080 rfl (show 2 + ((16 * (p658000.toInt - 0)).toNat) ≤ ((16 * p658000.toInt : Int).toNat + 2) by first | omega | decide) (show 32 + ((160 * (p658000.toInt - 0)).toNat) ≤ ((160 * p658000.toInt : Int).toNat + 32) by first | omega | decide) (Nat.le_of_ble_eq_true rfl) (fun r658085 w658086 dc658082 ds658083 hp658084 => ?_) (fun _ _ _ _ _ z => z.elim)
  obtain ⟨P658097, F658098, o658087, o658088, o658089, o658090, q658091, rfl, rfl, hsb658099, hfr658100, he658101, he658102, hdc, hds, bo658087, bo658088, bo658089, x658092, x658093, x658094, x658095, x658096⟩ := hp658084
  have hm658103 : q657998 ∈ P658097 := hsb658099 q657998 hm658050
  have hm658104 : q657999 ∈ P658097 := hsb658099 q657999 hm658051
  have hm658105 : q658016 ∈ P658097 := hsb658099 q658016 hm658052
  have hm658106 : q658039 ∈ P658097 := hsb658099 q658039 hm658053
  have hsb658107 : rSub P657996 P658097 := rSub_tr hsb658056 hsb658099
  have he658108 : F658098 q658016 = .inl (I .int, 16, .inl (fun _ => 0)) := (hfr658100 q658016 hm658052 (nm_c (fun h => hq658029 (h ▸ hmq657998)) nm_n)).trans he658078
  have he658109 : F658098 q658039 = .inl (I .int, 16, .inl (fun _ => 0)) := (hfr658100 q658039 hm658053 (nm_c (fun h => hq658054 (h ▸ hmq657998)) nm_n)).trans he658079
  have hfr658110 : rFr [q657998] P657996 F657997 F658098 := rFr_call hsb658056 hfr658081 hfr658100 (fun b hb hn => ⟨(nm_c (fun e => hn (e ▸ List.mem_cons_self)) nm_n), (nm_c (fun e => hn (e ▸ List.mem_cons_self)) nm_n)⟩)
  have bo658090 := gB_any o658090
  rw [show Int32.toInt 0 = 0 from by decide] at x658092
  change G _ _ _ _ _ _ _ _ _ _ _
  have qz658111 : Int32.toInt 0 = 0 := by decide
  refine G_widen (cs' := 2 + ((16 * (o658087.toInt - 0)).toNat)) (sl' := 32 + ((160 * (o658087.toInt - 0)).toNat)) (by omega) (by omega) ?_
  exact G_vretA dr_cX14_init_45 rfl (show 2 + ((16 * (o658087.toInt - 0)).toNat) ≤ ((16 * p658000.toInt : Int).toNat + 2) by omega) (show 32 + ((160 * (o658087.toInt - 0)).toNat) ≤ ((160 * p658000.toInt : Int).toNat + 32) by omega) ⟨P658097, F658098, o658087, o658088, o658089, o658090, q658091, q658016, q658039, rfl, rfl, hsb658107, hfr658110, he658108, he658109, he658101, he658102, hm658105, hq658029, hm658106, hq658054, (by omega), (by omega), bo658087, bo658088, bo658089, (by have qa0 : Int32.toInt (-1) = (-1) := (by decide); have qa1 : Int32.toInt 0 = 0 := (by decide); omega), (by have qa0 : Int32.toInt (-1) = (-1) := (by decide); have qa1 : Int32.toInt 0 = 0 := (by decide); omega), (by have qa0 : Int32.toInt (-1) = (-1) := (by decide); have qa1 : Int32.toInt 0 = 0 := (by decide); omega), x658095, x658096, (Ne.symm hne658057), (by have qa0 : Int32.toInt (-1) = (-1) := (by decide); have qa1 : Int32.toInt 0 = 0 := (by decide); omega), (by have qa0 : Int32.toInt (-1) = (-1) := (by decide); have qa1 : Int32.toInt 0 = 0 := (by decide); omega), glP_0, (by have qa0 : Int32.toInt (-1) = (-1) := (by decide); have qa1 : Int32.toInt 0 = 0 := (by decide); omega), (by have qa0 : Int32.toInt (-1) = (-1) := (by decide); have qa1 : Int32.toInt 0 = 0 := (by decide); omega), (by have qa0 : Int32.toInt (-1) = (-1) := (by decide); have qa1 : Int32.toInt 0 = 0 := (by decide); omega)⟩
