theorem dr_cX14_init_0 : decode cX14_init 0 = .ok (.aload_n 0, 1) := by decide +kernel
theorem dr_cX14_init_1 : decode cX14_init 1 = .ok (.invokespecial 3, 3) := by decide +kernel
theorem wr_7_213 : (Jvm.Cond.methodLink "SpillForgeModel$Reader" (3 : Nat) ({ cls := "java/lang/Object", name := "<init>", desc := "()V" } : Jvm.MethodName)) ∈ gw := gw_7 213 rfl rfl
theorem dr_cX14_init_4 : decode cX14_init 4 = .ok (.aload_n 0, 1) := by decide +kernel
theorem dr_cX14_init_5 : decode cX14_init 5 = .ok (.ldc 9, 2) := by decide +kernel
theorem dr_cX14_init_7 : decode cX14_init 7 = .ok (.putfield 11, 3) := by decide +kernel
theorem dr_cX14_init_10 : decode cX14_init 10 = .ok (.aload_n 0, 1) := by decide +kernel
theorem dr_cX14_init_11 : decode cX14_init 11 = .ok (.iconst (-1), 1) := by decide +kernel
theorem dr_cX14_init_12 : decode cX14_init 12 = .ok (.putfield 17, 3) := by decide +kernel
theorem dr_cX14_init_15 : decode cX14_init 15 = .ok (.aload_n 0, 1) := by decide +kernel
theorem dr_cX14_init_16 : decode cX14_init 16 = .ok (.bipush 16, 2) := by decide +kernel
theorem dr_cX14_init_18 : decode cX14_init 18 = .ok (.newarray .int, 2) := by decide +kernel
theorem dr_cX14_init_20 : decode cX14_init 20 = .ok (.putfield 21, 3) := by decide +kernel
theorem dr_cX14_init_23 : decode cX14_init 23 = .ok (.aload_n 0, 1) := by decide +kernel
theorem dr_cX14_init_24 : decode cX14_init 24 = .ok (.bipush 16, 2) := by decide +kernel
theorem dr_cX14_init_26 : decode cX14_init 26 = .ok (.newarray .int, 2) := by decide +kernel
theorem dr_cX14_init_28 : decode cX14_init 28 = .ok (.putfield 25, 3) := by decide +kernel
theorem dr_cX14_init_31 : decode cX14_init 31 = .ok (.aload_n 0, 1) := by decide +kernel
theorem dr_cX14_init_32 : decode cX14_init 32 = .ok (.aload_n 1, 1) := by decide +kernel
theorem dr_cX14_init_33 : decode cX14_init 33 = .ok (.putfield 28, 3) := by decide +kernel
theorem dr_cX14_init_36 : decode cX14_init 36 = .ok (.aload_n 0, 1) := by decide +kernel
theorem dr_cX14_init_37 : decode cX14_init 37 = .ok (.iload_n 2, 1) := by decide +kernel
theorem dr_cX14_init_38 : decode cX14_init 38 = .ok (.putfield 32, 3) := by decide +kernel
theorem dr_cX14_init_41 : decode cX14_init 41 = .ok (.aload_n 0, 1) := by decide +kernel
theorem dr_cX14_init_42 : decode cX14_init 42 = .ok (.invokevirtual 35, 3) := by decide +kernel
theorem dr_cX14_init_45 : decode cX14_init 45 = .ok (.return_, 1) := by decide +kernel
abbrev ky_677081_Reader_init : gKey := (cX14_init, 3, "SpillForgeModel$Reader", none, [], "<init>", fun _ _ => True)
def pp_677081_Reader_init (D : va_G) (I : FieldType → ClassId) (P677075 : List Nat) (F677076 : Nat → va_E) (q677077 : Nat) (q677078 : Nat) (p677079 : Int32) (f677080 : Nat → Int32) : Option Value → va_W → Nat → Nat → Prop := fun r w dc ds => ∃ (P677200 : List Nat) (F677201 : Nat → va_E) (o677193 : Int32) (o677194 : Int32) (o677195 : Int32) (o677196 : Int32) (q677197 : Nat) (q677198 : Nat) (q677199 : Nat) (xt677202 : gTx), r = none ∧ w = va_pl P677200 F677201 ∧ rSub P677075 P677200 ∧ rFr [q677077] P677075 F677076 F677201 ∧ F677201 q677198 = .inl (I .int, 16, .inl (fun _ => 0)) ∧ F677201 q677199 = .inl (I .int, 16, .inl (fun _ => 0)) ∧ F677201 q677077 = .inr (19, [.ref q677078, .int p677079, .int o677193, .int o677194, .int o677195, .int o677196, .int 0, .ref q677197, .int (-1), .int 0, .int 0, .ref q677198, .ref q677199, .int 0]) ∧ F677201 q677078 = .inl (I .byte, 8192, .inl f677080) ∧ q677198 ∈ P677200 ∧ q677198 ∉ P677075 ∧ q677199 ∈ P677200 ∧ q677199 ∉ P677075 ∧ dc ≤ (16 * o677193.toInt : Int).toNat + 2 ∧ ds ≤ (160 * o677193.toInt : Int).toNat + 32 ∧ gB o677193 0 8192 ∧ gB o677194 0 6 ∧ gB o677195 0 8192 ∧ 0 ≤ o677193.toInt ∧ o677193.toInt ≤ p677079.toInt ∧ p677079.toInt = p677079.toInt ∧ tP I P677200 F677201 o677194 q677197 q677199 q677198 xt677202 ∧ vP o677194 o677196 ∧ q677199 ≠ q677198 ∧ (16 : Int) = 16 ∧ (16 : Int) = 16 ∧ glP (fun _ => 0) ∧ 0 = 0 ∧ (-1) = -1 ∧ 0 = 0 ∧ tr_RReader_init p677079 f677080 o677193 o677194 o677195 o677196 xt677202
set_option maxRecDepth 100000 in
set_option maxHeartbeats 4000000 in
theorem cp_677081_Reader_init (l : Launch) (hl0 : l.stackTraces = false) (D : va_G) (I : FieldType → ClassId) (P677075 : List Nat) (F677076 : Nat → va_E) (q677077 : Nat) (q677078 : Nat) (p677079 : Int32) (f677080 : Nat → Int32) (hmq677077 : q677077 ∈ P677075) (hmq677078 : q677078 ∈ P677075) (heq677077 : F677076 q677077 = .inr (19, [.null, .int 0, .int 0, .int 0, .int 0, .int 0, .int 0, .null, .int 0, .int 0, .int 0, .null, .null, .int 0])) (heq677078 : F677076 q677078 = .inl (I .byte, 8192, .inl f677080)) (bp677079 : gB p677079 0 8192) (bf677080 : gF f677080 (-128) 127) : CtA (gV D I) l yX14_init cX14_init 3 none 8 177 ((16 * p677079.toInt : Int).toNat + 2) ((160 * p677079.toInt : Int).toNat + 32) [.ref q677077, .ref q677078, .int p677079] (va_pl P677075 F677076) (pp_677081_Reader_init D I P677075 F677076 q677077 q677078 p677079 f677080) gNA := by
  refine CtA_of hl0 (by decide) (Nat.le_of_ble_eq_true rfl) ?_
  refine G_aload_n 0 dr_cX14_init_0 rfl ?_
  refine G_obj dr_cX14_init_1 wr_7_213 wr_1_51 wr_1_52 (Nat.le_of_ble_eq_true rfl) (Nat.le_of_ble_eq_true rfl) ?_
  refine G_aload_n 0 dr_cX14_init_4 rfl ?_
  refine G_ldcK (a := D.2 1000 32) dr_cX14_init_5 (fun _ _ _ h => gx_vk 32 rfl rfl h) ?_
  have hl32_677081 : (sb_32.length : Int) = 0 := rfl
  refine Gp_put 7 hmq677077 heq677077 dr_cX14_init_7 (gk_X14 D I) (Nat.le_of_ble_eq_true rfl) wr_9_43 rfl rfl rfl (Nat.le_of_ble_eq_true rfl) (fun F677083 e677084 n677085 => ?_)
  have he677086 : F677083 q677078 = .inl (I .byte, 8192, .inl f677080) := (n677085 q677078 (rn_ao heq677078 heq677077)).trans heq677078
  have he677087 : F677083 q677077 = .inr (19, [.null, .int 0, .int 0, .int 0, .int 0, .int 0, .int 0, .ref (D.2 1000 32), .int 0, .int 0, .int 0, .null, .null, .int 0]) := e677084
  have hfr677088 : rFr [q677077] P677075 F677076 F677083 := rFr_put (rFr_rf (W := []) (P := P677075) (F := F677076)) n677085
  refine G_aload_n 0 dr_cX14_init_10 rfl ?_
  refine G_iconst (-1) dr_cX14_init_11 (by decide +kernel) ?_
  refine Gp_put 8 hmq677077 he677087 dr_cX14_init_12 (gk_X14 D I) (Nat.le_of_ble_eq_true rfl) wr_9_44 rfl rfl rfl (Nat.le_of_ble_eq_true rfl) (fun F677089 e677090 n677091 => ?_)
  have he677092 : F677089 q677078 = .inl (I .byte, 8192, .inl f677080) := (n677091 q677078 (rn_ao he677086 he677087)).trans he677086
  have he677093 : F677089 q677077 = .inr (19, [.null, .int 0, .int 0, .int 0, .int 0, .int 0, .int 0, .ref (D.2 1000 32), .int (-1), .int 0, .int 0, .null, .null, .int 0]) := e677090
  have hfr677094 : rFr [q677077] P677075 F677076 F677089 := rFr_put' List.mem_cons_self hfr677088 n677091
  refine G_aload_n 0 dr_cX14_init_15 rfl ?_
  refine G_bipush 16 dr_cX14_init_16 (by decide +kernel) ?_
  refine G_newa 0 (16, .inl (fun _ => 0)) dr_cX14_init_18 rfl rfl (by intro C h; cases h) wr_1_95 (fun _ => ga_int _ _) (by decide) (by decide) (by decide) (show 0 + 1 ≤ ((16 * p677079.toInt : Int).toNat + 2) by first | omega | decide) (show 0 + 16 ≤ ((160 * p677079.toInt : Int).toNat + 32) by first | omega | decide) (fun q677095 => Gp_in (fun P677096 F677097 hq677098 hP677099 e677100 n677101 => ?_))
  refine G_widen (cs' := 1) (sl' := 16) (by omega) (by omega) ?_
  have he677102 : F677097 q677077 = .inr (19, [.null, .int 0, .int 0, .int 0, .int 0, .int 0, .int 0, .ref (D.2 1000 32), .int (-1), .int 0, .int 0, .null, .null, .int 0]) := (n677101 q677077 (fun h => hq677098 (h ▸ hmq677077))).trans he677093
  have he677103 : F677097 q677078 = .inl (I .byte, 8192, .inl f677080) := (n677101 q677078 (fun h => hq677098 (h ▸ hmq677078))).trans he677092
  have he677104 : F677097 q677095 = .inl (I .int, 16, .inl (fun _ => 0)) := e677100
  have hm677105 : q677077 ∈ P677096 := (hP677099 q677077).mpr (Or.inl hmq677077)
  have hm677106 : q677078 ∈ P677096 := (hP677099 q677078).mpr (Or.inl hmq677078)
  have hm677107 : q677095 ∈ P677096 := (hP677099 q677095).mpr (Or.inr rfl)
  have hq677108 : q677095 ∉ P677075 := fun z => hq677098 ((rSub_rf (P := P677075)) q677095 z)
  have hfr677109 : rFr [q677077] P677075 F677076 F677097 := rFr_new (rSub_rf (P := P677075)) hq677098 hfr677094 n677101
  have hsb677110 : rSub P677075 P677096 := rSub_new (rSub_rf (P := P677075)) hP677099
  refine Gp_put 11 hm677105 he677102 dr_cX14_init_20 (gk_X14 D I) (Nat.le_of_ble_eq_true rfl) wr_9_49 rfl rfl rfl (Nat.le_of_ble_eq_true rfl) (fun F677111 e677112 n677113 => ?_)
  have he677114 : F677111 q677078 = .inl (I .byte, 8192, .inl f677080) := (n677113 q677078 (rn_ao he677103 he677102)).trans he677103
  have he677115 : F677111 q677095 = .inl (I .int, 16, .inl (fun _ => 0)) := (n677113 q677095 (fun h => hq677108 (h ▸ hmq677077))).trans he677104
  have he677116 : F677111 q677077 = .inr (19, [.null, .int 0, .int 0, .int 0, .int 0, .int 0, .int 0, .ref (D.2 1000 32), .int (-1), .int 0, .int 0, .ref q677095, .null, .int 0]) := e677112
  have hfr677117 : rFr [q677077] P677075 F677076 F677111 := rFr_put' List.mem_cons_self hfr677109 n677113
  refine G_aload_n 0 dr_cX14_init_23 rfl ?_
  refine G_bipush 16 dr_cX14_init_24 (by decide +kernel) ?_
  refine G_newa 0 (16, .inl (fun _ => 0)) dr_cX14_init_26 rfl rfl (by intro C h; cases h) wr_1_95 (fun _ => ga_int _ _) (by decide) (by decide) (by decide) (show 1 + 1 ≤ ((16 * p677079.toInt : Int).toNat + 2) by first | omega | decide) (show 16 + 16 ≤ ((160 * p677079.toInt : Int).toNat + 32) by first | omega | decide) (fun q677118 => Gp_in (fun P677119 F677120 hq677121 hP677122 e677123 n677124 => ?_))
  refine G_widen (cs' := 2) (sl' := 32) (by omega) (by omega) ?_
  have he677125 : F677120 q677077 = .inr (19, [.null, .int 0, .int 0, .int 0, .int 0, .int 0, .int 0, .ref (D.2 1000 32), .int (-1), .int 0, .int 0, .ref q677095, .null, .int 0]) := (n677124 q677077 (fun h => hq677121 (h ▸ hm677105))).trans he677116
  have he677126 : F677120 q677078 = .inl (I .byte, 8192, .inl f677080) := (n677124 q677078 (fun h => hq677121 (h ▸ hm677106))).trans he677114
  have he677127 : F677120 q677095 = .inl (I .int, 16, .inl (fun _ => 0)) := (n677124 q677095 (fun h => hq677121 (h ▸ hm677107))).trans he677115
  have he677128 : F677120 q677118 = .inl (I .int, 16, .inl (fun _ => 0)) := e677123
  have hm677129 : q677077 ∈ P677119 := (hP677122 q677077).mpr (Or.inl hm677105)
  have hm677130 : q677078 ∈ P677119 := (hP677122 q677078).mpr (Or.inl hm677106)
  have hm677131 : q677095 ∈ P677119 := (hP677122 q677095).mpr (Or.inl hm677107)
  have hm677132 : q677118 ∈ P677119 := (hP677122 q677118).mpr (Or.inr rfl)
  have hq677133 : q677118 ∉ P677075 := fun z => hq677121 (hsb677110 q677118 z)
  have hfr677134 : rFr [q677077] P677075 F677076 F677120 := rFr_new hsb677110 hq677121 hfr677117 n677124
  have hsb677135 : rSub P677075 P677119 := rSub_new hsb677110 hP677122
  have hne677136 : q677095 ≠ q677118 := fun h => hq677121 (h ▸ hm677107)
  refine Gp_put 12 hm677129 he677125 dr_cX14_init_28 (gk_X14 D I) (Nat.le_of_ble_eq_true rfl) wr_9_50 rfl rfl rfl (Nat.le_of_ble_eq_true rfl) (fun F677137 e677138 n677139 => ?_)
  have he677140 : F677137 q677078 = .inl (I .byte, 8192, .inl f677080) := (n677139 q677078 (rn_ao he677126 he677125)).trans he677126
  have he677141 : F677137 q677095 = .inl (I .int, 16, .inl (fun _ => 0)) := (n677139 q677095 (fun h => hq677108 (h ▸ hmq677077))).trans he677127
  have he677142 : F677137 q677118 = .inl (I .int, 16, .inl (fun _ => 0)) := (n677139 q677118 (fun h => hq677133 (h ▸ hmq677077))).trans he677128
  have he677143 : F677137 q677077 = .inr (19, [.null, .int 0, .int 0, .int 0, .int 0, .int 0, .int 0, .ref (D.2 1000 32), .int (-1), .int 0, .int 0, .ref q677095, .ref q677118, .int 0]) := e677138
  have hfr677144 : rFr [q677077] P677075 F677076 F677137 := rFr_put' List.mem_cons_self hfr677134 n677139
  refine G_aload_n 0 dr_cX14_init_31 rfl ?_
  refine G_aload_n 1 dr_cX14_init_32 rfl ?_
  refine Gp_putF 0 hm677129 he677143 dr_cX14_init_33 (gk_X14 D I) (Nat.le_of_ble_eq_true rfl) wr_9_36 rfl rfl rfl rfl rfl (Nat.le_of_ble_eq_true rfl) (fun F677145 e677146 n677147 => ?_)
  have he677148 : F677145 q677078 = .inl (I .byte, 8192, .inl f677080) := (n677147 q677078 (rn_ao he677140 he677143)).trans he677140
  have he677149 : F677145 q677095 = .inl (I .int, 16, .inl (fun _ => 0)) := (n677147 q677095 (fun h => hq677108 (h ▸ hmq677077))).trans he677141
  have he677150 : F677145 q677118 = .inl (I .int, 16, .inl (fun _ => 0)) := (n677147 q677118 (fun h => hq677133 (h ▸ hmq677077))).trans he677142
  have he677151 : F677145 q677077 = .inr (19, [.ref q677078, .int 0, .int 0, .int 0, .int 0, .int 0, .int 0, .ref (D.2 1000 32), .int (-1), .int 0, .int 0, .ref q677095, .ref q677118, .int 0]) := e677146
  have hfr677152 : rFr [q677077] P677075 F677076 F677145 := rFr_put' List.mem_cons_self hfr677144 n677147
  refine G_aload_n 0 dr_cX14_init_36 rfl ?_
  refine G_iload_n 2 dr_cX14_init_37 rfl ?_
  refine Gp_putF 1 hm677129 he677151 dr_cX14_init_38 (gk_X14 D I) (Nat.le_of_ble_eq_true rfl) wr_9_37 rfl rfl rfl rfl rfl (Nat.le_of_ble_eq_true rfl) (fun F677153 e677154 n677155 => ?_)
  have he677156 : F677153 q677078 = .inl (I .byte, 8192, .inl f677080) := (n677155 q677078 (rn_ao he677148 he677151)).trans he677148
  have he677157 : F677153 q677095 = .inl (I .int, 16, .inl (fun _ => 0)) := (n677155 q677095 (fun h => hq677108 (h ▸ hmq677077))).trans he677149
  have he677158 : F677153 q677118 = .inl (I .int, 16, .inl (fun _ => 0)) := (n677155 q677118 (fun h => hq677133 (h ▸ hmq677077))).trans he677150
  have he677159 : F677153 q677077 = .inr (19, [.ref q677078, .int p677079, .int 0, .int 0, .int 0, .int 0, .int 0, .ref (D.2 1000 32), .int (-1), .int 0, .int 0, .ref q677095, .ref q677118, .int 0]) := e677154
  have hfr677160 : rFr [q677077] P677075 F677076 F677153 := rFr_put' List.mem_cons_self hfr677152 n677155
  refine G_aload_n 0 dr_cX14_init_41 rfl ?_
  refine Gw_callV (As := []) (gV_ok D I) (cp_672530_Reader_next l hl0 D I P677119 F677153 q677077 q677078 p677079 0 0 0 0 0 (D.2 1000 32) (-1) 0 0 q677095 q677118 0 f677080 hm677129 hm677130 he677159 he677156 bp677079 (gB_w (gBl (show Int32.toInt 0 = 0 by decide)) (by decide) (by decide)) (gB_w (gBl (show Int32.toInt 0 = 0 by decide)) (by decide) (by decide)) (gB_w (gBl (show Int32.toInt 0 = 0 by decide)) (by decide) (by decide)) (gB_w (gBl (show Int32.toInt 0 = 0 by decide)) (by decide) (by decide)) (gB_w (gBl (show Int32.toInt (-1) = (-1) by decide)) (by decide) (by decide)) (gB_w (gBl (show Int32.toInt 0 = 0 by decide)) (by decide) (by decide)) (gB_w (gBl (show Int32.toInt 0 = 0 by decide)) (by decide) (by decide)) (gB_w (gBl (show Int32.toInt 0 = 0 by decide)) (by decide) (by decide)) bf677080 (by have qa0 : Int32.toInt (-1) = (-1) := (by decide); have qa1 : Int32.toInt 0 = 0 := (by decide); omega) hm677132 hm677131) dr_cX14_init_42 ⟨wr_7_215, wr_1_32, wr_7_218, by decide, rfl, (Nat.le_of_ble_eq_true rfl), (Nat.le_of_ble_eq_true rfl)⟩ wr_7_217 wr_p_75 hm677129 he677159 rfl (show 2 + ((16 * (p677079.toInt - 0)).toNat) ≤ ((16 * p677079.toInt : Int).toNat + 2) by first | omega | decide) (show 32 + ((160 * (p677079.toInt - 0)).toNat) ≤ ((160 * p677079.toInt : Int).toNat + 32) by first | omega | decide) (Nat.le_of_ble_eq_true rfl) (fun r677164 w677165 dc677161 ds677162 hp677163 => ?_) (fun _ _ _ _ _ z => z.elim)
  obtain ⟨P677178, F677179, o677166, o677167, o677168, o677169, q677170, xt677177, rfl, rfl, hsb677180, hfr677181, he677182, he677183, hdc, hds, bo677166, bo677167, bo677168, x677171, x677172, x677173, x677174, x677175, ht677176⟩ := hp677163
  have hm677184 : q677077 ∈ P677178 := hsb677180 q677077 hm677129
  have hm677185 : q677078 ∈ P677178 := hsb677180 q677078 hm677130
  have hm677186 : q677095 ∈ P677178 := hsb677180 q677095 hm677131
  have hm677187 : q677118 ∈ P677178 := hsb677180 q677118 hm677132
  have hsb677188 : rSub P677075 P677178 := rSub_tr hsb677135 hsb677180
  have he677189 : F677179 q677095 = .inl (I .int, 16, .inl (fun _ => 0)) := (hfr677181 q677095 hm677131 (nm_c (fun h => hq677108 (h ▸ hmq677077)) nm_n)).trans he677157
  have he677190 : F677179 q677118 = .inl (I .int, 16, .inl (fun _ => 0)) := (hfr677181 q677118 hm677132 (nm_c (fun h => hq677133 (h ▸ hmq677077)) nm_n)).trans he677158
  have hfr677191 : rFr [q677077] P677075 F677076 F677179 := rFr_call hsb677135 hfr677160 hfr677181 (fun b hb hn => ⟨(nm_c (fun e => hn (e ▸ List.mem_cons_self)) nm_n), (nm_c (fun e => hn (e ▸ List.mem_cons_self)) nm_n)⟩)
  have bo677169 := gB_any o677169
  rw [show Int32.toInt 0 = 0 from by decide] at x677171
  change G _ _ _ _ _ _ _ _ _ _ _
  have qz677192 : Int32.toInt 0 = 0 := by decide
  refine G_widen (cs' := 2 + ((16 * (o677166.toInt - 0)).toNat)) (sl' := 32 + ((160 * (o677166.toInt - 0)).toNat)) (by omega) (by omega) ?_
  exact G_vretA dr_cX14_init_45 rfl (show 2 + ((16 * (o677166.toInt - 0)).toNat) ≤ ((16 * p677079.toInt : Int).toNat + 2) by omega) (show 32 + ((160 * (o677166.toInt - 0)).toNat) ≤ ((160 * p677079.toInt : Int).toNat + 32) by omega) ⟨P677178, F677179, o677166, o677167, o677168, o677169, q677170, q677095, q677118, xt677177, rfl, rfl, hsb677188, hfr677191, he677189, he677190, he677182, he677183, hm677186, hq677108, hm677187, hq677133, (by omega), (by omega), bo677166, bo677167, bo677168, (by have qa0 : Int32.toInt (-1) = (-1) := (by decide); have qa1 : Int32.toInt 0 = 0 := (by decide); omega), (by have qa0 : Int32.toInt (-1) = (-1) := (by decide); have qa1 : Int32.toInt 0 = 0 := (by decide); omega), (by have qa0 : Int32.toInt (-1) = (-1) := (by decide); have qa1 : Int32.toInt 0 = 0 := (by decide); omega), x677174, x677175, (Ne.symm hne677136), (by have qa0 : Int32.toInt (-1) = (-1) := (by decide); have qa1 : Int32.toInt 0 = 0 := (by decide); omega), (by have qa0 : Int32.toInt (-1) = (-1) := (by decide); have qa1 : Int32.toInt 0 = 0 := (by decide); omega), glP_0, (by have qa0 : Int32.toInt (-1) = (-1) := (by decide); have qa1 : Int32.toInt 0 = 0 := (by decide); omega), (by have qa0 : Int32.toInt (-1) = (-1) := (by decide); have qa1 : Int32.toInt 0 = 0 := (by decide); omega), (by have qa0 : Int32.toInt (-1) = (-1) := (by decide); have qa1 : Int32.toInt 0 = 0 := (by decide); omega), (fun R c1 => c1 xt677177 o677166 o677167 o677168 o677169 bo677166 bo677167 bo677168 ht677176)⟩
