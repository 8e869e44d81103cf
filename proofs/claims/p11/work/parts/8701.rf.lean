theorem dr_cX13_init_0 : decode cX13_init 0 = .ok (.aload_n 0, 1) := by decide +kernel
theorem dr_cX13_init_1 : decode cX13_init 1 = .ok (.invokespecial 1, 3) := by decide +kernel
theorem wr_7_2 : (Jvm.Cond.methodLink "SpillForgeModel$Code" (1 : Nat) ({ cls := "java/lang/Object", name := "<init>", desc := "()V" } : Jvm.MethodName)) ∈ gw := gw_7 2 rfl rfl
theorem dr_cX13_init_4 : decode cX13_init 4 = .ok (.aload_n 0, 1) := by decide +kernel
theorem dr_cX13_init_5 : decode cX13_init 5 = .ok (.new 7, 3) := by decide +kernel
theorem wr_7_3 : (Jvm.Cond.classLink "SpillForgeModel$Code" (7 : Nat) "java/util/ArrayList") ∈ gw := gw_7 3 rfl rfl
theorem dr_cX13_init_8 : decode cX13_init 8 = .ok (.dup, 1) := by decide +kernel
theorem dr_cX13_init_9 : decode cX13_init 9 = .ok (.invokespecial 9, 3) := by decide +kernel
theorem wr_7_5 : (Jvm.Cond.methodLink "SpillForgeModel$Code" (9 : Nat) ({ cls := "java/util/ArrayList", name := "<init>", desc := "()V" } : Jvm.MethodName)) ∈ gw := gw_7 5 rfl rfl
theorem dr_cX13_init_12 : decode cX13_init 12 = .ok (.putfield 10, 3) := by decide +kernel
theorem dr_cX13_init_15 : decode cX13_init 15 = .ok (.aload_n 0, 1) := by decide +kernel
theorem dr_cX13_init_16 : decode cX13_init 16 = .ok (.new 7, 3) := by decide +kernel
theorem dr_cX13_init_19 : decode cX13_init 19 = .ok (.dup, 1) := by decide +kernel
theorem dr_cX13_init_20 : decode cX13_init 20 = .ok (.invokespecial 9, 3) := by decide +kernel
theorem dr_cX13_init_23 : decode cX13_init 23 = .ok (.putfield 16, 3) := by decide +kernel
theorem dr_cX13_init_26 : decode cX13_init 26 = .ok (.return_, 1) := by decide +kernel
theorem dr_cX17_init_0 : decode cX17_init 0 = .ok (.aload_n 0, 1) := by decide +kernel
theorem dr_cX17_init_1 : decode cX17_init 1 = .ok (.invokespecial 356, 3) := by decide +kernel
theorem wr_6_234 : (Jvm.Cond.methodLink "SpillForgeModel" (356 : Nat) ({ cls := "java/lang/Object", name := "<init>", desc := "()V" } : Jvm.MethodName)) ∈ gw := gw_6 234 rfl rfl
theorem dr_cX17_init_4 : decode cX17_init 4 = .ok (.aload_n 0, 1) := by decide +kernel
theorem dr_cX17_init_5 : decode cX17_init 5 = .ok (.bipush 40, 2) := by decide +kernel
theorem dr_cX17_init_7 : decode cX17_init 7 = .ok (.bipush 32, 2) := by decide +kernel
theorem dr_cX17_init_9 : decode cX17_init 9 = .ok (.multianewarray 359 2, 4) := by decide +kernel
theorem wr_6_235 : (Jvm.Cond.classLink "SpillForgeModel" (359 : Nat) "[[J") ∈ gw := gw_6 235 rfl rfl
theorem wr_2_3 : (Jvm.Cond.arrayClass Jvm.ClassFile.FieldType.long) ∈ gw := gw_2 3 rfl rfl
theorem dr_cX17_init_13 : decode cX17_init 13 = .ok (.putfield 88, 3) := by decide +kernel
theorem dr_cX17_init_16 : decode cX17_init 16 = .ok (.aload_n 0, 1) := by decide +kernel
theorem dr_cX17_init_17 : decode cX17_init 17 = .ok (.sipush 2000, 3) := by decide +kernel
theorem dr_cX17_init_20 : decode cX17_init 20 = .ok (.bipush 32, 2) := by decide +kernel
theorem dr_cX17_init_22 : decode cX17_init 22 = .ok (.multianewarray 359 2, 4) := by decide +kernel
theorem dr_cX17_init_26 : decode cX17_init 26 = .ok (.putfield 135, 3) := by decide +kernel
theorem dr_cX17_init_29 : decode cX17_init 29 = .ok (.aload_n 0, 1) := by decide +kernel
theorem dr_cX17_init_30 : decode cX17_init 30 = .ok (.bipush 32, 2) := by decide +kernel
theorem dr_cX17_init_32 : decode cX17_init 32 = .ok (.newarray .long, 2) := by decide +kernel
theorem dr_cX17_init_34 : decode cX17_init 34 = .ok (.putfield 59, 3) := by decide +kernel
theorem dr_cX17_init_37 : decode cX17_init 37 = .ok (.aload_n 0, 1) := by decide +kernel
theorem dr_cX17_init_38 : decode cX17_init 38 = .ok (.sipush 2000, 3) := by decide +kernel
theorem dr_cX17_init_41 : decode cX17_init 41 = .ok (.newarray .boolean, 2) := by decide +kernel
theorem wr_7_29 : (Jvm.Cond.arrayClass Jvm.ClassFile.FieldType.boolean) ∈ gw := gw_7 29 rfl rfl
theorem dr_cX17_init_43 : decode cX17_init 43 = .ok (.putfield 131, 3) := by decide +kernel
theorem dr_cX17_init_46 : decode cX17_init 46 = .ok (.aload_n 0, 1) := by decide +kernel
theorem dr_cX17_init_47 : decode cX17_init 47 = .ok (.bipush 40, 2) := by decide +kernel
theorem dr_cX17_init_49 : decode cX17_init 49 = .ok (.newarray .int, 2) := by decide +kernel
theorem dr_cX17_init_51 : decode cX17_init 51 = .ok (.putfield 152, 3) := by decide +kernel
theorem dr_cX17_init_54 : decode cX17_init 54 = .ok (.aload_n 0, 1) := by decide +kernel
theorem dr_cX17_init_55 : decode cX17_init 55 = .ok (.sipush 2000, 3) := by decide +kernel
theorem dr_cX17_init_58 : decode cX17_init 58 = .ok (.newarray .int, 2) := by decide +kernel
theorem dr_cX17_init_60 : decode cX17_init 60 = .ok (.putfield 174, 3) := by decide +kernel
theorem dr_cX17_init_63 : decode cX17_init 63 = .ok (.aload_n 0, 1) := by decide +kernel
theorem dr_cX17_init_64 : decode cX17_init 64 = .ok (.new 97, 3) := by decide +kernel
theorem wr_6_237 : (Jvm.Cond.classLink "SpillForgeModel" (97 : Nat) "SpillForgeModel$Code") ∈ gw := gw_6 237 rfl rfl
theorem wr_6_238 : (Jvm.Cond.instantiable "SpillForgeModel$Code" (4 : Nat)) ∈ gw := gw_6 238 rfl rfl
theorem dr_cX17_init_67 : decode cX17_init 67 = .ok (.dup, 1) := by decide +kernel
theorem dr_cX17_init_68 : decode cX17_init 68 = .ok (.invokespecial 360, 3) := by decide +kernel
theorem wr_7_1 : (Jvm.Cond.code ({ cls := "SpillForgeModel$Code", name := "<init>", desc := "()V" } : Jvm.MethodName) prog_16_method_1_code (1 : Nat) (Option.none : Option Jvm.ClassFile.FieldType)) ∈ gw := gw_7 1 rfl rfl
theorem wr_7_0 : (Jvm.Cond.instanceMethod ({ cls := "SpillForgeModel$Code", name := "<init>", desc := "()V" } : Jvm.MethodName)) ∈ gw := gw_7 0 rfl rfl
theorem dr_cX17_init_71 : decode cX17_init 71 = .ok (.putfield 361, 3) := by decide +kernel
theorem dr_cX17_init_74 : decode cX17_init 74 = .ok (.aload_n 0, 1) := by decide +kernel
theorem dr_cX17_init_75 : decode cX17_init 75 = .ok (.new 97, 3) := by decide +kernel
theorem dr_cX17_init_78 : decode cX17_init 78 = .ok (.dup, 1) := by decide +kernel
theorem dr_cX17_init_79 : decode cX17_init 79 = .ok (.invokespecial 360, 3) := by decide +kernel
theorem dr_cX17_init_82 : decode cX17_init 82 = .ok (.putfield 365, 3) := by decide +kernel
theorem dr_cX17_init_85 : decode cX17_init 85 = .ok (.aload_n 0, 1) := by decide +kernel
theorem dr_cX17_init_86 : decode cX17_init 86 = .ok (.new 97, 3) := by decide +kernel
theorem dr_cX17_init_89 : decode cX17_init 89 = .ok (.dup, 1) := by decide +kernel
theorem dr_cX17_init_90 : decode cX17_init 90 = .ok (.invokespecial 360, 3) := by decide +kernel
theorem dr_cX17_init_93 : decode cX17_init 93 = .ok (.putfield 368, 3) := by decide +kernel
theorem dr_cX17_init_96 : decode cX17_init 96 = .ok (.aload_n 0, 1) := by decide +kernel
theorem dr_cX17_init_97 : decode cX17_init 97 = .ok (.sipush 2000, 3) := by decide +kernel
theorem dr_cX17_init_100 : decode cX17_init 100 = .ok (.newarray .int, 2) := by decide +kernel
theorem dr_cX17_init_102 : decode cX17_init 102 = .ok (.putfield 218, 3) := by decide +kernel
theorem dr_cX17_init_105 : decode cX17_init 105 = .ok (.aload_n 0, 1) := by decide +kernel
theorem dr_cX17_init_106 : decode cX17_init 106 = .ok (.sipush 2000, 3) := by decide +kernel
theorem dr_cX17_init_109 : decode cX17_init 109 = .ok (.newarray .int, 2) := by decide +kernel
theorem dr_cX17_init_111 : decode cX17_init 111 = .ok (.putfield 209, 3) := by decide +kernel
theorem dr_cX17_init_114 : decode cX17_init 114 = .ok (.aload_n 0, 1) := by decide +kernel
theorem dr_cX17_init_115 : decode cX17_init 115 = .ok (.sipush 2000, 3) := by decide +kernel
theorem dr_cX17_init_118 : decode cX17_init 118 = .ok (.newarray .int, 2) := by decide +kernel
theorem dr_cX17_init_120 : decode cX17_init 120 = .ok (.putfield 212, 3) := by decide +kernel
theorem dr_cX17_init_123 : decode cX17_init 123 = .ok (.aload_n 0, 1) := by decide +kernel
theorem dr_cX17_init_124 : decode cX17_init 124 = .ok (.sipush 2000, 3) := by decide +kernel
theorem dr_cX17_init_127 : decode cX17_init 127 = .ok (.newarray .boolean, 2) := by decide +kernel
theorem dr_cX17_init_129 : decode cX17_init 129 = .ok (.putfield 206, 3) := by decide +kernel
theorem dr_cX17_init_132 : decode cX17_init 132 = .ok (.aload_n 0, 1) := by decide +kernel
theorem dr_cX17_init_133 : decode cX17_init 133 = .ok (.sipush 2000, 3) := by decide +kernel
theorem dr_cX17_init_136 : decode cX17_init 136 = .ok (.newarray .int, 2) := by decide +kernel
theorem dr_cX17_init_138 : decode cX17_init 138 = .ok (.putfield 221, 3) := by decide +kernel
theorem dr_cX17_init_141 : decode cX17_init 141 = .ok (.aload_n 0, 1) := by decide +kernel
theorem dr_cX17_init_142 : decode cX17_init 142 = .ok (.sipush 2000, 3) := by decide +kernel
theorem dr_cX17_init_145 : decode cX17_init 145 = .ok (.newarray .int, 2) := by decide +kernel
theorem dr_cX17_init_147 : decode cX17_init 147 = .ok (.putfield 271, 3) := by decide +kernel
theorem dr_cX17_init_150 : decode cX17_init 150 = .ok (.aload_n 0, 1) := by decide +kernel
theorem dr_cX17_init_151 : decode cX17_init 151 = .ok (.sipush 2000, 3) := by decide +kernel
theorem dr_cX17_init_154 : decode cX17_init 154 = .ok (.newarray .int, 2) := by decide +kernel
theorem dr_cX17_init_156 : decode cX17_init 156 = .ok (.putfield 274, 3) := by decide +kernel
theorem dr_cX17_init_159 : decode cX17_init 159 = .ok (.aload_n 0, 1) := by decide +kernel
theorem dr_cX17_init_160 : decode cX17_init 160 = .ok (.sipush 512, 3) := by decide +kernel
theorem dr_cX17_init_163 : decode cX17_init 163 = .ok (.newarray .int, 2) := by decide +kernel
theorem dr_cX17_init_165 : decode cX17_init 165 = .ok (.putfield 306, 3) := by decide +kernel
theorem dr_cX17_init_168 : decode cX17_init 168 = .ok (.aload_n 0, 1) := by decide +kernel
theorem dr_cX17_init_169 : decode cX17_init 169 = .ok (.iconst (-1), 1) := by decide +kernel
theorem dr_cX17_init_170 : decode cX17_init 170 = .ok (.putfield 371, 3) := by decide +kernel
theorem dr_cX17_init_173 : decode cX17_init 173 = .ok (.aload_n 0, 1) := by decide +kernel
theorem dr_cX17_init_174 : decode cX17_init 174 = .ok (.iconst 0, 1) := by decide +kernel
theorem dr_cX17_init_175 : decode cX17_init 175 = .ok (.newarray .int, 2) := by decide +kernel
theorem dr_cX17_init_177 : decode cX17_init 177 = .ok (.putfield 303, 3) := by decide +kernel
theorem dr_cX17_init_180 : decode cX17_init 180 = .ok (.aload_n 0, 1) := by decide +kernel
theorem dr_cX17_init_181 : decode cX17_init 181 = .ok (.new 5, 3) := by decide +kernel
theorem dr_cX17_init_184 : decode cX17_init 184 = .ok (.dup, 1) := by decide +kernel
theorem dr_cX17_init_185 : decode cX17_init 185 = .ok (.invokespecial 7, 3) := by decide +kernel
theorem dr_cX17_init_188 : decode cX17_init 188 = .ok (.putfield 316, 3) := by decide +kernel
theorem dr_cX17_init_191 : decode cX17_init 191 = .ok (.aload_n 0, 1) := by decide +kernel
theorem dr_cX17_init_192 : decode cX17_init 192 = .ok (.sipush 8192, 3) := by decide +kernel
theorem dr_cX17_init_195 : decode cX17_init 195 = .ok (.newarray .byte, 2) := by decide +kernel
theorem dr_cX17_init_197 : decode cX17_init 197 = .ok (.putfield 374, 3) := by decide +kernel
theorem dr_cX17_init_200 : decode cX17_init 200 = .ok (.aload_n 0, 1) := by decide +kernel
theorem dr_cX17_init_201 : decode cX17_init 201 = .ok (.bipush 64, 2) := by decide +kernel
theorem dr_cX17_init_203 : decode cX17_init 203 = .ok (.newarray .byte, 2) := by decide +kernel
theorem dr_cX17_init_205 : decode cX17_init 205 = .ok (.putfield 378, 3) := by decide +kernel
theorem dr_cX17_init_208 : decode cX17_init 208 = .ok (.return_, 1) := by decide +kernel
def ciP (D : va_G) (P : List Nat) (F : Nat → va_E) (c : Nat) : Option Value → va_W → Nat → Nat → Prop := fun r w dc ds => ∃ (P1 : List Nat) (F1 : Nat → va_E) (a b : Nat), r = none ∧ w = va_pl P1 F1 ∧ rSub P P1 ∧ rFr [c] P F F1 ∧ F1 c = .inr (18, [.ref a, .ref b, .int 0, .int 0]) ∧ F1 a = .inr (4, [.int 0, .ref (D.2 1002 1), .int 0]) ∧ F1 b = .inr (4, [.int 0, .ref (D.2 1002 1), .int 0]) ∧ a ∈ P1 ∧ a ∉ P ∧ b ∈ P1 ∧ b ∉ P ∧ a ≠ b ∧ dc ≤ 2 ∧ ds ≤ 6
theorem cp_cini (l : Launch) (hl0 : l.stackTraces = false) (D : va_G) (I : FieldType → ClassId) {P : List Nat} {F : Nat → va_E} {c : Nat} (mc : c ∈ P) (ec : F c = .inr (18, [.null, .null, .int 0, .int 0])) :
    CtA (gV D I) l yX13_init cX13_init 1 none 4 72 2 6 [.ref c] (va_pl P F) (ciP D P F c) gNA := by
  refine CtA_of hl0 (by decide) (Nat.le_of_ble_eq_true rfl) ?_
  refine G_aload_n 0 dr_cX13_init_0 rfl ?_
  refine G_obj dr_cX13_init_1 wr_7_2 wr_1_51 wr_1_52 (Nat.le_of_ble_eq_true rfl) (Nat.le_of_ble_eq_true rfl) ?_
  refine G_aload_n 0 dr_cX13_init_4 rfl ?_
  refine G_new [.int 0, .null, .int 0] dr_cX13_init_5 (gk_Jx4a65c D I) wr_7_3 wr_7_4 wr_1_18 (gfs_Jx4a65c) (by decide) (by decide) (fun a => Gp_in (fun P1 F1 hq hP e1 n1 => ?_))
  refine G_widen (cs' := 1) (sl' := 3) (by decide) (by decide) ?_
  have hs1 : rSub P P1 := rSub_new (rSub_rf (P := P)) hP
  have ma : a ∈ P1 := (hP a).mpr (Or.inr rfl)
  have hca : c ≠ a := fun e => hq (e ▸ mc)
  refine G_dup dr_cX13_init_8 rfl ?_
  refine Gw_callI (As := []) (gV_ok D I) (cp_1606_ArrayList_init l hl0 D I P1 F1 a 0 0 ma e1) dr_cX13_init_9 ⟨wr_7_5, wr_1_18, wr_7_7, by decide, rfl, (Nat.le_of_ble_eq_true rfl), (Nat.le_of_ble_eq_true rfl)⟩ wr_7_6 rfl (by decide) (by decide) (Nat.le_of_ble_eq_true rfl) (fun r w dc ds hp => ?_)
  obtain ⟨F2, rfl, rfl, fr2, e2, hdc, hds⟩ := hp
  change G _ _ _ _ _ _ _ _ _ _ _
  refine G_widen (cs' := 1) (sl' := 3) (by omega) (by omega) ?_
  have ec2 : F2 c = .inr (18, [.null, .null, .int 0, .int 0]) := (fr2 c (hs1 c mc) (nm_c hca nm_n)).trans ((n1 c hca).trans ec)
  refine Gp_putF 0 (hs1 c mc) ec2 dr_cX13_init_12 (gk_X13 D I) (Nat.le_of_ble_eq_true rfl) wr_7_30 rfl rfl rfl rfl rfl (Nat.le_of_ble_eq_true rfl) (fun F3 e3 n3 => ?_)
  have e3' : F3 c = .inr (18, [.ref a, .null, .int 0, .int 0]) := e3
  refine G_aload_n 0 dr_cX13_init_15 rfl ?_
  refine G_new [.int 0, .null, .int 0] dr_cX13_init_16 (gk_Jx4a65c D I) wr_7_3 wr_7_4 wr_1_18 (gfs_Jx4a65c) (by decide) (by decide) (fun b => Gp_in (fun P4 F4 hq4 hP4 e4 n4 => ?_))
  refine G_widen (cs' := 2) (sl' := 6) (by decide) (by decide) ?_
  have hs4 : rSub P1 P4 := rSub_new (rSub_rf (P := P1)) hP4
  have mb : b ∈ P4 := (hP4 b).mpr (Or.inr rfl)
  have hcb : c ≠ b := fun e => hq4 (e ▸ hs1 c mc)
  have hab : a ≠ b := fun e => hq4 (e ▸ ma)
  refine G_dup dr_cX13_init_19 rfl ?_
  refine Gw_callI (As := []) (gV_ok D I) (cp_1606_ArrayList_init l hl0 D I P4 F4 b 0 0 mb e4) dr_cX13_init_20 ⟨wr_7_5, wr_1_18, wr_7_7, by decide, rfl, (Nat.le_of_ble_eq_true rfl), (Nat.le_of_ble_eq_true rfl)⟩ wr_7_6 rfl (by decide) (by decide) (Nat.le_of_ble_eq_true rfl) (fun r w dc ds hp => ?_)
  obtain ⟨F5, rfl, rfl, fr5, e5, hdc, hds⟩ := hp
  change G _ _ _ _ _ _ _ _ _ _ _
  refine G_widen (cs' := 2) (sl' := 6) (by omega) (by omega) ?_
  have ec5 : F5 c = .inr (18, [.ref a, .null, .int 0, .int 0]) := (fr5 c (hs4 c (hs1 c mc)) (nm_c hcb nm_n)).trans ((n4 c hcb).trans e3')
  refine Gp_putF 1 (hs4 c (hs1 c mc)) ec5 dr_cX13_init_23 (gk_X13 D I) (Nat.le_of_ble_eq_true rfl) wr_7_31 rfl rfl rfl rfl rfl (Nat.le_of_ble_eq_true rfl) (fun F6 e6 n6 => ?_)
  refine G_vretA dr_cX13_init_26 rfl (by decide) (by decide) ⟨P4, F6, a, b, rfl, rfl, fun x hx => hs4 x (hs1 x hx), fun x hx hn => ?_, e6, ?_, ?_, hs4 a ma, hq, mb, fun z => hq4 (hs1 b z), hab, Nat.le_refl _, Nat.le_refl _⟩
  · have h1 : x ≠ c := fun e => hn (e ▸ List.mem_cons_self)
    have h2 : x ≠ a := fun e => hq (e ▸ hx)
    have h3 : x ≠ b := fun e => hq4 (e ▸ hs1 x hx)
    exact (n6 x h1).trans ((fr5 x (hs4 x (hs1 x hx)) (nm_c h3 nm_n)).trans ((n4 x h3).trans ((n3 x h1).trans ((fr2 x (hs1 x hx) (nm_c h2 nm_n)).trans (n1 x h2)))))
  · exact (n6 a (Ne.symm hca)).trans ((fr5 a (hs4 a ma) (nm_c hab nm_n)).trans ((n4 a hab).trans ((n3 a (Ne.symm hca)).trans e2)))
  · exact (n6 b (Ne.symm hcb)).trans e5
/-- what the constructor leaves -/
def niP (D : va_G) (I : FieldType → ClassId) (m : Nat) : Option Value → va_W → Nat → Nat → Prop := fun r w dc ds => ∃ (P1 : List Nat) (F1 : Nat → va_E) (g lb lr : Nat → Nat) (ra : Nat), r = none ∧ w = va_pl P1 F1 ∧ RS D I P1 F1 (gI0 g m ra lb lr) (fun _ _ => 0) ∧ gI0 g m ra lb lr 0 m = 10 ∧ F1 m = mdE (gI0 g m ra lb lr) (g 28) (g 35) 0 0 0 0 0 0 (-1) 0 0 0 0 0 0 0 0 ∧ F1 (g 29) = .inr (1, [.ref ra, .int 0, .int 0, .int 0]) ∧ F1 (g 28) = .inl (I .int, 0, .inl (fun _ => 0)) ∧ ((inK g m ra lb lr).map Prod.fst).Nodup ∧ dc ≤ 2068 ∧ ds ≤ 94210
set_option maxRecDepth 100000 in
set_option maxHeartbeats 4000000 in
theorem cp_mini (l : Launch) (hl0 : l.stackTraces = false) (D : va_G) (I : FieldType → ClassId) {P : List Nat} {F : Nat → va_E} {m : Nat} (mm : m ∈ P) (em : F m = .inr (22, [.null, .null, .null, .null, .null, .null, .null, .null, .null, .int 0, .int 0, .int 0, .int 0, .int 0, .int 0, .null, .null, .null, .null, .null, .null, .null, .null, .int 0, .int 0, .int 0, .int 0, .int 0, .null, .null, .int 0, .null, .int 0, .int 0, .int 0, .null])) :
    CtA (gV D I) l yX17_init cX17_init 1 none 6 100 2068 94210 [.ref m] (va_pl P F) (niP D I m) gNA := by
  refine CtA_of hl0 (by decide) (Nat.le_of_ble_eq_true rfl) ?_
  have S0 : nwS m (.inr (22, [.null, .null, .null, .null, .null, .null, .null, .null, .null, .int 0, .int 0, .int 0, .int 0, .int 0, .int 0, .null, .null, .null, .null, .null, .null, .null, .null, .int 0, .int 0, .int 0, .int 0, .int 0, .null, .null, .int 0, .null, .int 0, .int 0, .int 0, .null])) [] P F := ⟨mm, em, fun _ h => absurd h List.not_mem_nil, List.nodup_cons.mpr ⟨List.not_mem_nil, List.nodup_nil⟩⟩
  refine G_aload_n 0 dr_cX17_init_0 rfl ?_
  refine G_obj dr_cX17_init_1 wr_6_234 wr_1_51 wr_1_52 (Nat.le_of_ble_eq_true rfl) (Nat.le_of_ble_eq_true rfl) ?_
  refine G_aload_n 0 dr_cX17_init_4 rfl ?_
  refine G_bipush 40 dr_cX17_init_5 (by decide +kernel) ?_
  refine G_bipush 32 dr_cX17_init_7 (by decide +kernel) ?_
  refine G_mna (N := 40) (K := 32) 5 2 dr_cX17_init_9 wr_6_235 gx_ar wr_2_3 rfl rfl (by decide) (by decide) (by decide) (by decide) (by decide) (by decide) (show 0 + (1 + 40) ≤ 2068 by decide) (show 0 + (40 + 40 * 32) ≤ 94210 by decide) (fun a0 => Gp_inL (fun P1 F1 hq1 hP1 hx1 n1 => ?_))
  refine G_widen (cs' := 41) (sl' := 1320) (by decide) (by decide) ?_
  have S1 := nwS_L S0 hq1 hP1 hx1 n1 mnL_nd
  refine Gp_putF 0 S1.1 S1.2.1 dr_cX17_init_13 (gk_X17 D I) (Nat.le_of_ble_eq_true rfl) wr_7_74 rfl rfl rfl rfl rfl (Nat.le_of_ble_eq_true rfl) (fun F2p e2p n2p => ?_)
  have S2p := nwS_put (e1 := .inr (22, [.ref a0, .null, .null, .null, .null, .null, .null, .null, .null, .int 0, .int 0, .int 0, .int 0, .int 0, .int 0, .null, .null, .null, .null, .null, .null, .null, .null, .int 0, .int 0, .int 0, .int 0, .int 0, .null, .null, .int 0, .null, .int 0, .int 0, .int 0, .null])) S1 e2p n2p
  refine G_aload_n 0 dr_cX17_init_16 rfl ?_
  refine G_sipush 2000 dr_cX17_init_17 (by decide +kernel) ?_
  refine G_bipush 32 dr_cX17_init_20 (by decide +kernel) ?_
  refine G_mna (N := 2000) (K := 32) 5 2 dr_cX17_init_22 wr_6_235 gx_ar wr_2_3 rfl rfl (by decide) (by decide) (by decide) (by decide) (by decide) (by decide) (show 41 + (1 + 2000) ≤ 2068 by decide) (show 1320 + (2000 + 2000 * 32) ≤ 94210 by decide) (fun a1 => Gp_inL (fun P3 F3 hq3 hP3 hx3 n3 => ?_))
  refine G_widen (cs' := 2042) (sl' := 67320) (by decide) (by decide) ?_
  have S3 := nwS_L S2p hq3 hP3 hx3 n3 mnL_nd
  refine Gp_putF 1 S3.1 S3.2.1 dr_cX17_init_26 (gk_X17 D I) (Nat.le_of_ble_eq_true rfl) wr_7_75 rfl rfl rfl rfl rfl (Nat.le_of_ble_eq_true rfl) (fun F4p e4p n4p => ?_)
  have S4p := nwS_put (e1 := .inr (22, [.ref a0, .ref a1, .null, .null, .null, .null, .null, .null, .null, .int 0, .int 0, .int 0, .int 0, .int 0, .int 0, .null, .null, .null, .null, .null, .null, .null, .null, .int 0, .int 0, .int 0, .int 0, .int 0, .null, .null, .int 0, .null, .int 0, .int 0, .int 0, .null])) S3 e4p n4p
  refine G_aload_n 0 dr_cX17_init_29 rfl ?_
  refine G_bipush 32 dr_cX17_init_30 (by decide +kernel) ?_
  refine G_newa 2 (32, .inr (.inl (fun _ => 0))) dr_cX17_init_32 rfl rfl (by intro C h; cases h) wr_2_3 (fun _ => ga_long _ _) (by decide) (by decide) (by decide) (show 2042 + 1 ≤ 2068 by decide) (show 67320 + 32 ≤ 94210 by decide) (fun a2 => Gp_in (fun P5 F5 hq5 hP5 hx5 n5 => ?_))
  refine G_widen (cs' := 2043) (sl' := 67352) (by decide) (by decide) ?_
  have S5 := nwS_n S4p hq5 hP5 hx5 n5
  refine Gp_putF 2 S5.1 S5.2.1 dr_cX17_init_34 (gk_X17 D I) (Nat.le_of_ble_eq_true rfl) wr_7_76 rfl rfl rfl rfl rfl (Nat.le_of_ble_eq_true rfl) (fun F6p e6p n6p => ?_)
  have S6p := nwS_put (e1 := .inr (22, [.ref a0, .ref a1, .ref a2, .null, .null, .null, .null, .null, .null, .int 0, .int 0, .int 0, .int 0, .int 0, .int 0, .null, .null, .null, .null, .null, .null, .null, .null, .int 0, .int 0, .int 0, .int 0, .int 0, .null, .null, .int 0, .null, .int 0, .int 0, .int 0, .null])) S5 e6p n6p
  refine G_aload_n 0 dr_cX17_init_37 rfl ?_
  refine G_sipush 2000 dr_cX17_init_38 (by decide +kernel) ?_
  refine G_newa 3 (2000, .inl (fun _ => 0)) dr_cX17_init_41 rfl rfl (by intro C h; cases h) wr_7_29 (fun _ => ga_boolean _ _) (by decide) (by decide) (by decide) (show 2043 + 1 ≤ 2068 by decide) (show 67352 + 2000 ≤ 94210 by decide) (fun a3 => Gp_in (fun P7 F7 hq7 hP7 hx7 n7 => ?_))
  refine G_widen (cs' := 2044) (sl' := 69352) (by decide) (by decide) ?_
  have S7 := nwS_n S6p hq7 hP7 hx7 n7
  refine Gp_putF 3 S7.1 S7.2.1 dr_cX17_init_43 (gk_X17 D I) (Nat.le_of_ble_eq_true rfl) wr_7_77 rfl rfl rfl rfl rfl (Nat.le_of_ble_eq_true rfl) (fun F8p e8p n8p => ?_)
  have S8p := nwS_put (e1 := .inr (22, [.ref a0, .ref a1, .ref a2, .ref a3, .null, .null, .null, .null, .null, .int 0, .int 0, .int 0, .int 0, .int 0, .int 0, .null, .null, .null, .null, .null, .null, .null, .null, .int 0, .int 0, .int 0, .int 0, .int 0, .null, .null, .int 0, .null, .int 0, .int 0, .int 0, .null])) S7 e8p n8p
  refine G_aload_n 0 dr_cX17_init_46 rfl ?_
  refine G_bipush 40 dr_cX17_init_47 (by decide +kernel) ?_
  refine G_newa 0 (40, .inl (fun _ => 0)) dr_cX17_init_49 rfl rfl (by intro C h; cases h) wr_1_95 (fun _ => ga_int _ _) (by decide) (by decide) (by decide) (show 2044 + 1 ≤ 2068 by decide) (show 69352 + 40 ≤ 94210 by decide) (fun a4 => Gp_in (fun P9 F9 hq9 hP9 hx9 n9 => ?_))
  refine G_widen (cs' := 2045) (sl' := 69392) (by decide) (by decide) ?_
  have S9 := nwS_n S8p hq9 hP9 hx9 n9
  refine Gp_putF 4 S9.1 S9.2.1 dr_cX17_init_51 (gk_X17 D I) (Nat.le_of_ble_eq_true rfl) wr_7_78 rfl rfl rfl rfl rfl (Nat.le_of_ble_eq_true rfl) (fun F10p e10p n10p => ?_)
  have S10p := nwS_put (e1 := .inr (22, [.ref a0, .ref a1, .ref a2, .ref a3, .ref a4, .null, .null, .null, .null, .int 0, .int 0, .int 0, .int 0, .int 0, .int 0, .null, .null, .null, .null, .null, .null, .null, .null, .int 0, .int 0, .int 0, .int 0, .int 0, .null, .null, .int 0, .null, .int 0, .int 0, .int 0, .null])) S9 e10p n10p
  refine G_aload_n 0 dr_cX17_init_54 rfl ?_
  refine G_sipush 2000 dr_cX17_init_55 (by decide +kernel) ?_
  refine G_newa 0 (2000, .inl (fun _ => 0)) dr_cX17_init_58 rfl rfl (by intro C h; cases h) wr_1_95 (fun _ => ga_int _ _) (by decide) (by decide) (by decide) (show 2045 + 1 ≤ 2068 by decide) (show 69392 + 2000 ≤ 94210 by decide) (fun a5 => Gp_in (fun P11 F11 hq11 hP11 hx11 n11 => ?_))
  refine G_widen (cs' := 2046) (sl' := 71392) (by decide) (by decide) ?_
  have S11 := nwS_n S10p hq11 hP11 hx11 n11
  refine Gp_putF 5 S11.1 S11.2.1 dr_cX17_init_60 (gk_X17 D I) (Nat.le_of_ble_eq_true rfl) wr_7_79 rfl rfl rfl rfl rfl (Nat.le_of_ble_eq_true rfl) (fun F12p e12p n12p => ?_)
  have S12p := nwS_put (e1 := .inr (22, [.ref a0, .ref a1, .ref a2, .ref a3, .ref a4, .ref a5, .null, .null, .null, .int 0, .int 0, .int 0, .int 0, .int 0, .int 0, .null, .null, .null, .null, .null, .null, .null, .null, .int 0, .int 0, .int 0, .int 0, .int 0, .null, .null, .int 0, .null, .int 0, .int 0, .int 0, .null])) S11 e12p n12p
  refine G_aload_n 0 dr_cX17_init_63 rfl ?_
  refine G_new [.null, .null, .int 0, .int 0] dr_cX17_init_64 (gk_X13 D I) wr_6_237 wr_6_238 wr_1_15 (gfs_X13) (show 2046 + 1 ≤ 2068 by decide) (show 71392 + 4 ≤ 94210 by decide) (fun a6 => Gp_in (fun P13 F13 hq13 hP13 hx13 n13 => ?_))
  refine G_widen (cs' := 2047) (sl' := 71396) (by decide) (by decide) ?_
  have S13 := nwS_n S12p hq13 hP13 hx13 n13
  refine G_dup dr_cX17_init_67 rfl ?_
  refine Gw_callIN (As := []) (gV_ok D I) (cp_cini l hl0 D I (P := P13) (F := F13) (c := a6) (S13.2.2.1 _ List.mem_cons_self).1 hx13) dr_cX17_init_68 ⟨(fun _ _ _ h => gn_w 75 rfl h), wr_1_15, wr_7_1, by decide, rfl, (Nat.le_of_ble_eq_true rfl), (Nat.le_of_ble_eq_true rfl)⟩ wr_7_0 rfl (show 2047 + 2 ≤ 2068 by decide) (show 71396 + 6 ≤ 94210 by decide) (Nat.le_of_ble_eq_true rfl) (fun r13 w13 dc13 ds13 hp13 => ?_)
  obtain ⟨P13c, F13c, b6, d6, rfl, rfl, hs13, fr13, ec13, eb13, ed13, mb13, nb13, md13, nd13, ne13, hdc13, hds13⟩ := hp13
  change G _ _ _ _ _ _ _ _ _ _ _
  refine G_widen (cs' := 2049) (sl' := 71402) (by omega) (by omega) ?_
  have S13c := nwS_c (v := [(b6, .inr (4, [.int 0, .ref (D.2 1002 1), .int 0])), (d6, .inr (4, [.int 0, .ref (D.2 1002 1), .int 0]))]) S13 hs13 fr13 ec13 (fun z hz => by
    rcases List.mem_cons.mp hz with e | e
    · rw [e]; exact ⟨mb13, nb13, eb13⟩
    · rw [List.mem_singleton.mp e]; exact ⟨md13, nd13, ed13⟩) (List.nodup_cons.mpr ⟨fun h => ne13 (List.mem_singleton.mp h), List.nodup_cons.mpr ⟨List.not_mem_nil, List.nodup_nil⟩⟩)
  refine Gp_put 6 S13c.1 S13c.2.1 dr_cX17_init_71 (gk_X17 D I) (Nat.le_of_ble_eq_true rfl) wr_7_80 rfl rfl rfl (Nat.le_of_ble_eq_true rfl) (fun F14p e14p n14p => ?_)
  have S14p := nwS_put (e1 := .inr (22, [.ref a0, .ref a1, .ref a2, .ref a3, .ref a4, .ref a5, .ref a6, .null, .null, .int 0, .int 0, .int 0, .int 0, .int 0, .int 0, .null, .null, .null, .null, .null, .null, .null, .null, .int 0, .int 0, .int 0, .int 0, .int 0, .null, .null, .int 0, .null, .int 0, .int 0, .int 0, .null])) S13c e14p n14p
  refine G_aload_n 0 dr_cX17_init_74 rfl ?_
  refine G_new [.null, .null, .int 0, .int 0] dr_cX17_init_75 (gk_X13 D I) wr_6_237 wr_6_238 wr_1_15 (gfs_X13) (show 2049 + 1 ≤ 2068 by decide) (show 71402 + 4 ≤ 94210 by decide) (fun a7 => Gp_in (fun P15 F15 hq15 hP15 hx15 n15 => ?_))
  refine G_widen (cs' := 2050) (sl' := 71406) (by decide) (by decide) ?_
  have S15 := nwS_n S14p hq15 hP15 hx15 n15
  refine G_dup dr_cX17_init_78 rfl ?_
  refine Gw_callIN (As := []) (gV_ok D I) (cp_cini l hl0 D I (P := P15) (F := F15) (c := a7) (S15.2.2.1 _ List.mem_cons_self).1 hx15) dr_cX17_init_79 ⟨(fun _ _ _ h => gn_w 75 rfl h), wr_1_15, wr_7_1, by decide, rfl, (Nat.le_of_ble_eq_true rfl), (Nat.le_of_ble_eq_true rfl)⟩ wr_7_0 rfl (show 2050 + 2 ≤ 2068 by decide) (show 71406 + 6 ≤ 94210 by decide) (Nat.le_of_ble_eq_true rfl) (fun r15 w15 dc15 ds15 hp15 => ?_)
  obtain ⟨P15c, F15c, b7, d7, rfl, rfl, hs15, fr15, ec15, eb15, ed15, mb15, nb15, md15, nd15, ne15, hdc15, hds15⟩ := hp15
  change G _ _ _ _ _ _ _ _ _ _ _
  refine G_widen (cs' := 2052) (sl' := 71412) (by omega) (by omega) ?_
  have S15c := nwS_c (v := [(b7, .inr (4, [.int 0, .ref (D.2 1002 1), .int 0])), (d7, .inr (4, [.int 0, .ref (D.2 1002 1), .int 0]))]) S15 hs15 fr15 ec15 (fun z hz => by
    rcases List.mem_cons.mp hz with e | e
    · rw [e]; exact ⟨mb15, nb15, eb15⟩
    · rw [List.mem_singleton.mp e]; exact ⟨md15, nd15, ed15⟩) (List.nodup_cons.mpr ⟨fun h => ne15 (List.mem_singleton.mp h), List.nodup_cons.mpr ⟨List.not_mem_nil, List.nodup_nil⟩⟩)
  refine Gp_put 7 S15c.1 S15c.2.1 dr_cX17_init_82 (gk_X17 D I) (Nat.le_of_ble_eq_true rfl) wr_7_81 rfl rfl rfl (Nat.le_of_ble_eq_true rfl) (fun F16p e16p n16p => ?_)
  have S16p := nwS_put (e1 := .inr (22, [.ref a0, .ref a1, .ref a2, .ref a3, .ref a4, .ref a5, .ref a6, .ref a7, .null, .int 0, .int 0, .int 0, .int 0, .int 0, .int 0, .null, .null, .null, .null, .null, .null, .null, .null, .int 0, .int 0, .int 0, .int 0, .int 0, .null, .null, .int 0, .null, .int 0, .int 0, .int 0, .null])) S15c e16p n16p
  refine G_aload_n 0 dr_cX17_init_85 rfl ?_
  refine G_new [.null, .null, .int 0, .int 0] dr_cX17_init_86 (gk_X13 D I) wr_6_237 wr_6_238 wr_1_15 (gfs_X13) (show 2052 + 1 ≤ 2068 by decide) (show 71412 + 4 ≤ 94210 by decide) (fun a8 => Gp_in (fun P17 F17 hq17 hP17 hx17 n17 => ?_))
  refine G_widen (cs' := 2053) (sl' := 71416) (by decide) (by decide) ?_
  have S17 := nwS_n S16p hq17 hP17 hx17 n17
  refine G_dup dr_cX17_init_89 rfl ?_
  refine Gw_callIN (As := []) (gV_ok D I) (cp_cini l hl0 D I (P := P17) (F := F17) (c := a8) (S17.2.2.1 _ List.mem_cons_self).1 hx17) dr_cX17_init_90 ⟨(fun _ _ _ h => gn_w 75 rfl h), wr_1_15, wr_7_1, by decide, rfl, (Nat.le_of_ble_eq_true rfl), (Nat.le_of_ble_eq_true rfl)⟩ wr_7_0 rfl (show 2053 + 2 ≤ 2068 by decide) (show 71416 + 6 ≤ 94210 by decide) (Nat.le_of_ble_eq_true rfl) (fun r17 w17 dc17 ds17 hp17 => ?_)
  obtain ⟨P17c, F17c, b8, d8, rfl, rfl, hs17, fr17, ec17, eb17, ed17, mb17, nb17, md17, nd17, ne17, hdc17, hds17⟩ := hp17
  change G _ _ _ _ _ _ _ _ _ _ _
  refine G_widen (cs' := 2055) (sl' := 71422) (by omega) (by omega) ?_
  have S17c := nwS_c (v := [(b8, .inr (4, [.int 0, .ref (D.2 1002 1), .int 0])), (d8, .inr (4, [.int 0, .ref (D.2 1002 1), .int 0]))]) S17 hs17 fr17 ec17 (fun z hz => by
    rcases List.mem_cons.mp hz with e | e
    · rw [e]; exact ⟨mb17, nb17, eb17⟩
    · rw [List.mem_singleton.mp e]; exact ⟨md17, nd17, ed17⟩) (List.nodup_cons.mpr ⟨fun h => ne17 (List.mem_singleton.mp h), List.nodup_cons.mpr ⟨List.not_mem_nil, List.nodup_nil⟩⟩)
  refine Gp_put 8 S17c.1 S17c.2.1 dr_cX17_init_93 (gk_X17 D I) (Nat.le_of_ble_eq_true rfl) wr_7_82 rfl rfl rfl (Nat.le_of_ble_eq_true rfl) (fun F18p e18p n18p => ?_)
  have S18p := nwS_put (e1 := .inr (22, [.ref a0, .ref a1, .ref a2, .ref a3, .ref a4, .ref a5, .ref a6, .ref a7, .ref a8, .int 0, .int 0, .int 0, .int 0, .int 0, .int 0, .null, .null, .null, .null, .null, .null, .null, .null, .int 0, .int 0, .int 0, .int 0, .int 0, .null, .null, .int 0, .null, .int 0, .int 0, .int 0, .null])) S17c e18p n18p
  refine G_aload_n 0 dr_cX17_init_96 rfl ?_
  refine G_sipush 2000 dr_cX17_init_97 (by decide +kernel) ?_
  refine G_newa 0 (2000, .inl (fun _ => 0)) dr_cX17_init_100 rfl rfl (by intro C h; cases h) wr_1_95 (fun _ => ga_int _ _) (by decide) (by decide) (by decide) (show 2055 + 1 ≤ 2068 by decide) (show 71422 + 2000 ≤ 94210 by decide) (fun a15 => Gp_in (fun P19 F19 hq19 hP19 hx19 n19 => ?_))
  refine G_widen (cs' := 2056) (sl' := 73422) (by decide) (by decide) ?_
  have S19 := nwS_n S18p hq19 hP19 hx19 n19
  refine Gp_putF 15 S19.1 S19.2.1 dr_cX17_init_102 (gk_X17 D I) (Nat.le_of_ble_eq_true rfl) wr_7_89 rfl rfl rfl rfl rfl (Nat.le_of_ble_eq_true rfl) (fun F20p e20p n20p => ?_)
  have S20p := nwS_put (e1 := .inr (22, [.ref a0, .ref a1, .ref a2, .ref a3, .ref a4, .ref a5, .ref a6, .ref a7, .ref a8, .int 0, .int 0, .int 0, .int 0, .int 0, .int 0, .ref a15, .null, .null, .null, .null, .null, .null, .null, .int 0, .int 0, .int 0, .int 0, .int 0, .null, .null, .int 0, .null, .int 0, .int 0, .int 0, .null])) S19 e20p n20p
  refine G_aload_n 0 dr_cX17_init_105 rfl ?_
  refine G_sipush 2000 dr_cX17_init_106 (by decide +kernel) ?_
  refine G_newa 0 (2000, .inl (fun _ => 0)) dr_cX17_init_109 rfl rfl (by intro C h; cases h) wr_1_95 (fun _ => ga_int _ _) (by decide) (by decide) (by decide) (show 2056 + 1 ≤ 2068 by decide) (show 73422 + 2000 ≤ 94210 by decide) (fun a16 => Gp_in (fun P21 F21 hq21 hP21 hx21 n21 => ?_))
  refine G_widen (cs' := 2057) (sl' := 75422) (by decide) (by decide) ?_
  have S21 := nwS_n S20p hq21 hP21 hx21 n21
  refine Gp_putF 16 S21.1 S21.2.1 dr_cX17_init_111 (gk_X17 D I) (Nat.le_of_ble_eq_true rfl) wr_7_90 rfl rfl rfl rfl rfl (Nat.le_of_ble_eq_true rfl) (fun F22p e22p n22p => ?_)
  have S22p := nwS_put (e1 := .inr (22, [.ref a0, .ref a1, .ref a2, .ref a3, .ref a4, .ref a5, .ref a6, .ref a7, .ref a8, .int 0, .int 0, .int 0, .int 0, .int 0, .int 0, .ref a15, .ref a16, .null, .null, .null, .null, .null, .null, .int 0, .int 0, .int 0, .int 0, .int 0, .null, .null, .int 0, .null, .int 0, .int 0, .int 0, .null])) S21 e22p n22p
  refine G_aload_n 0 dr_cX17_init_114 rfl ?_
  refine G_sipush 2000 dr_cX17_init_115 (by decide +kernel) ?_
  refine G_newa 0 (2000, .inl (fun _ => 0)) dr_cX17_init_118 rfl rfl (by intro C h; cases h) wr_1_95 (fun _ => ga_int _ _) (by decide) (by decide) (by decide) (show 2057 + 1 ≤ 2068 by decide) (show 75422 + 2000 ≤ 94210 by decide) (fun a17 => Gp_in (fun P23 F23 hq23 hP23 hx23 n23 => ?_))
  refine G_widen (cs' := 2058) (sl' := 77422) (by decide) (by decide) ?_
  have S23 := nwS_n S22p hq23 hP23 hx23 n23
  refine Gp_putF 17 S23.1 S23.2.1 dr_cX17_init_120 (gk_X17 D I) (Nat.le_of_ble_eq_true rfl) wr_7_91 rfl rfl rfl rfl rfl (Nat.le_of_ble_eq_true rfl) (fun F24p e24p n24p => ?_)
  have S24p := nwS_put (e1 := .inr (22, [.ref a0, .ref a1, .ref a2, .ref a3, .ref a4, .ref a5, .ref a6, .ref a7, .ref a8, .int 0, .int 0, .int 0, .int 0, .int 0, .int 0, .ref a15, .ref a16, .ref a17, .null, .null, .null, .null, .null, .int 0, .int 0, .int 0, .int 0, .int 0, .null, .null, .int 0, .null, .int 0, .int 0, .int 0, .null])) S23 e24p n24p
  refine G_aload_n 0 dr_cX17_init_123 rfl ?_
  refine G_sipush 2000 dr_cX17_init_124 (by decide +kernel) ?_
  refine G_newa 3 (2000, .inl (fun _ => 0)) dr_cX17_init_127 rfl rfl (by intro C h; cases h) wr_7_29 (fun _ => ga_boolean _ _) (by decide) (by decide) (by decide) (show 2058 + 1 ≤ 2068 by decide) (show 77422 + 2000 ≤ 94210 by decide) (fun a18 => Gp_in (fun P25 F25 hq25 hP25 hx25 n25 => ?_))
  refine G_widen (cs' := 2059) (sl' := 79422) (by decide) (by decide) ?_
  have S25 := nwS_n S24p hq25 hP25 hx25 n25
  refine Gp_putF 18 S25.1 S25.2.1 dr_cX17_init_129 (gk_X17 D I) (Nat.le_of_ble_eq_true rfl) wr_7_92 rfl rfl rfl rfl rfl (Nat.le_of_ble_eq_true rfl) (fun F26p e26p n26p => ?_)
  have S26p := nwS_put (e1 := .inr (22, [.ref a0, .ref a1, .ref a2, .ref a3, .ref a4, .ref a5, .ref a6, .ref a7, .ref a8, .int 0, .int 0, .int 0, .int 0, .int 0, .int 0, .ref a15, .ref a16, .ref a17, .ref a18, .null, .null, .null, .null, .int 0, .int 0, .int 0, .int 0, .int 0, .null, .null, .int 0, .null, .int 0, .int 0, .int 0, .null])) S25 e26p n26p
  refine G_aload_n 0 dr_cX17_init_132 rfl ?_
  refine G_sipush 2000 dr_cX17_init_133 (by decide +kernel) ?_
  refine G_newa 0 (2000, .inl (fun _ => 0)) dr_cX17_init_136 rfl rfl (by intro C h; cases h) wr_1_95 (fun _ => ga_int _ _) (by decide) (by decide) (by decide) (show 2059 + 1 ≤ 2068 by decide) (show 79422 + 2000 ≤ 94210 by decide) (fun a19 => Gp_in (fun P27 F27 hq27 hP27 hx27 n27 => ?_))
  refine G_widen (cs' := 2060) (sl' := 81422) (by decide) (by decide) ?_
  have S27 := nwS_n S26p hq27 hP27 hx27 n27
  refine Gp_putF 19 S27.1 S27.2.1 dr_cX17_init_138 (gk_X17 D I) (Nat.le_of_ble_eq_true rfl) wr_7_93 rfl rfl rfl rfl rfl (Nat.le_of_ble_eq_true rfl) (fun F28p e28p n28p => ?_)
  have S28p := nwS_put (e1 := .inr (22, [.ref a0, .ref a1, .ref a2, .ref a3, .ref a4, .ref a5, .ref a6, .ref a7, .ref a8, .int 0, .int 0, .int 0, .int 0, .int 0, .int 0, .ref a15, .ref a16, .ref a17, .ref a18, .ref a19, .null, .null, .null, .int 0, .int 0, .int 0, .int 0, .int 0, .null, .null, .int 0, .null, .int 0, .int 0, .int 0, .null])) S27 e28p n28p
  refine G_aload_n 0 dr_cX17_init_141 rfl ?_
  refine G_sipush 2000 dr_cX17_init_142 (by decide +kernel) ?_
  refine G_newa 0 (2000, .inl (fun _ => 0)) dr_cX17_init_145 rfl rfl (by intro C h; cases h) wr_1_95 (fun _ => ga_int _ _) (by decide) (by decide) (by decide) (show 2060 + 1 ≤ 2068 by decide) (show 81422 + 2000 ≤ 94210 by decide) (fun a20 => Gp_in (fun P29 F29 hq29 hP29 hx29 n29 => ?_))
  refine G_widen (cs' := 2061) (sl' := 83422) (by decide) (by decide) ?_
  have S29 := nwS_n S28p hq29 hP29 hx29 n29
  refine Gp_putF 20 S29.1 S29.2.1 dr_cX17_init_147 (gk_X17 D I) (Nat.le_of_ble_eq_true rfl) wr_7_94 rfl rfl rfl rfl rfl (Nat.le_of_ble_eq_true rfl) (fun F30p e30p n30p => ?_)
  have S30p := nwS_put (e1 := .inr (22, [.ref a0, .ref a1, .ref a2, .ref a3, .ref a4, .ref a5, .ref a6, .ref a7, .ref a8, .int 0, .int 0, .int 0, .int 0, .int 0, .int 0, .ref a15, .ref a16, .ref a17, .ref a18, .ref a19, .ref a20, .null, .null, .int 0, .int 0, .int 0, .int 0, .int 0, .null, .null, .int 0, .null, .int 0, .int 0, .int 0, .null])) S29 e30p n30p
  refine G_aload_n 0 dr_cX17_init_150 rfl ?_
  refine G_sipush 2000 dr_cX17_init_151 (by decide +kernel) ?_
  refine G_newa 0 (2000, .inl (fun _ => 0)) dr_cX17_init_154 rfl rfl (by intro C h; cases h) wr_1_95 (fun _ => ga_int _ _) (by decide) (by decide) (by decide) (show 2061 + 1 ≤ 2068 by decide) (show 83422 + 2000 ≤ 94210 by decide) (fun a21 => Gp_in (fun P31 F31 hq31 hP31 hx31 n31 => ?_))
  refine G_widen (cs' := 2062) (sl' := 85422) (by decide) (by decide) ?_
  have S31 := nwS_n S30p hq31 hP31 hx31 n31
  refine Gp_putF 21 S31.1 S31.2.1 dr_cX17_init_156 (gk_X17 D I) (Nat.le_of_ble_eq_true rfl) wr_7_95 rfl rfl rfl rfl rfl (Nat.le_of_ble_eq_true rfl) (fun F32p e32p n32p => ?_)
  have S32p := nwS_put (e1 := .inr (22, [.ref a0, .ref a1, .ref a2, .ref a3, .ref a4, .ref a5, .ref a6, .ref a7, .ref a8, .int 0, .int 0, .int 0, .int 0, .int 0, .int 0, .ref a15, .ref a16, .ref a17, .ref a18, .ref a19, .ref a20, .ref a21, .null, .int 0, .int 0, .int 0, .int 0, .int 0, .null, .null, .int 0, .null, .int 0, .int 0, .int 0, .null])) S31 e32p n32p
  refine G_aload_n 0 dr_cX17_init_159 rfl ?_
  refine G_sipush 512 dr_cX17_init_160 (by decide +kernel) ?_
  refine G_newa 0 (512, .inl (fun _ => 0)) dr_cX17_init_163 rfl rfl (by intro C h; cases h) wr_1_95 (fun _ => ga_int _ _) (by decide) (by decide) (by decide) (show 2062 + 1 ≤ 2068 by decide) (show 85422 + 512 ≤ 94210 by decide) (fun a22 => Gp_in (fun P33 F33 hq33 hP33 hx33 n33 => ?_))
  refine G_widen (cs' := 2063) (sl' := 85934) (by decide) (by decide) ?_
  have S33 := nwS_n S32p hq33 hP33 hx33 n33
  refine Gp_putF 22 S33.1 S33.2.1 dr_cX17_init_165 (gk_X17 D I) (Nat.le_of_ble_eq_true rfl) wr_7_96 rfl rfl rfl rfl rfl (Nat.le_of_ble_eq_true rfl) (fun F34p e34p n34p => ?_)
  have S34p := nwS_put (e1 := .inr (22, [.ref a0, .ref a1, .ref a2, .ref a3, .ref a4, .ref a5, .ref a6, .ref a7, .ref a8, .int 0, .int 0, .int 0, .int 0, .int 0, .int 0, .ref a15, .ref a16, .ref a17, .ref a18, .ref a19, .ref a20, .ref a21, .ref a22, .int 0, .int 0, .int 0, .int 0, .int 0, .null, .null, .int 0, .null, .int 0, .int 0, .int 0, .null])) S33 e34p n34p
  refine G_aload_n 0 dr_cX17_init_168 rfl ?_
  refine G_iconst (-1) dr_cX17_init_169 (by decide +kernel) ?_
  refine Gp_put 23 S34p.1 S34p.2.1 dr_cX17_init_170 (gk_X17 D I) (Nat.le_of_ble_eq_true rfl) wr_7_97 rfl rfl rfl (Nat.le_of_ble_eq_true rfl) (fun F36p e36p n36p => ?_)
  have S36p := nwS_put (e1 := .inr (22, [.ref a0, .ref a1, .ref a2, .ref a3, .ref a4, .ref a5, .ref a6, .ref a7, .ref a8, .int 0, .int 0, .int 0, .int 0, .int 0, .int 0, .ref a15, .ref a16, .ref a17, .ref a18, .ref a19, .ref a20, .ref a21, .ref a22, .int (-1), .int 0, .int 0, .int 0, .int 0, .null, .null, .int 0, .null, .int 0, .int 0, .int 0, .null])) S34p e36p n36p
  refine G_aload_n 0 dr_cX17_init_173 rfl ?_
  refine G_iconst 0 dr_cX17_init_174 (by decide +kernel) ?_
  refine G_newa 0 (0, .inl (fun _ => 0)) dr_cX17_init_175 rfl rfl (by intro C h; cases h) wr_1_95 (fun _ => ga_int _ _) (by decide) (by decide) (by decide) (show 2063 + 1 ≤ 2068 by decide) (show 85934 + 0 ≤ 94210 by decide) (fun a28 => Gp_in (fun P37 F37 hq37 hP37 hx37 n37 => ?_))
  refine G_widen (cs' := 2064) (sl' := 85934) (by decide) (by decide) ?_
  have S37 := nwS_n S36p hq37 hP37 hx37 n37
  refine Gp_put 28 S37.1 S37.2.1 dr_cX17_init_177 (gk_X17 D I) (Nat.le_of_ble_eq_true rfl) wr_7_102 rfl rfl rfl (Nat.le_of_ble_eq_true rfl) (fun F38p e38p n38p => ?_)
  have S38p := nwS_put (e1 := .inr (22, [.ref a0, .ref a1, .ref a2, .ref a3, .ref a4, .ref a5, .ref a6, .ref a7, .ref a8, .int 0, .int 0, .int 0, .int 0, .int 0, .int 0, .ref a15, .ref a16, .ref a17, .ref a18, .ref a19, .ref a20, .ref a21, .ref a22, .int (-1), .int 0, .int 0, .int 0, .int 0, .ref a28, .null, .int 0, .null, .int 0, .int 0, .int 0, .null])) S37 e38p n38p
  refine G_aload_n 0 dr_cX17_init_180 rfl ?_
  refine G_new [.null, .int 0, .int 0, .int 0] dr_cX17_init_181 (gk_J4 D I) wr_7_43 wr_7_44 wr_1_20 (gfs_J4) (show 2064 + 1 ≤ 2068 by decide) (show 85934 + 4 ≤ 94210 by decide) (fun a29 => Gp_in (fun P39 F39 hq39 hP39 hx39 n39 => ?_))
  refine G_widen (cs' := 2065) (sl' := 85938) (by decide) (by decide) ?_
  have S39 := nwS_n S38p hq39 hP39 hx39 n39
  refine G_dup dr_cX17_init_184 rfl ?_
  refine Gw_callI (As := []) (gV_ok D I) (cp_659115_StringBuilder_init l hl0 D I P39 F39 a29 0 0 (S39.2.2.1 _ List.mem_cons_self).1 hx39 ⟨by decide, by decide⟩ ⟨by decide, by decide⟩) dr_cX17_init_185 ⟨wr_7_45, wr_1_20, wr_7_47, by decide, rfl, (Nat.le_of_ble_eq_true rfl), (Nat.le_of_ble_eq_true rfl)⟩ wr_7_46 rfl (show 2065 + 1 ≤ 2068 by decide) (show 85938 + 16 ≤ 94210 by decide) (Nat.le_of_ble_eq_true rfl) (fun r39 w39 dc39 ds39 hp39 => ?_)
  obtain ⟨P39c, F39c, ra, rfl, rfl, hs39, fr39, ec39, eb39, mb39, nb39, hdc39, hds39⟩ := hp39
  change G _ _ _ _ _ _ _ _ _ _ _
  refine G_widen (cs' := 2066) (sl' := 85954) (by omega) (by omega) ?_
  have S39c := nwS_c (v := [(ra, .inl (I .byte, 16, .inl (fun _ => 0)))]) S39 hs39 fr39 ec39 (fun z hz => by rw [List.mem_singleton.mp hz]; exact ⟨mb39, nb39, eb39⟩) (List.nodup_cons.mpr ⟨List.not_mem_nil, List.nodup_nil⟩)
  refine Gp_putF 29 S39c.1 S39c.2.1 dr_cX17_init_188 (gk_X17 D I) (Nat.le_of_ble_eq_true rfl) wr_7_103 rfl rfl rfl rfl rfl (Nat.le_of_ble_eq_true rfl) (fun F40p e40p n40p => ?_)
  have S40p := nwS_put (e1 := .inr (22, [.ref a0, .ref a1, .ref a2, .ref a3, .ref a4, .ref a5, .ref a6, .ref a7, .ref a8, .int 0, .int 0, .int 0, .int 0, .int 0, .int 0, .ref a15, .ref a16, .ref a17, .ref a18, .ref a19, .ref a20, .ref a21, .ref a22, .int (-1), .int 0, .int 0, .int 0, .int 0, .ref a28, .ref a29, .int 0, .null, .int 0, .int 0, .int 0, .null])) S39c e40p n40p
  refine G_aload_n 0 dr_cX17_init_191 rfl ?_
  refine G_sipush 8192 dr_cX17_init_192 (by decide +kernel) ?_
  refine G_newa 1 (8192, .inl (fun _ => 0)) dr_cX17_init_195 rfl rfl (by intro C h; cases h) wr_1_66 (fun _ => ga_byte _ _) (by decide) (by decide) (by decide) (show 2066 + 1 ≤ 2068 by decide) (show 85954 + 8192 ≤ 94210 by decide) (fun a31 => Gp_in (fun P41 F41 hq41 hP41 hx41 n41 => ?_))
  refine G_widen (cs' := 2067) (sl' := 94146) (by decide) (by decide) ?_
  have S41 := nwS_n S40p hq41 hP41 hx41 n41
  refine Gp_putF 31 S41.1 S41.2.1 dr_cX17_init_197 (gk_X17 D I) (Nat.le_of_ble_eq_true rfl) wr_7_105 rfl rfl rfl rfl rfl (Nat.le_of_ble_eq_true rfl) (fun F42p e42p n42p => ?_)
  have S42p := nwS_put (e1 := .inr (22, [.ref a0, .ref a1, .ref a2, .ref a3, .ref a4, .ref a5, .ref a6, .ref a7, .ref a8, .int 0, .int 0, .int 0, .int 0, .int 0, .int 0, .ref a15, .ref a16, .ref a17, .ref a18, .ref a19, .ref a20, .ref a21, .ref a22, .int (-1), .int 0, .int 0, .int 0, .int 0, .ref a28, .ref a29, .int 0, .ref a31, .int 0, .int 0, .int 0, .null])) S41 e42p n42p
  refine G_aload_n 0 dr_cX17_init_200 rfl ?_
  refine G_bipush 64 dr_cX17_init_201 (by decide +kernel) ?_
  refine G_newa 1 (64, .inl (fun _ => 0)) dr_cX17_init_203 rfl rfl (by intro C h; cases h) wr_1_66 (fun _ => ga_byte _ _) (by decide) (by decide) (by decide) (show 2067 + 1 ≤ 2068 by decide) (show 94146 + 64 ≤ 94210 by decide) (fun a35 => Gp_in (fun P43 F43 hq43 hP43 hx43 n43 => ?_))
  refine G_widen (cs' := 2068) (sl' := 94210) (by decide) (by decide) ?_
  have S43 := nwS_n S42p hq43 hP43 hx43 n43
  refine Gp_put 35 S43.1 S43.2.1 dr_cX17_init_205 (gk_X17 D I) (Nat.le_of_ble_eq_true rfl) wr_7_109 rfl rfl rfl (Nat.le_of_ble_eq_true rfl) (fun F44p e44p n44p => ?_)
  have S44p := nwS_put (e1 := .inr (22, [.ref a0, .ref a1, .ref a2, .ref a3, .ref a4, .ref a5, .ref a6, .ref a7, .ref a8, .int 0, .int 0, .int 0, .int 0, .int 0, .int 0, .ref a15, .ref a16, .ref a17, .ref a18, .ref a19, .ref a20, .ref a21, .ref a22, .int (-1), .int 0, .int 0, .int 0, .int 0, .ref a28, .ref a29, .int 0, .ref a31, .int 0, .int 0, .int 0, .ref a35])) S43 e44p n44p
  have Z : nwS m (.inr (22, [.ref a0, .ref a1, .ref a2, .ref a3, .ref a4, .ref a5, .ref a6, .ref a7, .ref a8, .int 0, .int 0, .int 0, .int 0, .int 0, .int 0, .ref a15, .ref a16, .ref a17, .ref a18, .ref a19, .ref a20, .ref a21, .ref a22, .int (-1), .int 0, .int 0, .int 0, .int 0, .ref a28, .ref a29, .int 0, .ref a31, .int 0, .int 0, .int 0, .ref a35])) (([(a35, .inl (I .byte, 64, .inl (fun _ => 0))), (a31, .inl (I .byte, 8192, .inl (fun _ => 0))), (ra, .inl (I .byte, 16, .inl (fun _ => 0))), (a29, .inr (1, [.ref ra, .int 0, .int 0, .int 0])), (a28, .inl (I .int, 0, .inl (fun _ => 0))), (a22, .inl (I .int, 512, .inl (fun _ => 0))), (a21, .inl (I .int, 2000, .inl (fun _ => 0))), (a20, .inl (I .int, 2000, .inl (fun _ => 0))), (a19, .inl (I .int, 2000, .inl (fun _ => 0))), (a18, .inl (I .boolean, 2000, .inl (fun _ => 0))), (a17, .inl (I .int, 2000, .inl (fun _ => 0))), (a16, .inl (I .int, 2000, .inl (fun _ => 0))), (a15, .inl (I .int, 2000, .inl (fun _ => 0))), (b8, .inr (4, [.int 0, .ref (D.2 1002 1), .int 0])), (d8, .inr (4, [.int 0, .ref (D.2 1002 1), .int 0])), (a8, .inr (18, [.ref b8, .ref d8, .int 0, .int 0])), (b7, .inr (4, [.int 0, .ref (D.2 1002 1), .int 0])), (d7, .inr (4, [.int 0, .ref (D.2 1002 1), .int 0])), (a7, .inr (18, [.ref b7, .ref d7, .int 0, .int 0])), (b6, .inr (4, [.int 0, .ref (D.2 1002 1), .int 0])), (d6, .inr (4, [.int 0, .ref (D.2 1002 1), .int 0])), (a6, .inr (18, [.ref b6, .ref d6, .int 0, .int 0])), (a5, .inl (I .int, 2000, .inl (fun _ => 0))), (a4, .inl (I .int, 40, .inl (fun _ => 0))), (a3, .inl (I .boolean, 2000, .inl (fun _ => 0))), (a2, .inl (I .long, 32, .inr (.inl (fun _ => 0))))] : va_W) ++ (mnL (I (.array .long)) (I .long) a1 2000 32 ++ (mnL (I (.array .long)) (I .long) a0 40 32 ++ []))) P43 F44p := S44p
  have hN : (inK (fun j => [a0, a1, a2, a3, a4, a5, a6, a7, a8, 0, 0, 0, 0, 0, 0, a15, a16, a17, a18, a19, a20, a21, a22, 0, 0, 0, 0, 0, a28, a29, 0, a31, 0, 0, 0, a35].getD j 0) m ra (fun j => [b6, b7, b8].getD j 0) (fun j => [d6, d7, d8].getD j 0)).map Prod.fst = m :: (([(a35, .inl (I .byte, 64, .inl (fun _ => 0))), (a31, .inl (I .byte, 8192, .inl (fun _ => 0))), (ra, .inl (I .byte, 16, .inl (fun _ => 0))), (a29, .inr (1, [.ref ra, .int 0, .int 0, .int 0])), (a28, .inl (I .int, 0, .inl (fun _ => 0))), (a22, .inl (I .int, 512, .inl (fun _ => 0))), (a21, .inl (I .int, 2000, .inl (fun _ => 0))), (a20, .inl (I .int, 2000, .inl (fun _ => 0))), (a19, .inl (I .int, 2000, .inl (fun _ => 0))), (a18, .inl (I .boolean, 2000, .inl (fun _ => 0))), (a17, .inl (I .int, 2000, .inl (fun _ => 0))), (a16, .inl (I .int, 2000, .inl (fun _ => 0))), (a15, .inl (I .int, 2000, .inl (fun _ => 0))), (b8, .inr (4, [.int 0, .ref (D.2 1002 1), .int 0])), (d8, .inr (4, [.int 0, .ref (D.2 1002 1), .int 0])), (a8, .inr (18, [.ref b8, .ref d8, .int 0, .int 0])), (b7, .inr (4, [.int 0, .ref (D.2 1002 1), .int 0])), (d7, .inr (4, [.int 0, .ref (D.2 1002 1), .int 0])), (a7, .inr (18, [.ref b7, .ref d7, .int 0, .int 0])), (b6, .inr (4, [.int 0, .ref (D.2 1002 1), .int 0])), (d6, .inr (4, [.int 0, .ref (D.2 1002 1), .int 0])), (a6, .inr (18, [.ref b6, .ref d6, .int 0, .int 0])), (a5, .inl (I .int, 2000, .inl (fun _ => 0))), (a4, .inl (I .int, 40, .inl (fun _ => 0))), (a3, .inl (I .boolean, 2000, .inl (fun _ => 0))), (a2, .inl (I .long, 32, .inr (.inl (fun _ => 0))))] : va_W) ++ (mnL (I (.array .long)) (I .long) a1 2000 32 ++ (mnL (I (.array .long)) (I .long) a0 40 32 ++ []))).map Prod.fst := by
    simp only [inK, inA, inR, mnL, List.map_append, List.map_cons, List.map_map, List.map_nil, List.append_nil, List.cons_append, List.nil_append]
    rfl
  have hnd : ((inK (fun j => [a0, a1, a2, a3, a4, a5, a6, a7, a8, 0, 0, 0, 0, 0, 0, a15, a16, a17, a18, a19, a20, a21, a22, 0, 0, 0, 0, 0, a28, a29, 0, a31, 0, 0, 0, a35].getD j 0) m ra (fun j => [b6, b7, b8].getD j 0) (fun j => [d6, d7, d8].getD j 0)).map Prod.fst).Nodup := by rw [hN]; exact Z.2.2.2
  have hPP : ∀ b, b ∈ (inK (fun j => [a0, a1, a2, a3, a4, a5, a6, a7, a8, 0, 0, 0, 0, 0, 0, a15, a16, a17, a18, a19, a20, a21, a22, 0, 0, 0, 0, 0, a28, a29, 0, a31, 0, 0, 0, a35].getD j 0) m ra (fun j => [b6, b7, b8].getD j 0) (fun j => [d6, d7, d8].getD j 0)).map Prod.fst → b ∈ P43 := fun b hb => by
    rw [hN] at hb
    rcases List.mem_cons.mp hb with e | e
    · rw [e]; exact Z.1
    · obtain ⟨z, hz, ez⟩ := List.mem_map.mp e
      rw [← ez]; exact (Z.2.2.1 z hz).1
  have hr1 : ∀ i, i < 2000 → F44p (a1 + 1 + i) = .inl (I .long, 32, .inr (.inl (fun _ => 0))) := fun i hi => (Z.2.2.1 _ (List.mem_append_right _ (List.mem_append_left _ (List.mem_cons_of_mem _ (List.mem_map.mpr ⟨i, List.mem_range.mpr hi, rfl⟩))))).2
  have hr0 : ∀ i, i < 40 → F44p (a0 + 1 + i) = .inl (I .long, 32, .inr (.inl (fun _ => 0))) := fun i hi => (Z.2.2.1 _ (List.mem_append_right _ (List.mem_append_right _ (List.mem_append_left _ (List.mem_cons_of_mem _ (List.mem_map.mpr ⟨i, List.mem_range.mpr hi, rfl⟩)))))).2
  have he1 := (Z.2.2.1 _ (List.mem_append_right _ (List.mem_append_left _ List.mem_cons_self))).2
  have he0 := (Z.2.2.1 _ (List.mem_append_right _ (List.mem_append_right _ (List.mem_append_left _ List.mem_cons_self)))).2
  have hR := RS_ini (D := D) (I := I) (P := P43) (F := F44p) (el := fun _ _ => 0) (g := (fun j => [a0, a1, a2, a3, a4, a5, a6, a7, a8, 0, 0, 0, 0, 0, 0, a15, a16, a17, a18, a19, a20, a21, a22, 0, 0, 0, 0, 0, a28, a29, 0, a31, 0, 0, 0, a35].getD j 0)) (lb := (fun j => [b6, b7, b8].getD j 0)) (lr := (fun j => [d6, d7, d8].getD j 0)) (m := m) (ra := ra) hPP hnd Z.2.1 (nwS_at Z 25 rfl) (nwS_at Z 24 rfl) (nwS_at Z 23 rfl) (nwS_at Z 22 rfl) (nwS_at Z 12 rfl) (nwS_at Z 11 rfl) (nwS_at Z 10 rfl) (nwS_at Z 9 rfl) (nwS_at Z 8 rfl) (nwS_at Z 7 rfl) (nwS_at Z 6 rfl) (nwS_at Z 5 rfl) (nwS_at Z 4 rfl) (nwS_at Z 1 rfl) (nwS_at Z 0 rfl) he0 he1 hr0 hr1 (nwS_at Z 21 rfl) (nwS_at Z 19 rfl) (nwS_at Z 20 rfl) (nwS_at Z 18 rfl) (nwS_at Z 16 rfl) (nwS_at Z 17 rfl) (nwS_at Z 15 rfl) (nwS_at Z 13 rfl) (nwS_at Z 14 rfl) (nwS_at Z 3 rfl) (nwS_at Z 2 rfl)
  exact G_vretA dr_cX17_init_208 rfl (Nat.le_of_ble_eq_true rfl) (Nat.le_of_ble_eq_true rfl) ⟨P43, F44p, (fun j => [a0, a1, a2, a3, a4, a5, a6, a7, a8, 0, 0, 0, 0, 0, 0, a15, a16, a17, a18, a19, a20, a21, a22, 0, 0, 0, 0, 0, a28, a29, 0, a31, 0, 0, 0, a35].getD j 0), (fun j => [b6, b7, b8].getD j 0), (fun j => [d6, d7, d8].getD j 0), ra, rfl, rfl, hR, lkK_m hnd List.mem_cons_self, Z.2.1, (nwS_at Z 3 rfl), (nwS_at Z 4 rfl), hnd, Nat.le_refl _, Nat.le_refl _⟩
