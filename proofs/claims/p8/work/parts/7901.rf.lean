/- tr_RModel_set2: a.0.[] -/
def tr_RModel_set2 (a1 : Int32) (a0_v : Nat → Int64) (o1 : Nat → Int64) : Prop := ∀ R : (Nat → Int64) → Prop,
  (∀ (x1 : Int32) (x2 : Int64) (x3 : Int64) (x4 : Int64) (x5 : Nat → Int64), x1.toInt = a1.toInt / 64 → x2 = a0_v x1.toNatClampNeg → x3 = (1 : Int64) <<< (a1.toInt64 &&& 63) → x4 = x2 ||| x3 → x5 = vp_updL a0_v x1.toNatClampNeg x4 → R x5) →
  R o1
abbrev ky_221511_SpillForgeModel_set : gKey := (cX17_set, 2, "SpillForgeModel", none, [], "set", fun _ _ => True)
def pp_221511_SpillForgeModel_set (D : va_G) (I : FieldType → ClassId) (P221505 : List Nat) (F221506 : Nat → va_E) (q221507 : Nat) (p221508 : Int32) (f221509 : Nat → Int64) : Option Value → va_W → Nat → Nat → Prop := fun r w dc ds => ∃ (F221524 : Nat → va_E) (f221522 : Nat → Int64), r = none ∧ w = va_pl P221505 F221524 ∧ rFr [q221507] P221505 F221506 F221524 ∧ F221524 q221507 = .inl (I .long, 32, .inr (.inl f221522)) ∧ dc ≤ 0 ∧ ds ≤ 0 ∧ lb_W f221522 (32) (32) (2000) ∧ (∀ k : Nat, rbt f221522 k = (rbt f221509 k || decide ((k : Int) = p221508.toInt))) ∧ tr_RModel_set2 p221508 f221509 f221522
set_option maxRecDepth 100000 in
set_option maxHeartbeats 4000000 in
theorem cp_221511_SpillForgeModel_set (l : Launch) (hl0 : l.stackTraces = false) (D : va_G) (I : FieldType → ClassId) (P221505 : List Nat) (F221506 : Nat → va_E) (q221507 : Nat) (p221508 : Int32) (f221509 : Nat → Int64) (hmq221507 : q221507 ∈ P221505) (heq221507 : F221506 q221507 = .inl (I .long, 32, .inr (.inl f221509))) (bp221508 : gB p221508 0 1999) (x221510 : lb_W f221509 (32) (32) (2000)) : CtA (gV D I) l yX17_set cX17_set 2 none 0 0 0 0 [.ref q221507, .int p221508] (va_pl P221505 F221506) (pp_221511_SpillForgeModel_set D I P221505 F221506 q221507 p221508 f221509) gNA := by
  refine CtA_of hl0 (by decide) (Nat.le_of_ble_eq_true rfl) ?_
  refine G_aload_n 0 dr_cX17_set_0 rfl ?_
  refine G_iload_n 1 dr_cX17_set_1 rfl ?_
  refine G_bipush 6 dr_cX17_set_2 (by decide +kernel) ?_
  refine G_ishr dr_cX17_set_4 (G_nam fun z221512 hz221512 => ?_)
  have ez221512 : z221512.toInt = p221508.toInt / 64 := gI_shr (k := 6) hz221512 (by decide)
  have bz221512 : gB z221512 0 31 := ⟨by omega, by omega⟩
  refine G_dup2_11 dr_cX17_set_5 rfl rfl ?_
  refine Gp_lald 2 hmq221507 heq221507 dr_cX17_set_6 rfl (gB_in bz221512 (by decide) (by decide)) (G_namL fun u221513 hu221513 => ?_)
  have qu221513 : lb_Q u221513 (2000 - 64 * z221512.toInt) := lb_Wld hu221513 x221510 (by omega) (by omega) (lb_Mod0 (by omega) (by omega))
  refine G_lconst 1 dr_cX17_set_7 rfl ?_
  refine G_iload_n 1 dr_cX17_set_8 rfl ?_
  refine G_lshl dr_cX17_set_9 (G_namL fun u221514 hu221514 => ?_)
  have qu221514 : lb_Q u221514 (p221508.toInt % 64 + 1) := lb_Qshl hu221514 (by omega)
  refine G_lor dr_cX17_set_10 (G_namL fun u221515 hu221515 => ?_)
  have qu221515 : lb_Q u221515 (2000 - 64 * z221512.toInt) := lb_Qor hu221515 qu221513 (lb_Qw qu221514 (by omega))
  refine Gp_last 2 hmq221507 heq221507 dr_cX17_set_11 rfl (gB_in bz221512 (by decide) (by decide)) (fun F221516 e221517 n221518 => ?_)
  obtain ⟨f221519, hf221519⟩ : ∃ z, z = vp_updL f221509 z221512.toNatClampNeg u221515 := ⟨_, rfl⟩
  rw [← hf221519] at e221517
  have he221520 : F221516 q221507 = .inl (I .long, 32, .inr (.inl f221519)) := e221517
  have hfr221521 : rFr [q221507] P221505 F221506 F221516 := rFr_put (rFr_rf (W := []) (P := P221505) (F := F221506)) n221518
  have wf221519 : lb_W f221519 (32) (32) (2000) := lb_Wst hf221519 x221510 (by omega) (lb_Mod0 (by omega) (by omega)) qu221515
  exact G_vretA dr_cX17_set_12 rfl (Nat.le_of_ble_eq_true rfl) (Nat.le_of_ble_eq_true rfl) ⟨F221516, f221519, rfl, rfl, hfr221521, he221520, (Nat.le_of_ble_eq_true rfl), (Nat.le_of_ble_eq_true rfl), wf221519, (rbt_set (by assumption) (by assumption) (by assumption) (by assumption) hf221519 (by omega)), (fun R c1 => c1 z221512 u221513 u221514 u221515 f221519 ez221512 hu221513 hu221514 hu221515 hf221519)⟩
/- tr_RModel_clear2: a.0.[] -/
def tr_RModel_clear2 (a1 : Int32) (a0_v : Nat → Int64) (o1 : Nat → Int64) : Prop := ∀ R : (Nat → Int64) → Prop,
  (∀ (x1 : Int32) (x2 : Int64) (x3 : Int64) (x4 : Int64) (x5 : Int64) (x6 : Nat → Int64), x1.toInt = a1.toInt / 64 → x2 = a0_v x1.toNatClampNeg → x3 = (1 : Int64) <<< (a1.toInt64 &&& 63) → x4 = x3 ^^^ (-1 : Int64) → x5 = x2 &&& x4 → x6 = vp_updL a0_v x1.toNatClampNeg x5 → R x6) →
  R o1
abbrev ky_221531_SpillForgeModel_clear : gKey := (cX17_clear, 2, "SpillForgeModel", none, [], "clear", fun _ _ => True)
def pp_221531_SpillForgeModel_clear (D : va_G) (I : FieldType → ClassId) (P221525 : List Nat) (F221526 : Nat → va_E) (q221527 : Nat) (p221528 : Int32) (f221529 : Nat → Int64) : Option Value → va_W → Nat → Nat → Prop := fun r w dc ds => ∃ (F221545 : Nat → va_E) (f221543 : Nat → Int64), r = none ∧ w = va_pl P221525 F221545 ∧ rFr [q221527] P221525 F221526 F221545 ∧ F221545 q221527 = .inl (I .long, 32, .inr (.inl f221543)) ∧ dc ≤ 0 ∧ ds ≤ 0 ∧ lb_W f221543 (32) (32) (2000) ∧ (∀ k : Nat, rbt f221543 k = (rbt f221529 k && ! decide ((k : Int) = p221528.toInt))) ∧ tr_RModel_clear2 p221528 f221529 f221543
set_option maxRecDepth 100000 in
set_option maxHeartbeats 4000000 in
theorem cp_221531_SpillForgeModel_clear (l : Launch) (hl0 : l.stackTraces = false) (D : va_G) (I : FieldType → ClassId) (P221525 : List Nat) (F221526 : Nat → va_E) (q221527 : Nat) (p221528 : Int32) (f221529 : Nat → Int64) (hmq221527 : q221527 ∈ P221525) (heq221527 : F221526 q221527 = .inl (I .long, 32, .inr (.inl f221529))) (bp221528 : gB p221528 0 1999) (x221530 : lb_W f221529 (32) (32) (2000)) : CtA (gV D I) l yX17_clear cX17_clear 2 none 0 0 0 0 [.ref q221527, .int p221528] (va_pl P221525 F221526) (pp_221531_SpillForgeModel_clear D I P221525 F221526 q221527 p221528 f221529) gNA := by
  refine CtA_of hl0 (by decide) (Nat.le_of_ble_eq_true rfl) ?_
  refine G_aload_n 0 dr_cX17_clear_0 rfl ?_
  refine G_iload_n 1 dr_cX17_clear_1 rfl ?_
  refine G_bipush 6 dr_cX17_clear_2 (by decide +kernel) ?_
  refine G_ishr dr_cX17_clear_4 (G_nam fun z221532 hz221532 => ?_)
  have ez221532 : z221532.toInt = p221528.toInt / 64 := gI_shr (k := 6) hz221532 (by decide)
  have bz221532 : gB z221532 0 31 := ⟨by omega, by omega⟩
  refine G_dup2_11 dr_cX17_clear_5 rfl rfl ?_
  refine Gp_lald 2 hmq221527 heq221527 dr_cX17_clear_6 rfl (gB_in bz221532 (by decide) (by decide)) (G_namL fun u221533 hu221533 => ?_)
  have qu221533 : lb_Q u221533 (2000 - 64 * z221532.toInt) := lb_Wld hu221533 x221530 (by omega) (by omega) (lb_Mod0 (by omega) (by omega))
  refine G_lconst 1 dr_cX17_clear_7 rfl ?_
  refine G_iload_n 1 dr_cX17_clear_8 rfl ?_
  refine G_lshl dr_cX17_clear_9 (G_namL fun u221534 hu221534 => ?_)
  have qu221534 : lb_Q u221534 (p221528.toInt % 64 + 1) := lb_Qshl hu221534 (by omega)
  refine G_ldc2 (-1) dr_cX17_clear_10 wr_10_188 ?_
  refine G_lxor dr_cX17_clear_13 (G_namL fun u221535 hu221535 => ?_)
  refine G_land dr_cX17_clear_14 (G_namL fun u221536 hu221536 => ?_)
  have qu221536 : lb_Q u221536 (2000 - 64 * z221532.toInt) := lb_QandL hu221536 qu221533
  refine Gp_last 2 hmq221527 heq221527 dr_cX17_clear_15 rfl (gB_in bz221532 (by decide) (by decide)) (fun F221537 e221538 n221539 => ?_)
  obtain ⟨f221540, hf221540⟩ : ∃ z, z = vp_updL f221529 z221532.toNatClampNeg u221536 := ⟨_, rfl⟩
  rw [← hf221540] at e221538
  have he221541 : F221537 q221527 = .inl (I .long, 32, .inr (.inl f221540)) := e221538
  have hfr221542 : rFr [q221527] P221525 F221526 F221537 := rFr_put (rFr_rf (W := []) (P := P221525) (F := F221526)) n221539
  have wf221540 : lb_W f221540 (32) (32) (2000) := lb_Wst hf221540 x221530 (by omega) (lb_Mod0 (by omega) (by omega)) qu221536
  exact G_vretA dr_cX17_clear_16 rfl (Nat.le_of_ble_eq_true rfl) (Nat.le_of_ble_eq_true rfl) ⟨F221537, f221540, rfl, rfl, hfr221542, he221541, (Nat.le_of_ble_eq_true rfl), (Nat.le_of_ble_eq_true rfl), wf221540, (rbt_clr (by assumption) (by assumption) (by assumption) (by assumption) (by assumption) hf221540 (by omega)), (fun R c1 => c1 z221532 u221533 u221534 u221535 u221536 f221540 ez221532 hu221533 hu221534 hu221535 hu221536 hf221540)⟩
/- tr_RRow_usesA2: result -/
def tr_RRow_usesA2 (a0_op : Int32) (a0_regA : Int32) (o1 : Int32) : Prop := ∀ R : (Int32) → Prop,
  (a0_op.toInt = 20 → R (0 : Int32)) →
  (a0_op.toInt ≠ 20 → a0_op.toInt = 21 → R (0 : Int32)) →
  (a0_op.toInt ≠ 20 → a0_op.toInt ≠ 21 → a0_op.toInt = 30 → R (0 : Int32)) →
  (a0_op.toInt ≠ 20 → a0_op.toInt ≠ 21 → a0_op.toInt ≠ 30 → a0_regA.toInt = 0 → R (0 : Int32)) →
  (a0_op.toInt ≠ 20 → a0_op.toInt ≠ 21 → a0_op.toInt ≠ 30 → a0_regA.toInt ≠ 0 → R (1 : Int32)) →
  R o1
abbrev ky_221556_Row_usesA : gKey := (cX15_usesA, 1, "SpillForgeModel$Row", (some FieldType.boolean), [], "usesA", fun _ _ => True)
def pp_221556_Row_usesA (D : va_G) (I : FieldType → ClassId) (P221546 : List Nat) (F221547 : Nat → va_E) (q221548 : Nat) (p221549 : Int32) (p221550 : Int32) (p221551 : Int32) (p221552 : Int32) (p221553 : Int32) (p221554 : Int32) (p221555 : Int32) : Option Value → va_W → Nat → Nat → Prop := fun r w dc ds => ∃ (o221569 : Int32), r = some (.int o221569) ∧ w = va_pl P221546 F221547 ∧ dc ≤ 0 ∧ ds ≤ 0 ∧ gB o221569 0 1 ∧ ((o221569.toInt = 1 ∧ p221549.toInt ≠ 20 ∧ p221549.toInt ≠ 21 ∧ p221549.toInt ≠ 30 ∧ p221554.toInt = 1) ∨ (o221569.toInt = 0 ∧ (p221549.toInt = 20 ∨ p221549.toInt = 21 ∨ p221549.toInt = 30 ∨ p221554.toInt = 0))) ∧ tr_RRow_usesA2 p221549 p221554 o221569
set_option maxRecDepth 100000 in
set_option maxHeartbeats 4000000 in
theorem cp_221556_Row_usesA (l : Launch) (hl0 : l.stackTraces = false) (D : va_G) (I : FieldType → ClassId) (P221546 : List Nat) (F221547 : Nat → va_E) (q221548 : Nat) (p221549 : Int32) (p221550 : Int32) (p221551 : Int32) (p221552 : Int32) (p221553 : Int32) (p221554 : Int32) (p221555 : Int32) (hmq221548 : q221548 ∈ P221546) (heq221548 : F221547 q221548 = .inr (20, [.int p221549, .int p221550, .int p221551, .int p221552, .int p221553, .int p221554, .int p221555])) (bp221549 : gB p221549 0 32) (bp221550 : gB p221550 0 1999) (bp221553 : gB p221553 0 1999) (bp221554 : gB p221554 0 1) (bp221555 : gB p221555 0 1) : CtA (gV D I) l yX15_usesA cX15_usesA 1 (some FieldType.boolean) 0 0 0 0 [.ref q221548] (va_pl P221546 F221547) (pp_221556_Row_usesA D I P221546 F221547 q221548 p221549 p221550 p221551 p221552 p221553 p221554 p221555) gNA := by
  refine CtA_of hl0 (by decide) (Nat.le_of_ble_eq_true rfl) ?_
  have bp221551 := gB_any p221551
  have bp221552 := gB_any p221552
  refine G_aload_n 0 dr_cX15_usesA_0 rfl ?_
  refine Gp_get 0 hmq221548 heq221548 dr_cX15_usesA_1 (gk_X15 D I) (Nat.le_of_ble_eq_true rfl) wr_9_175 rfl ?_
  refine G_bipush 20 dr_cX15_usesA_4 (by decide +kernel) ?_
  refine G_icmp_eq 38 dr_cX15_usesA_6 (by decide +kernel) (fun hc221557 => ?_) (fun hc221557 => ?_)
  · have r221558 : p221549.toInt = 20 := gj_eq hc221557 (show Int32.toInt 20 = 20 by decide)
    have bp221549' : gB p221549 20 20 := ⟨by omega, by omega⟩
    refine G_iconst 0 dr_cX15_usesA_38 (by decide +kernel) ?_
    exact G_zretA FieldType.boolean dr_cX15_usesA_39 rfl rfl (Nat.le_of_ble_eq_true rfl) (Nat.le_of_ble_eq_true rfl) ⟨0, rfl, rfl, (Nat.le_of_ble_eq_true rfl), (Nat.le_of_ble_eq_true rfl), (gB_w (gBl (show Int32.toInt 0 = 0 by decide)) (by decide) (by decide)), (by have qa0 : Int32.toInt 0 = 0 := (by decide); omega), (fun R c1 c2 c3 c4 c5 => c1 r221558)⟩
  · have r221559 : p221549.toInt ≠ 20 := gj_neq hc221557 (show Int32.toInt 20 = 20 by decide)
    refine G_aload_n 0 dr_cX15_usesA_9 rfl ?_
    refine Gp_get 0 hmq221548 heq221548 dr_cX15_usesA_10 (gk_X15 D I) (Nat.le_of_ble_eq_true rfl) wr_9_175 rfl ?_
    refine G_bipush 21 dr_cX15_usesA_13 (by decide +kernel) ?_
    refine G_icmp_eq 38 dr_cX15_usesA_15 (by decide +kernel) (fun hc221560 => ?_) (fun hc221560 => ?_)
    · have r221561 : p221549.toInt = 21 := gj_eq hc221560 (show Int32.toInt 21 = 21 by decide)
      have bp221549' : gB p221549 21 21 := ⟨by omega, by omega⟩
      refine G_iconst 0 dr_cX15_usesA_38 (by decide +kernel) ?_
      exact G_zretA FieldType.boolean dr_cX15_usesA_39 rfl rfl (Nat.le_of_ble_eq_true rfl) (Nat.le_of_ble_eq_true rfl) ⟨0, rfl, rfl, (Nat.le_of_ble_eq_true rfl), (Nat.le_of_ble_eq_true rfl), (gB_w (gBl (show Int32.toInt 0 = 0 by decide)) (by decide) (by decide)), (by have qa0 : Int32.toInt 0 = 0 := (by decide); omega), (fun R c1 c2 c3 c4 c5 => c2 r221559 r221561)⟩
    · have r221562 : p221549.toInt ≠ 21 := gj_neq hc221560 (show Int32.toInt 21 = 21 by decide)
      refine G_aload_n 0 dr_cX15_usesA_18 rfl ?_
      refine Gp_get 0 hmq221548 heq221548 dr_cX15_usesA_19 (gk_X15 D I) (Nat.le_of_ble_eq_true rfl) wr_9_175 rfl ?_
      refine G_bipush 30 dr_cX15_usesA_22 (by decide +kernel) ?_
      refine G_icmp_eq 38 dr_cX15_usesA_24 (by decide +kernel) (fun hc221563 => ?_) (fun hc221563 => ?_)
      · have r221564 : p221549.toInt = 30 := gj_eq hc221563 (show Int32.toInt 30 = 30 by decide)
        have bp221549' : gB p221549 30 30 := ⟨by omega, by omega⟩
        refine G_iconst 0 dr_cX15_usesA_38 (by decide +kernel) ?_
        exact G_zretA FieldType.boolean dr_cX15_usesA_39 rfl rfl (Nat.le_of_ble_eq_true rfl) (Nat.le_of_ble_eq_true rfl) ⟨0, rfl, rfl, (Nat.le_of_ble_eq_true rfl), (Nat.le_of_ble_eq_true rfl), (gB_w (gBl (show Int32.toInt 0 = 0 by decide)) (by decide) (by decide)), (by have qa0 : Int32.toInt 0 = 0 := (by decide); omega), (fun R c1 c2 c3 c4 c5 => c3 r221559 r221562 r221564)⟩
      · have r221565 : p221549.toInt ≠ 30 := gj_neq hc221563 (show Int32.toInt 30 = 30 by decide)
        refine G_aload_n 0 dr_cX15_usesA_27 rfl ?_
        refine Gp_get 5 hmq221548 heq221548 dr_cX15_usesA_28 (gk_X15 D I) (Nat.le_of_ble_eq_true rfl) wr_9_195 rfl ?_
        refine G_if_eq 38 dr_cX15_usesA_31 (by decide +kernel) (fun hc221566 => ?_) (fun hc221566 => ?_)
        · have r221567 : p221554.toInt = 0 := gj_eq hc221566 (show Int32.toInt 0 = 0 by decide)
          have bp221554' : gB p221554 0 0 := ⟨by omega, by omega⟩
          refine G_iconst 0 dr_cX15_usesA_38 (by decide +kernel) ?_
          exact G_zretA FieldType.boolean dr_cX15_usesA_39 rfl rfl (Nat.le_of_ble_eq_true rfl) (Nat.le_of_ble_eq_true rfl) ⟨0, rfl, rfl, (Nat.le_of_ble_eq_true rfl), (Nat.le_of_ble_eq_true rfl), (gB_w (gBl (show Int32.toInt 0 = 0 by decide)) (by decide) (by decide)), (by have qa0 : Int32.toInt 0 = 0 := (by decide); omega), (fun R c1 c2 c3 c4 c5 => c4 r221559 r221562 r221565 r221567)⟩
        · have r221568 : p221554.toInt ≠ 0 := gj_neq hc221566 (show Int32.toInt 0 = 0 by decide)
          have bp221554' : gB p221554 1 1 := ⟨by omega, by omega⟩
          refine G_iconst 1 dr_cX15_usesA_34 (by decide +kernel) ?_
          refine G_goto 39 dr_cX15_usesA_35 (by decide +kernel) ?_
          exact G_zretA FieldType.boolean dr_cX15_usesA_39 rfl rfl (Nat.le_of_ble_eq_true rfl) (Nat.le_of_ble_eq_true rfl) ⟨1, rfl, rfl, (Nat.le_of_ble_eq_true rfl), (Nat.le_of_ble_eq_true rfl), (gB_w (gBl (show Int32.toInt 1 = 1 by decide)) (by decide) (by decide)), (by have qa0 : Int32.toInt 1 = 1 := (by decide); omega), (fun R c1 c2 c3 c4 c5 => c5 r221559 r221562 r221565 r221568)⟩
/- tr_RRow_usesB2: result -/
def tr_RRow_usesB2 (a0_op : Int32) (a0_regB : Int32) (o1 : Int32) : Prop := ∀ R : (Int32) → Prop,
  (a0_op.toInt ≤ 0 → R (0 : Int32)) →
  (0 < a0_op.toInt → 20 ≤ a0_op.toInt → R (0 : Int32)) →
  (0 < a0_op.toInt → a0_op.toInt < 20 → a0_regB.toInt = 0 → R (0 : Int32)) →
  (0 < a0_op.toInt → a0_op.toInt < 20 → a0_regB.toInt ≠ 0 → R (1 : Int32)) →
  R o1
abbrev ky_221580_Row_usesB : gKey := (cX15_usesB, 1, "SpillForgeModel$Row", (some FieldType.boolean), [], "usesB", fun _ _ => True)
def pp_221580_Row_usesB (D : va_G) (I : FieldType → ClassId) (P221570 : List Nat) (F221571 : Nat → va_E) (q221572 : Nat) (p221573 : Int32) (p221574 : Int32) (p221575 : Int32) (p221576 : Int32) (p221577 : Int32) (p221578 : Int32) (p221579 : Int32) : Option Value → va_W → Nat → Nat → Prop := fun r w dc ds => ∃ (o221590 : Int32), r = some (.int o221590) ∧ w = va_pl P221570 F221571 ∧ dc ≤ 0 ∧ ds ≤ 0 ∧ gB o221590 0 1 ∧ ((o221590.toInt = 1 ∧ 0 < p221573.toInt ∧ p221573.toInt < 20 ∧ p221579.toInt = 1) ∨ (o221590.toInt = 0 ∧ (p221573.toInt ≤ 0 ∨ 20 ≤ p221573.toInt ∨ p221579.toInt = 0))) ∧ tr_RRow_usesB2 p221573 p221579 o221590
set_option maxRecDepth 100000 in
set_option maxHeartbeats 4000000 in
theorem cp_221580_Row_usesB (l : Launch) (hl0 : l.stackTraces = false) (D : va_G) (I : FieldType → ClassId) (P221570 : List Nat) (F221571 : Nat → va_E) (q221572 : Nat) (p221573 : Int32) (p221574 : Int32) (p221575 : Int32) (p221576 : Int32) (p221577 : Int32) (p221578 : Int32) (p221579 : Int32) (hmq221572 : q221572 ∈ P221570) (heq221572 : F221571 q221572 = .inr (20, [.int p221573, .int p221574, .int p221575, .int p221576, .int p221577, .int p221578, .int p221579])) (bp221573 : gB p221573 0 32) (bp221574 : gB p221574 0 1999) (bp221577 : gB p221577 0 1999) (bp221578 : gB p221578 0 1) (bp221579 : gB p221579 0 1) : CtA (gV D I) l yX15_usesB cX15_usesB 1 (some FieldType.boolean) 0 0 0 0 [.ref q221572] (va_pl P221570 F221571) (pp_221580_Row_usesB D I P221570 F221571 q221572 p221573 p221574 p221575 p221576 p221577 p221578 p221579) gNA := by
  refine CtA_of hl0 (by decide) (Nat.le_of_ble_eq_true rfl) ?_
  have bp221575 := gB_any p221575
  have bp221576 := gB_any p221576
  refine G_aload_n 0 dr_cX15_usesB_0 rfl ?_
  refine Gp_get 0 hmq221572 heq221572 dr_cX15_usesB_1 (gk_X15 D I) (Nat.le_of_ble_eq_true rfl) wr_9_175 rfl ?_
  refine G_if_le 27 dr_cX15_usesB_4 (by decide +kernel) (fun hc221581 => ?_) (fun hc221581 => ?_)
  · have r221582 : p221573.toInt ≤ 0 := gj_le hc221581 (show Int32.toInt 0 = 0 by decide)
    have bp221573' : gB p221573 0 0 := ⟨by omega, by omega⟩
    refine G_iconst 0 dr_cX15_usesB_27 (by decide +kernel) ?_
    exact G_zretA FieldType.boolean dr_cX15_usesB_28 rfl rfl (Nat.le_of_ble_eq_true rfl) (Nat.le_of_ble_eq_true rfl) ⟨0, rfl, rfl, (Nat.le_of_ble_eq_true rfl), (Nat.le_of_ble_eq_true rfl), (gB_w (gBl (show Int32.toInt 0 = 0 by decide)) (by decide) (by decide)), (by have qa0 : Int32.toInt 0 = 0 := (by decide); omega), (fun R c1 c2 c3 c4 => c1 r221582)⟩
  · have r221583 : 0 < p221573.toInt := gj_nle hc221581 (show Int32.toInt 0 = 0 by decide)
    have bp221573' : gB p221573 1 32 := ⟨by omega, by omega⟩
    refine G_aload_n 0 dr_cX15_usesB_7 rfl ?_
    refine Gp_get 0 hmq221572 heq221572 dr_cX15_usesB_8 (gk_X15 D I) (Nat.le_of_ble_eq_true rfl) wr_9_175 rfl ?_
    refine G_bipush 20 dr_cX15_usesB_11 (by decide +kernel) ?_
    refine G_icmp_ge 27 dr_cX15_usesB_13 (by decide +kernel) (fun hc221584 => ?_) (fun hc221584 => ?_)
    · have r221585 : 20 ≤ p221573.toInt := gj_leL hc221584 (show Int32.toInt 20 = 20 by decide)
      have bp221573'' : gB p221573 20 32 := ⟨by omega, by omega⟩
      refine G_iconst 0 dr_cX15_usesB_27 (by decide +kernel) ?_
      exact G_zretA FieldType.boolean dr_cX15_usesB_28 rfl rfl (Nat.le_of_ble_eq_true rfl) (Nat.le_of_ble_eq_true rfl) ⟨0, rfl, rfl, (Nat.le_of_ble_eq_true rfl), (Nat.le_of_ble_eq_true rfl), (gB_w (gBl (show Int32.toInt 0 = 0 by decide)) (by decide) (by decide)), (by have qa0 : Int32.toInt 0 = 0 := (by decide); omega), (fun R c1 c2 c3 c4 => c2 r221583 r221585)⟩
    · have r221586 : p221573.toInt < 20 := gj_nleL hc221584 (show Int32.toInt 20 = 20 by decide)
      have bp221573'' : gB p221573 1 19 := ⟨by omega, by omega⟩
      refine G_aload_n 0 dr_cX15_usesB_16 rfl ?_
      refine Gp_get 6 hmq221572 heq221572 dr_cX15_usesB_17 (gk_X15 D I) (Nat.le_of_ble_eq_true rfl) wr_9_199 rfl ?_
      refine G_if_eq 27 dr_cX15_usesB_20 (by decide +kernel) (fun hc221587 => ?_) (fun hc221587 => ?_)
      · have r221588 : p221579.toInt = 0 := gj_eq hc221587 (show Int32.toInt 0 = 0 by decide)
        have bp221579' : gB p221579 0 0 := ⟨by omega, by omega⟩
        refine G_iconst 0 dr_cX15_usesB_27 (by decide +kernel) ?_
        exact G_zretA FieldType.boolean dr_cX15_usesB_28 rfl rfl (Nat.le_of_ble_eq_true rfl) (Nat.le_of_ble_eq_true rfl) ⟨0, rfl, rfl, (Nat.le_of_ble_eq_true rfl), (Nat.le_of_ble_eq_true rfl), (gB_w (gBl (show Int32.toInt 0 = 0 by decide)) (by decide) (by decide)), (by have qa0 : Int32.toInt 0 = 0 := (by decide); omega), (fun R c1 c2 c3 c4 => c3 r221583 r221586 r221588)⟩
      · have r221589 : p221579.toInt ≠ 0 := gj_neq hc221587 (show Int32.toInt 0 = 0 by decide)
        have bp221579' : gB p221579 1 1 := ⟨by omega, by omega⟩
        refine G_iconst 1 dr_cX15_usesB_23 (by decide +kernel) ?_
        refine G_goto 28 dr_cX15_usesB_24 (by decide +kernel) ?_
        exact G_zretA FieldType.boolean dr_cX15_usesB_28 rfl rfl (Nat.le_of_ble_eq_true rfl) (Nat.le_of_ble_eq_true rfl) ⟨1, rfl, rfl, (Nat.le_of_ble_eq_true rfl), (Nat.le_of_ble_eq_true rfl), (gB_w (gBl (show Int32.toInt 1 = 1 by decide)) (by decide) (by decide)), (by have qa0 : Int32.toInt 1 = 1 := (by decide); omega), (fun R c1 c2 c3 c4 => c4 r221583 r221586 r221589)⟩
/- tr_RRow_sets2: result -/
def tr_RRow_sets2 (a0_op : Int32) (o1 : Int32) : Prop := ∀ R : (Int32) → Prop,
  (21 < a0_op.toInt → R (0 : Int32)) →
  (a0_op.toInt ≤ 21 → R (1 : Int32)) →
  R o1
abbrev ky_221601_Row_sets : gKey := (cX15_sets, 1, "SpillForgeModel$Row", (some FieldType.boolean), [], "sets", fun _ _ => True)
def pp_221601_Row_sets (D : va_G) (I : FieldType → ClassId) (P221591 : List Nat) (F221592 : Nat → va_E) (q221593 : Nat) (p221594 : Int32) (p221595 : Int32) (p221596 : Int32) (p221597 : Int32) (p221598 : Int32) (p221599 : Int32) (p221600 : Int32) : Option Value → va_W → Nat → Nat → Prop := fun r w dc ds => ∃ (o221605 : Int32), r = some (.int o221605) ∧ w = va_pl P221591 F221592 ∧ dc ≤ 0 ∧ ds ≤ 0 ∧ gB o221605 0 1 ∧ ((o221605.toInt = 1 ∧ p221594.toInt ≤ 21) ∨ (o221605.toInt = 0 ∧ 21 < p221594.toInt)) ∧ tr_RRow_sets2 p221594 o221605
set_option maxRecDepth 100000 in
set_option maxHeartbeats 4000000 in
theorem cp_221601_Row_sets (l : Launch) (hl0 : l.stackTraces = false) (D : va_G) (I : FieldType → ClassId) (P221591 : List Nat) (F221592 : Nat → va_E) (q221593 : Nat) (p221594 : Int32) (p221595 : Int32) (p221596 : Int32) (p221597 : Int32) (p221598 : Int32) (p221599 : Int32) (p221600 : Int32) (hmq221593 : q221593 ∈ P221591) (heq221593 : F221592 q221593 = .inr (20, [.int p221594, .int p221595, .int p221596, .int p221597, .int p221598, .int p221599, .int p221600])) (bp221594 : gB p221594 0 32) (bp221595 : gB p221595 0 1999) (bp221598 : gB p221598 0 1999) (bp221599 : gB p221599 0 1) (bp221600 : gB p221600 0 1) : CtA (gV D I) l yX15_sets cX15_sets 1 (some FieldType.boolean) 0 0 0 0 [.ref q221593] (va_pl P221591 F221592) (pp_221601_Row_sets D I P221591 F221592 q221593 p221594 p221595 p221596 p221597 p221598 p221599 p221600) gNA := by
  refine CtA_of hl0 (by decide) (Nat.le_of_ble_eq_true rfl) ?_
  have bp221596 := gB_any p221596
  have bp221597 := gB_any p221597
  refine G_aload_n 0 dr_cX15_sets_0 rfl ?_
  refine Gp_get 0 hmq221593 heq221593 dr_cX15_sets_1 (gk_X15 D I) (Nat.le_of_ble_eq_true rfl) wr_9_175 rfl ?_
  refine G_bipush 21 dr_cX15_sets_4 (by decide +kernel) ?_
  refine G_icmp_gt 13 dr_cX15_sets_6 (by decide +kernel) (fun hc221602 => ?_) (fun hc221602 => ?_)
  · have r221603 : 21 < p221594.toInt := gj_ltL hc221602 (show Int32.toInt 21 = 21 by decide)
    have bp221594' : gB p221594 22 32 := ⟨by omega, by omega⟩
    refine G_iconst 0 dr_cX15_sets_13 (by decide +kernel) ?_
    exact G_zretA FieldType.boolean dr_cX15_sets_14 rfl rfl (Nat.le_of_ble_eq_true rfl) (Nat.le_of_ble_eq_true rfl) ⟨0, rfl, rfl, (Nat.le_of_ble_eq_true rfl), (Nat.le_of_ble_eq_true rfl), (gB_w (gBl (show Int32.toInt 0 = 0 by decide)) (by decide) (by decide)), (by have qa0 : Int32.toInt 0 = 0 := (by decide); omega), (fun R c1 c2 => c1 r221603)⟩
  · have r221604 : p221594.toInt ≤ 21 := gj_nltL hc221602 (show Int32.toInt 21 = 21 by decide)
    have bp221594' : gB p221594 0 21 := ⟨by omega, by omega⟩
    refine G_iconst 1 dr_cX15_sets_9 (by decide +kernel) ?_
    refine G_goto 14 dr_cX15_sets_10 (by decide +kernel) ?_
    exact G_zretA FieldType.boolean dr_cX15_sets_14 rfl rfl (Nat.le_of_ble_eq_true rfl) (Nat.le_of_ble_eq_true rfl) ⟨1, rfl, rfl, (Nat.le_of_ble_eq_true rfl), (Nat.le_of_ble_eq_true rfl), (gB_w (gBl (show Int32.toInt 1 = 1 by decide)) (by decide) (by decide)), (by have qa0 : Int32.toInt 1 = 1 := (by decide); omega), (fun R c1 c2 => c2 r221604)⟩
/- tr_RModel_setOf2: result -/
def tr_RModel_setOf2 (a1 : Int32) (a0_op : Int32) (a0_t : Int32) (a0_slot : Int32) (o1 : Int32) : Prop := ∀ R : (Int32) → Prop,
  (∀ (x1 : Int32), a1.toInt = 0 → gB x1 0 1 → tr_RRow_sets2 a0_op x1 → x1.toInt = 0 → R (-1 : Int32)) →
  (∀ (x1 : Int32), a1.toInt = 0 → gB x1 0 1 → tr_RRow_sets2 a0_op x1 → x1.toInt ≠ 0 → R a0_t) →
  (a1.toInt ≠ 0 → a0_op.toInt ≠ 23 → R (-1 : Int32)) →
  (a1.toInt ≠ 0 → a0_op.toInt = 23 → R a0_slot) →
  R o1
abbrev ky_221617_SpillForgeModel_setOf : gKey := (cX17_setOf, 2, "SpillForgeModel", (some FieldType.int), [], "setOf", fun _ _ => True)
def pp_221617_SpillForgeModel_setOf (D : va_G) (I : FieldType → ClassId) (P221606 : List Nat) (F221607 : Nat → va_E) (q221608 : Nat) (p221609 : Int32) (p221610 : Int32) (p221611 : Int32) (p221612 : Int32) (p221613 : Int32) (p221614 : Int32) (p221615 : Int32) (p221616 : Int32) : Option Value → va_W → Nat → Nat → Prop := fun r w dc ds => ∃ (o221635 : Int32), r = some (.int o221635) ∧ w = va_pl P221606 F221607 ∧ dc ≤ 0 ∧ ds ≤ 0 ∧ gB o221635 (-1) 1999 ∧ ((p221609.toInt = 0 ∧ p221610.toInt ≤ 21 ∧ o221635.toInt = p221611.toInt) ∨ (p221609.toInt = 0 ∧ 21 < p221610.toInt ∧ o221635.toInt = -1) ∨ (p221609.toInt = 1 ∧ p221610.toInt = 23 ∧ o221635.toInt = p221614.toInt) ∨ (p221609.toInt = 1 ∧ p221610.toInt ≠ 23 ∧ o221635.toInt = -1)) ∧ tr_RModel_setOf2 p221609 p221610 p221611 p221614 o221635
set_option maxRecDepth 100000 in
set_option maxHeartbeats 4000000 in
theorem cp_221617_SpillForgeModel_setOf (l : Launch) (hl0 : l.stackTraces = false) (D : va_G) (I : FieldType → ClassId) (P221606 : List Nat) (F221607 : Nat → va_E) (q221608 : Nat) (p221609 : Int32) (p221610 : Int32) (p221611 : Int32) (p221612 : Int32) (p221613 : Int32) (p221614 : Int32) (p221615 : Int32) (p221616 : Int32) (hmq221608 : q221608 ∈ P221606) (heq221608 : F221607 q221608 = .inr (20, [.int p221610, .int p221611, .int p221612, .int p221613, .int p221614, .int p221615, .int p221616])) (bp221609 : gB p221609 0 1) (bp221610 : gB p221610 0 32) (bp221611 : gB p221611 0 1999) (bp221614 : gB p221614 0 1999) (bp221615 : gB p221615 0 1) (bp221616 : gB p221616 0 1) : CtA (gV D I) l yX17_setOf cX17_setOf 2 (some FieldType.int) 1 20 0 0 [.ref q221608, .int p221609] (va_pl P221606 F221607) (pp_221617_SpillForgeModel_setOf D I P221606 F221607 q221608 p221609 p221610 p221611 p221612 p221613 p221614 p221615 p221616) gNA := by
  refine CtA_of hl0 (by decide) (Nat.le_of_ble_eq_true rfl) ?_
  have bp221612 := gB_any p221612
  have bp221613 := gB_any p221613
  refine G_iload_n 1 dr_cX17_setOf_0 rfl ?_
  refine G_if_eq 24 dr_cX17_setOf_1 (by decide +kernel) (fun hc221618 => ?_) (fun hc221618 => ?_)
  · have r221619 : p221609.toInt = 0 := gj_eq hc221618 (show Int32.toInt 0 = 0 by decide)
    have bp221609' : gB p221609 0 0 := ⟨by omega, by omega⟩
    refine G_aload_n 0 dr_cX17_setOf_24 rfl ?_
    refine Gw_callV (As := []) (gV_ok D I) (cp_221601_Row_sets l hl0 D I P221606 F221607 q221608 p221610 p221611 p221612 p221613 p221614 p221615 p221616 hmq221608 heq221608 bp221610 bp221611 bp221614 bp221615 bp221616) dr_cX17_setOf_25 ⟨wr_10_181, wr_1_39, wr_10_184, by decide, rfl, (Nat.le_of_ble_eq_true rfl), (Nat.le_of_ble_eq_true rfl)⟩ wr_10_182 wr_10_183 hmq221608 heq221608 rfl (show 0 + 0 ≤ 0 by first | omega | decide) (show 0 + 0 ≤ 0 by first | omega | decide) (Nat.le_of_ble_eq_true rfl) (fun r221623 w221624 dc221620 ds221621 hp221622 => ?_) (fun _ _ _ _ _ z => z.elim)
    obtain ⟨o221625, rfl, rfl, hdc, hds, bo221625, x221626, ht221627⟩ := hp221622
    change G _ _ _ _ _ _ _ (.int o221625 :: _) _ _ _
    refine G_widen (cs' := 0) (sl' := 0) (by omega) (by omega) ?_
    refine G_if_eq 38 dr_cX17_setOf_28 (by decide +kernel) (fun hc221628 => ?_) (fun hc221628 => ?_)
    · have r221629 : o221625.toInt = 0 := gj_eq hc221628 (show Int32.toInt 0 = 0 by decide)
      have bo221625' : gB o221625 0 0 := ⟨by omega, by omega⟩
      refine G_iconst (-1) dr_cX17_setOf_38 (by decide +kernel) ?_
      exact G_iretA dr_cX17_setOf_39 rfl (Nat.le_of_ble_eq_true rfl) (Nat.le_of_ble_eq_true rfl) ⟨(-1), rfl, rfl, (Nat.le_of_ble_eq_true rfl), (Nat.le_of_ble_eq_true rfl), (gB_w (gBl (show Int32.toInt (-1) = (-1) by decide)) (by decide) (by decide)), (by have qa0 : Int32.toInt (-1) = (-1) := (by decide); omega), (fun R c1 c2 c3 c4 => c1 o221625 r221619 bo221625 ht221627 r221629)⟩
    · have r221630 : o221625.toInt ≠ 0 := gj_neq hc221628 (show Int32.toInt 0 = 0 by decide)
      have bo221625' : gB o221625 1 1 := ⟨by omega, by omega⟩
      refine G_aload_n 0 dr_cX17_setOf_31 rfl ?_
      refine Gp_get 1 hmq221608 heq221608 dr_cX17_setOf_32 (gk_X15 D I) (Nat.le_of_ble_eq_true rfl) wr_9_182 rfl ?_
      refine G_goto 39 dr_cX17_setOf_35 (by decide +kernel) ?_
      exact G_iretA dr_cX17_setOf_39 rfl (Nat.le_of_ble_eq_true rfl) (Nat.le_of_ble_eq_true rfl) ⟨p221611, rfl, rfl, (Nat.le_of_ble_eq_true rfl), (Nat.le_of_ble_eq_true rfl), (gB_w bp221611 (by decide) (by decide)), (by omega), (fun R c1 c2 c3 c4 => c2 o221625 r221619 bo221625 ht221627 r221630)⟩
  · have r221631 : p221609.toInt ≠ 0 := gj_neq hc221618 (show Int32.toInt 0 = 0 by decide)
    have bp221609' : gB p221609 1 1 := ⟨by omega, by omega⟩
    refine G_aload_n 0 dr_cX17_setOf_4 rfl ?_
    refine Gp_get 0 hmq221608 heq221608 dr_cX17_setOf_5 (gk_X15 D I) (Nat.le_of_ble_eq_true rfl) wr_9_177 rfl ?_
    refine G_bipush 23 dr_cX17_setOf_8 (by decide +kernel) ?_
    refine G_icmp_ne 20 dr_cX17_setOf_10 (by decide +kernel) (fun hc221632 => ?_) (fun hc221632 => ?_)
    · have r221633 : p221610.toInt ≠ 23 := gj_neq hc221632 (show Int32.toInt 23 = 23 by decide)
      refine G_iconst (-1) dr_cX17_setOf_20 (by decide +kernel) ?_
      refine G_goto 39 dr_cX17_setOf_21 (by decide +kernel) ?_
      exact G_iretA dr_cX17_setOf_39 rfl (Nat.le_of_ble_eq_true rfl) (Nat.le_of_ble_eq_true rfl) ⟨(-1), rfl, rfl, (Nat.le_of_ble_eq_true rfl), (Nat.le_of_ble_eq_true rfl), (gB_w (gBl (show Int32.toInt (-1) = (-1) by decide)) (by decide) (by decide)), (by have qa0 : Int32.toInt (-1) = (-1) := (by decide); omega), (fun R c1 c2 c3 c4 => c3 r221631 r221633)⟩
    · have r221634 : p221610.toInt = 23 := gj_eq hc221632 (show Int32.toInt 23 = 23 by decide)
      have bp221610' : gB p221610 23 23 := ⟨by omega, by omega⟩
      refine G_aload_n 0 dr_cX17_setOf_13 rfl ?_
      refine Gp_get 4 hmq221608 heq221608 dr_cX17_setOf_14 (gk_X15 D I) (Nat.le_of_ble_eq_true rfl) wr_9_193 rfl ?_
      refine G_goto 39 dr_cX17_setOf_17 (by decide +kernel) ?_
      exact G_iretA dr_cX17_setOf_39 rfl (Nat.le_of_ble_eq_true rfl) (Nat.le_of_ble_eq_true rfl) ⟨p221614, rfl, rfl, (Nat.le_of_ble_eq_true rfl), (Nat.le_of_ble_eq_true rfl), (gB_w bp221614 (by decide) (by decide)), (by omega), (fun R c1 c2 c3 c4 => c4 r221631 r221634)⟩
/- tr_RModel_back2: F -/
def tr_RModel_back2 (D : va_G) (I : FieldType → ClassId) (γ el : Nat → Nat → Nat) (P : List Nat) (F : Nat → va_E) (q0 : Nat) (q1 : Nat) (a2 : Int32) (o1 : Nat → va_E) : Prop := ∀ R : (Nat → va_E) → Prop,
  (∀ (x1 : Int32) (x2 : Int32) (x3 : Int32) (x4 : Int32) (x5 : Int32) (x6 : Int32) (x7 : Int32) (x8 : Int32), fI (F q1) 0 = x1 → fI (F q1) 1 = x2 → fI (F q1) 4 = x3 → gB x4 (-1) 1999 → tr_RModel_setOf2 a2 x1 x2 x3 x4 → x4.toInt < 0 → a2.toInt = 0 → fI (F q1) 5 = x5 → gB x6 0 1 → tr_RRow_usesA2 x1 x5 x6 → x6.toInt = 0 → fI (F q1) 6 = x7 → gB x8 0 1 → tr_RRow_usesB2 x1 x7 x8 → x8.toInt = 0 → R F) →
  (∀ (x1 : Int32) (x2 : Int32) (x3 : Int32) (x4 : Int32) (x5 : Int32) (x6 : Int32) (x7 : Int32) (x8 : Int32) (x9 : Int32) (x10 : Nat → Int64) (x11 : Nat → Int64) (x12 : Nat → va_E), fI (F q1) 0 = x1 → fI (F q1) 1 = x2 → fI (F q1) 4 = x3 → gB x4 (-1) 1999 → tr_RModel_setOf2 a2 x1 x2 x3 x4 → x4.toInt < 0 → a2.toInt = 0 → fI (F q1) 5 = x5 → gB x6 0 1 → tr_RRow_usesA2 x1 x5 x6 → x6.toInt = 0 → fI (F q1) 6 = x7 → gB x8 0 1 → tr_RRow_usesB2 x1 x7 x8 → x8.toInt ≠ 0 → fR (F q0) 2 = (γ 9 2) → fI (F q1) 3 = x9 → F (γ 9 2) = .inl (I .long, 32, .inr (.inl x10)) → tr_RModel_set2 x9 x10 x11 → rFr [(γ 9 2)] P F x12 → x12 (γ 9 2) = .inl (I .long, 32, .inr (.inl x11)) → RS D I P x12 γ el → R x12) →
  (∀ (x1 : Int32) (x2 : Int32) (x3 : Int32) (x4 : Int32) (x5 : Int32) (x6 : Int32) (x7 : Int32) (x8 : Nat → Int64) (x9 : Nat → Int64) (x10 : Nat → va_E) (x11 : Int32) (x12 : Int32), fI (F q1) 0 = x1 → fI (F q1) 1 = x2 → fI (F q1) 4 = x3 → gB x4 (-1) 1999 → tr_RModel_setOf2 a2 x1 x2 x3 x4 → x4.toInt < 0 → a2.toInt = 0 → fI (F q1) 5 = x5 → gB x6 0 1 → tr_RRow_usesA2 x1 x5 x6 → x6.toInt ≠ 0 → fR (F q0) 2 = (γ 9 2) → fI (F q1) 2 = x7 → F (γ 9 2) = .inl (I .long, 32, .inr (.inl x8)) → tr_RModel_set2 x7 x8 x9 → rFr [(γ 9 2)] P F x10 → x10 (γ 9 2) = .inl (I .long, 32, .inr (.inl x9)) → RS D I P x10 γ el → fI (x10 q1) 0 = x1 → fI (x10 q1) 6 = x11 → gB x12 0 1 → tr_RRow_usesB2 x1 x11 x12 → x12.toInt = 0 → R x10) →
  (∀ (x1 : Int32) (x2 : Int32) (x3 : Int32) (x4 : Int32) (x5 : Int32) (x6 : Int32) (x7 : Int32) (x8 : Nat → Int64) (x9 : Nat → Int64) (x10 : Nat → va_E) (x11 : Int32) (x12 : Int32) (x13 : Int32) (x14 : Nat → Int64) (x15 : Nat → va_E), fI (F q1) 0 = x1 → fI (F q1) 1 = x2 → fI (F q1) 4 = x3 → gB x4 (-1) 1999 → tr_RModel_setOf2 a2 x1 x2 x3 x4 → x4.toInt < 0 → a2.toInt = 0 → fI (F q1) 5 = x5 → gB x6 0 1 → tr_RRow_usesA2 x1 x5 x6 → x6.toInt ≠ 0 → fR (F q0) 2 = (γ 9 2) → fI (F q1) 2 = x7 → F (γ 9 2) = .inl (I .long, 32, .inr (.inl x8)) → tr_RModel_set2 x7 x8 x9 → rFr [(γ 9 2)] P F x10 → x10 (γ 9 2) = .inl (I .long, 32, .inr (.inl x9)) → RS D I P x10 γ el → fI (x10 q1) 0 = x1 → fI (x10 q1) 6 = x11 → gB x12 0 1 → tr_RRow_usesB2 x1 x11 x12 → x12.toInt ≠ 0 → fR (x10 q0) 2 = (γ 9 2) → fI (x10 q1) 3 = x13 → x10 (γ 9 2) = .inl (I .long, 32, .inr (.inl x9)) → tr_RModel_set2 x13 x9 x14 → rFr [(γ 9 2)] P x10 x15 → x15 (γ 9 2) = .inl (I .long, 32, .inr (.inl x14)) → RS D I P x15 γ el → R x15) →
  (∀ (x1 : Int32) (x2 : Int32) (x3 : Int32) (x4 : Int32), fI (F q1) 0 = x1 → fI (F q1) 1 = x2 → fI (F q1) 4 = x3 → gB x4 (-1) 1999 → tr_RModel_setOf2 a2 x1 x2 x3 x4 → x4.toInt < 0 → a2.toInt ≠ 0 → x1.toInt ≠ 21 → R F) →
  (∀ (x1 : Int32) (x2 : Int32) (x3 : Int32) (x4 : Int32) (x5 : Nat → Int64) (x6 : Nat → Int64) (x7 : Nat → va_E), fI (F q1) 0 = x1 → fI (F q1) 1 = x2 → fI (F q1) 4 = x3 → gB x4 (-1) 1999 → tr_RModel_setOf2 a2 x1 x2 x3 x4 → x4.toInt < 0 → a2.toInt ≠ 0 → x1.toInt = 21 → fR (F q0) 2 = (γ 9 2) → F (γ 9 2) = .inl (I .long, 32, .inr (.inl x5)) → tr_RModel_set2 x3 x5 x6 → rFr [(γ 9 2)] P F x7 → x7 (γ 9 2) = .inl (I .long, 32, .inr (.inl x6)) → RS D I P x7 γ el → R x7) →
  (∀ (x1 : Int32) (x2 : Int32) (x3 : Int32) (x4 : Int32) (x5 : Nat → Int64) (x6 : Nat → Int64) (x7 : Nat → va_E) (x8 : Int32) (x9 : Int32) (x10 : Int32) (x11 : Int32), fI (F q1) 0 = x1 → fI (F q1) 1 = x2 → fI (F q1) 4 = x3 → gB x4 (-1) 1999 → tr_RModel_setOf2 a2 x1 x2 x3 x4 → 0 ≤ x4.toInt → fR (F q0) 2 = (γ 9 2) → F (γ 9 2) = .inl (I .long, 32, .inr (.inl x5)) → tr_RModel_clear2 x4 x5 x6 → rFr [(γ 9 2)] P F x7 → x7 (γ 9 2) = .inl (I .long, 32, .inr (.inl x6)) → RS D I P x7 γ el → a2.toInt = 0 → fI (x7 q1) 0 = x1 → fI (x7 q1) 5 = x8 → gB x9 0 1 → tr_RRow_usesA2 x1 x8 x9 → x9.toInt = 0 → fI (x7 q1) 6 = x10 → gB x11 0 1 → tr_RRow_usesB2 x1 x10 x11 → x11.toInt = 0 → R x7) →
  (∀ (x1 : Int32) (x2 : Int32) (x3 : Int32) (x4 : Int32) (x5 : Nat → Int64) (x6 : Nat → Int64) (x7 : Nat → va_E) (x8 : Int32) (x9 : Int32) (x10 : Int32) (x11 : Int32) (x12 : Int32) (x13 : Nat → Int64) (x14 : Nat → va_E), fI (F q1) 0 = x1 → fI (F q1) 1 = x2 → fI (F q1) 4 = x3 → gB x4 (-1) 1999 → tr_RModel_setOf2 a2 x1 x2 x3 x4 → 0 ≤ x4.toInt → fR (F q0) 2 = (γ 9 2) → F (γ 9 2) = .inl (I .long, 32, .inr (.inl x5)) → tr_RModel_clear2 x4 x5 x6 → rFr [(γ 9 2)] P F x7 → x7 (γ 9 2) = .inl (I .long, 32, .inr (.inl x6)) → RS D I P x7 γ el → a2.toInt = 0 → fI (x7 q1) 0 = x1 → fI (x7 q1) 5 = x8 → gB x9 0 1 → tr_RRow_usesA2 x1 x8 x9 → x9.toInt = 0 → fI (x7 q1) 6 = x10 → gB x11 0 1 → tr_RRow_usesB2 x1 x10 x11 → x11.toInt ≠ 0 → fR (x7 q0) 2 = (γ 9 2) → fI (x7 q1) 3 = x12 → x7 (γ 9 2) = .inl (I .long, 32, .inr (.inl x6)) → tr_RModel_set2 x12 x6 x13 → rFr [(γ 9 2)] P x7 x14 → x14 (γ 9 2) = .inl (I .long, 32, .inr (.inl x13)) → RS D I P x14 γ el → R x14) →
  (∀ (x1 : Int32) (x2 : Int32) (x3 : Int32) (x4 : Int32) (x5 : Nat → Int64) (x6 : Nat → Int64) (x7 : Nat → va_E) (x8 : Int32) (x9 : Int32) (x10 : Int32) (x11 : Nat → Int64) (x12 : Nat → va_E) (x13 : Int32) (x14 : Int32), fI (F q1) 0 = x1 → fI (F q1) 1 = x2 → fI (F q1) 4 = x3 → gB x4 (-1) 1999 → tr_RModel_setOf2 a2 x1 x2 x3 x4 → 0 ≤ x4.toInt → fR (F q0) 2 = (γ 9 2) → F (γ 9 2) = .inl (I .long, 32, .inr (.inl x5)) → tr_RModel_clear2 x4 x5 x6 → rFr [(γ 9 2)] P F x7 → x7 (γ 9 2) = .inl (I .long, 32, .inr (.inl x6)) → RS D I P x7 γ el → a2.toInt = 0 → fI (x7 q1) 0 = x1 → fI (x7 q1) 5 = x8 → gB x9 0 1 → tr_RRow_usesA2 x1 x8 x9 → x9.toInt ≠ 0 → fR (x7 q0) 2 = (γ 9 2) → fI (x7 q1) 2 = x10 → x7 (γ 9 2) = .inl (I .long, 32, .inr (.inl x6)) → tr_RModel_set2 x10 x6 x11 → rFr [(γ 9 2)] P x7 x12 → x12 (γ 9 2) = .inl (I .long, 32, .inr (.inl x11)) → RS D I P x12 γ el → fI (x12 q1) 0 = x1 → fI (x12 q1) 6 = x13 → gB x14 0 1 → tr_RRow_usesB2 x1 x13 x14 → x14.toInt = 0 → R x12) →
  (∀ (x1 : Int32) (x2 : Int32) (x3 : Int32) (x4 : Int32) (x5 : Nat → Int64) (x6 : Nat → Int64) (x7 : Nat → va_E) (x8 : Int32) (x9 : Int32) (x10 : Int32) (x11 : Nat → Int64) (x12 : Nat → va_E) (x13 : Int32) (x14 : Int32) (x15 : Int32) (x16 : Nat → Int64) (x17 : Nat → va_E), fI (F q1) 0 = x1 → fI (F q1) 1 = x2 → fI (F q1) 4 = x3 → gB x4 (-1) 1999 → tr_RModel_setOf2 a2 x1 x2 x3 x4 → 0 ≤ x4.toInt → fR (F q0) 2 = (γ 9 2) → F (γ 9 2) = .inl (I .long, 32, .inr (.inl x5)) → tr_RModel_clear2 x4 x5 x6 → rFr [(γ 9 2)] P F x7 → x7 (γ 9 2) = .inl (I .long, 32, .inr (.inl x6)) → RS D I P x7 γ el → a2.toInt = 0 → fI (x7 q1) 0 = x1 → fI (x7 q1) 5 = x8 → gB x9 0 1 → tr_RRow_usesA2 x1 x8 x9 → x9.toInt ≠ 0 → fR (x7 q0) 2 = (γ 9 2) → fI (x7 q1) 2 = x10 → x7 (γ 9 2) = .inl (I .long, 32, .inr (.inl x6)) → tr_RModel_set2 x10 x6 x11 → rFr [(γ 9 2)] P x7 x12 → x12 (γ 9 2) = .inl (I .long, 32, .inr (.inl x11)) → RS D I P x12 γ el → fI (x12 q1) 0 = x1 → fI (x12 q1) 6 = x13 → gB x14 0 1 → tr_RRow_usesB2 x1 x13 x14 → x14.toInt ≠ 0 → fR (x12 q0) 2 = (γ 9 2) → fI (x12 q1) 3 = x15 → x12 (γ 9 2) = .inl (I .long, 32, .inr (.inl x11)) → tr_RModel_set2 x15 x11 x16 → rFr [(γ 9 2)] P x12 x17 → x17 (γ 9 2) = .inl (I .long, 32, .inr (.inl x16)) → RS D I P x17 γ el → R x17) →
  (∀ (x1 : Int32) (x2 : Int32) (x3 : Int32) (x4 : Int32) (x5 : Nat → Int64) (x6 : Nat → Int64) (x7 : Nat → va_E), fI (F q1) 0 = x1 → fI (F q1) 1 = x2 → fI (F q1) 4 = x3 → gB x4 (-1) 1999 → tr_RModel_setOf2 a2 x1 x2 x3 x4 → 0 ≤ x4.toInt → fR (F q0) 2 = (γ 9 2) → F (γ 9 2) = .inl (I .long, 32, .inr (.inl x5)) → tr_RModel_clear2 x4 x5 x6 → rFr [(γ 9 2)] P F x7 → x7 (γ 9 2) = .inl (I .long, 32, .inr (.inl x6)) → RS D I P x7 γ el → a2.toInt ≠ 0 → fI (x7 q1) 0 = x1 → x1.toInt ≠ 21 → R x7) →
  (∀ (x1 : Int32) (x2 : Int32) (x3 : Int32) (x4 : Int32) (x5 : Nat → Int64) (x6 : Nat → Int64) (x7 : Nat → va_E) (x8 : Nat → Int64) (x9 : Nat → va_E), fI (F q1) 0 = x1 → fI (F q1) 1 = x2 → fI (F q1) 4 = x3 → gB x4 (-1) 1999 → tr_RModel_setOf2 a2 x1 x2 x3 x4 → 0 ≤ x4.toInt → fR (F q0) 2 = (γ 9 2) → F (γ 9 2) = .inl (I .long, 32, .inr (.inl x5)) → tr_RModel_clear2 x4 x5 x6 → rFr [(γ 9 2)] P F x7 → x7 (γ 9 2) = .inl (I .long, 32, .inr (.inl x6)) → RS D I P x7 γ el → a2.toInt ≠ 0 → fI (x7 q1) 0 = x1 → x1.toInt = 21 → fR (x7 q0) 2 = (γ 9 2) → fI (x7 q1) 4 = x3 → x7 (γ 9 2) = .inl (I .long, 32, .inr (.inl x6)) → tr_RModel_set2 x3 x6 x8 → rFr [(γ 9 2)] P x7 x9 → x9 (γ 9 2) = .inl (I .long, 32, .inr (.inl x8)) → RS D I P x9 γ el → R x9) →
  R o1
abbrev ky_221641_SpillForgeModel_back : gKey := (cX17_back, 4, "SpillForgeModel", none, [], "back", fun _ _ => True)
def pt_221641_SpillForgeModel_back (D : va_G) (I : FieldType → ClassId) (γ el : Nat → Nat → Nat) (P221636 : List Nat) (F221637 : Nat → va_E) (q221638 : Nat) (q221639 : Nat) (p221640 : Int32) : Option Value → va_W → Nat → Nat → Prop := fun r w dc ds => ∃ (F222004 : Nat → va_E), r = none ∧ w = va_pl P221636 F222004 ∧ RS D I P221636 F222004 γ el ∧ rStr γ [] F221637 F222004 ∧ dc ≤ 0 ∧ ds ≤ 0 ∧ (∀ k : Nat, rbt (cL (F222004 (γ 9 2))) k = bkS (F221637 q221639) (decide (p221640.toInt = 1)) (rbt (cL (F221637 (γ 9 2)))) k) ∧ rLv γ F221637 F222004 ∧ (F222004 q221638 = F221637 q221638) ∧ tr_RModel_back2 D I γ el P221636 F221637 q221638 q221639 p221640 F222004
set_option maxRecDepth 100000 in
set_option maxHeartbeats 4000000 in
theorem ct_221641_SpillForgeModel_back (l : Launch) (hl0 : l.stackTraces = false) (D : va_G) (I : FieldType → ClassId) (γ el : Nat → Nat → Nat) (P221636 : List Nat) (F221637 : Nat → va_E) (q221638 : Nat) (q221639 : Nat) (p221640 : Int32) (hT : RS D I P221636 F221637 γ el) (htq221638 : rKd γ q221638 10) (htq221639 : rKd γ q221639 1) (bp221640 : gB p221640 0 1) : CtA (gV D I) l yX17_back cX17_back 4 none 2 41 0 0 [.ref q221638, .ref q221639, .int p221640] (va_pl P221636 F221637) (pt_221641_SpillForgeModel_back D I γ el P221636 F221637 q221638 q221639 p221640) gNA := by
  refine CtA_of hl0 (by decide) (Nat.le_of_ble_eq_true rfl) ?_
  have hm221642 : q221638 ∈ P221636 := RS_m hT htq221638 (by decide)
  obtain ⟨q221644, q221645, p221646, p221647, p221648, p221649, p221650, p221651, p221652, p221653, p221654, p221655, p221656, p221657, p221658, p221659, p221660, he221643, hB221687, ht221661, ht221662, ht221663, ht221664, ht221665, ht221666, ht221667, ht221668, ht221669, ht221670, ht221671, ht221672, ht221673, ht221674, ht221675, ht221676, ht221677, ht221678, ht221679, ht221680, ht221681, ht221682, ht221683, ht221684, hB221688⟩ := show rk_10 γ (F221637 q221638) from RS_o hT htq221638
  have hm221689 : (γ 9 2) ∈ P221636 := RS_m hT ht221665 (by decide)
  obtain ⟨f221691, he221690, wf221691⟩ := show rk_35 I (F221637 (γ 9 2)) from RS_o hT ht221665
  have hm221692 : q221639 ∈ P221636 := RS_m hT htq221639 (by decide)
  obtain ⟨p221694, p221695, p221696, p221697, p221698, p221699, p221700, he221693, bp221694, bp221695, bp221698, bp221699, bp221700, r221701, r221702, r221703, r221704, r221705⟩ := show rk_1 γ q221639 (F221637 q221639) from RS_o hT htq221639
  have bp221696 := gB_any p221696
  have bp221697 := gB_any p221697
  refine G_aload_n 1 dr_cX17_back_0 rfl ?_
  refine G_iload_n 2 dr_cX17_back_1 rfl ?_
  have fq221706 : fI (F221637 q221639) 0 = p221694 := by rw [he221693]; rfl
  have fq221707 : fI (F221637 q221639) 1 = p221695 := by rw [he221693]; rfl
  have fq221708 : fI (F221637 q221639) 4 = p221698 := by rw [he221693]; rfl
  refine Gw_callS (As := [.ref q221639, .int p221640]) (gV_ok D I) (cp_221617_SpillForgeModel_setOf l hl0 D I P221636 F221637 q221639 p221640 p221694 p221695 p221696 p221697 p221698 p221699 p221700 hm221692 he221693 bp221640 bp221694 bp221695 bp221698 bp221699 bp221700) dr_cX17_back_2 ⟨wr_10_178, wr_1_14, wr_10_180, by decide, rfl, (Nat.le_of_ble_eq_true rfl), (Nat.le_of_ble_eq_true rfl)⟩ wr_10_179 (show 0 + 0 ≤ 0 by first | omega | decide) (show 0 + 0 ≤ 0 by first | omega | decide) (Nat.le_of_ble_eq_true rfl) (fun r221712 w221713 dc221709 ds221710 hp221711 => ?_) (fun _ _ _ _ _ z => z.elim)
  obtain ⟨o221714, rfl, rfl, hdc, hds, bo221714, x221715, ht221716⟩ := hp221711
  change G _ _ _ _ _ _ _ (.int o221714 :: _) _ _ _
  refine G_widen (cs' := 0) (sl' := 0) (by omega) (by omega) ?_
  refine G_istore_n (L' := [(3, .int o221714), (0, .ref q221638), (1, .ref q221639), (2, .int p221640)]) dr_cX17_back_5 (Nat.le_of_ble_eq_true rfl) rfl ?_
  refine G_iload_n 0 dr_cX17_back_6 rfl ?_
  refine G_if_lt 18 dr_cX17_back_7 (by decide +kernel) (fun hc221717 => ?_) (fun hc221717 => ?_)
  · have r221718 : o221714.toInt < 0 := gj_lt hc221717 (show Int32.toInt 0 = 0 by decide)
    have bo221714' : gB o221714 (-1) (-1) := ⟨by omega, by omega⟩
    refine G_iload_n 3 dr_cX17_back_18 rfl ?_
    refine G_if_eq 43 dr_cX17_back_19 (by decide +kernel) (fun hc221719 => ?_) (fun hc221719 => ?_)
    · have r221720 : p221640.toInt = 0 := gj_eq hc221719 (show Int32.toInt 0 = 0 by decide)
      have bp221640' : gB p221640 0 0 := ⟨by omega, by omega⟩
      refine G_aload_n 2 dr_cX17_back_43 rfl ?_
      have fq221721 : fI (F221637 q221639) 5 = p221699 := by rw [he221693]; rfl
      refine Gw_callV (As := []) (gV_ok D I) (cp_221556_Row_usesA l hl0 D I P221636 F221637 q221639 p221694 p221695 p221696 p221697 p221698 p221699 p221700 hm221692 he221693 bp221694 bp221695 bp221698 bp221699 bp221700) dr_cX17_back_44 ⟨wr_10_192, wr_1_39, wr_10_195, by decide, rfl, (Nat.le_of_ble_eq_true rfl), (Nat.le_of_ble_eq_true rfl)⟩ wr_10_193 wr_10_194 hm221692 he221693 rfl (show 0 + 0 ≤ 0 by first | omega | decide) (show 0 + 0 ≤ 0 by first | omega | decide) (Nat.le_of_ble_eq_true rfl) (fun r221725 w221726 dc221722 ds221723 hp221724 => ?_) (fun _ _ _ _ _ z => z.elim)
      obtain ⟨o221727, rfl, rfl, hdc, hds, bo221727, x221728, ht221729⟩ := hp221724
      change G _ _ _ _ _ _ _ (.int o221727 :: _) _ _ _
      refine G_widen (cs' := 0) (sl' := 0) (by omega) (by omega) ?_
      refine G_if_eq 61 dr_cX17_back_47 (by decide +kernel) (fun hc221730 => ?_) (fun hc221730 => ?_)
      · have r221731 : o221727.toInt = 0 := gj_eq hc221730 (show Int32.toInt 0 = 0 by decide)
        have bo221727' : gB o221727 0 0 := ⟨by omega, by omega⟩
        refine G_aload_n 2 dr_cX17_back_61 rfl ?_
        have fq221732 : fI (F221637 q221639) 6 = p221700 := by rw [he221693]; rfl
        refine Gw_callV (As := []) (gV_ok D I) (cp_221580_Row_usesB l hl0 D I P221636 F221637 q221639 p221694 p221695 p221696 p221697 p221698 p221699 p221700 hm221692 he221693 bp221694 bp221695 bp221698 bp221699 bp221700) dr_cX17_back_62 ⟨wr_10_196, wr_1_39, wr_10_199, by decide, rfl, (Nat.le_of_ble_eq_true rfl), (Nat.le_of_ble_eq_true rfl)⟩ wr_10_197 wr_10_198 hm221692 he221693 rfl (show 0 + 0 ≤ 0 by first | omega | decide) (show 0 + 0 ≤ 0 by first | omega | decide) (Nat.le_of_ble_eq_true rfl) (fun r221736 w221737 dc221733 ds221734 hp221735 => ?_) (fun _ _ _ _ _ z => z.elim)
        obtain ⟨o221738, rfl, rfl, hdc, hds, bo221738, x221739, ht221740⟩ := hp221735
        change G _ _ _ _ _ _ _ (.int o221738 :: _) _ _ _
        refine G_widen (cs' := 0) (sl' := 0) (by omega) (by omega) ?_
        refine G_if_eq 79 dr_cX17_back_65 (by decide +kernel) (fun hc221741 => ?_) (fun hc221741 => ?_)
        · have r221742 : o221738.toInt = 0 := gj_eq hc221741 (show Int32.toInt 0 = 0 by decide)
          have bo221738' : gB o221738 0 0 := ⟨by omega, by omega⟩
          exact G_vretA dr_cX17_back_79 rfl (Nat.le_of_ble_eq_true rfl) (Nat.le_of_ble_eq_true rfl) ⟨F221637, rfl, rfl, hT, (rStr_rf (γ := γ) (W := []) (F := F221637)), (Nat.le_of_ble_eq_true rfl), (Nat.le_of_ble_eq_true rfl), (fun k => by rw [cL_of he221690, bkS_of he221693, (decide_eq_false (show ¬ (p221640.toInt = 1) by omega))]; exact bk_n false false false (decide_eq_false (show ¬ (p221694.toInt ≤ 21) by omega)) (decide_eq_false (show ¬ (p221694.toInt ≠ 20 ∧ p221694.toInt ≠ 21 ∧ p221694.toInt ≠ 30 ∧ p221699.toInt = 1) by omega)) (decide_eq_false (show ¬ (0 < p221694.toInt ∧ p221694.toInt < 20 ∧ p221700.toInt = 1) by omega)) (by simp)), (rLv_rf (γ := γ) (F := F221637)), rfl, (fun R c1 c2 c3 c4 c5 c6 c7 c8 c9 c10 c11 c12 => c1 p221694 p221695 p221698 o221714 p221699 o221727 p221700 o221738 fq221706 fq221707 fq221708 bo221714 ht221716 r221718 r221720 fq221721 bo221727 ht221729 r221731 fq221732 bo221738 ht221740 r221742)⟩
        · have r221743 : o221738.toInt ≠ 0 := gj_neq hc221741 (show Int32.toInt 0 = 0 by decide)
          have bo221738' : gB o221738 1 1 := ⟨by omega, by omega⟩
          refine G_aload_n 1 dr_cX17_back_68 rfl ?_
          have fq221744 : fR (F221637 q221638) 2 = (γ 9 2) := by rw [he221643]; rfl
          refine Gp_get 2 hm221642 he221643 dr_cX17_back_69 (gk_X17 D I) (Nat.le_of_ble_eq_true rfl) wr_7_76 rfl ?_
          refine G_aload_n 2 dr_cX17_back_72 rfl ?_
          have fq221745 : fI (F221637 q221639) 3 = p221697 := by rw [he221693]; rfl
          refine Gp_get 3 hm221692 he221693 dr_cX17_back_73 (gk_X15 D I) (Nat.le_of_ble_eq_true rfl) wr_9_190 rfl ?_
          refine Gw_callS (As := [.ref (γ 9 2), .int p221697]) (gV_ok D I) (cp_221511_SpillForgeModel_set l hl0 D I P221636 F221637 (γ 9 2) p221697 f221691 hm221689 he221690 ⟨by omega, by omega⟩ wf221691) dr_cX17_back_76 ⟨wr_10_189, wr_1_14, wr_10_191, by decide, rfl, (Nat.le_of_ble_eq_true rfl), (Nat.le_of_ble_eq_true rfl)⟩ wr_10_190 (show 0 + 0 ≤ 0 by first | omega | decide) (show 0 + 0 ≤ 0 by first | omega | decide) (Nat.le_of_ble_eq_true rfl) (fun r221749 w221750 dc221746 ds221747 hp221748 => ?_) (fun _ _ _ _ _ z => z.elim)
          obtain ⟨F221755, f221751, rfl, rfl, hfr221757, he221758, hdc, hds, x221752, x221753, ht221754⟩ := hp221748
          have he221759 : F221755 q221638 = .inr (22, [.ref (γ 9 0), .ref (γ 9 1), .ref (γ 9 2), .ref (γ 9 3), .ref (γ 9 4), .ref (γ 9 5), .ref (γ 9 6), .ref (γ 9 7), .ref (γ 9 8), .int p221646, .int p221647, .int p221648, .int p221649, .int p221650, .int p221651, .ref (γ 9 15), .ref (γ 9 16), .ref (γ 9 17), .ref (γ 9 18), .ref (γ 9 19), .ref (γ 9 20), .ref (γ 9 21), .ref (γ 9 22), .int p221652, .int p221653, .int p221654, .int p221655, .int p221656, .ref q221644, .ref (γ 9 29), .int p221657, .ref (γ 9 31), .int p221658, .int p221659, .int p221660, .ref q221645]) := (hfr221757 q221638 hm221642 (nm_c (rn_oa he221643 he221690) nm_n)).trans he221643
          have he221760 : F221755 q221639 = .inr (20, [.int p221694, .int p221695, .int p221696, .int p221697, .int p221698, .int p221699, .int p221700]) := (hfr221757 q221639 hm221692 (nm_c (rn_oa he221693 he221690) nm_n)).trans he221693
          have hfr221761 : rFr [(γ 9 2)] P221636 F221637 F221755 := rFr_call (rSub_rf (P := P221636)) (rFr_rf (W := []) (P := P221636) (F := F221637)) hfr221757 (fun b hb hn => ⟨nm_n, (nm_c (fun e => hn (e ▸ List.mem_cons_self)) nm_n)⟩)
          change G _ _ _ _ _ _ _ _ _ _ _
          refine G_widen (cs' := 0) (sl' := 0) (by omega) (by omega) ?_
          have hT221762 : RS D I P221636 F221755 γ el := RS_fr hT hfr221761 ht221665 (by decide) ⟨f221751, he221758, x221752⟩
          have hs221763 : rStr γ [] F221637 F221755 := rStr_fr hT (rStr_rf (γ := γ) (W := []) (F := F221637)) hfr221761 ht221665 (by decide)
          have lv221764 : rLv γ F221637 F221755 := rLv_fr hT ht221663 (rLv_rf (γ := γ) (F := F221637)) hfr221761 ht221665 (by decide)
          have kp221765 : F221755 q221638 = F221637 q221638 := hfr221761 q221638 (RS_m hT htq221638 (by decide)) (nm_c (rn_ty htq221638 ht221665 (by decide)) nm_n)
          exact G_vretA dr_cX17_back_79 rfl (Nat.le_of_ble_eq_true rfl) (Nat.le_of_ble_eq_true rfl) ⟨F221755, rfl, rfl, hT221762, hs221763, (Nat.le_of_ble_eq_true rfl), (Nat.le_of_ble_eq_true rfl), (fun k => by rw [cL_of he221758, cL_of he221690, bkS_of he221693, (decide_eq_false (show ¬ (p221640.toInt = 1) by omega))]; exact bk_n false false true (decide_eq_false (show ¬ (p221694.toInt ≤ 21) by omega)) (decide_eq_false (show ¬ (p221694.toInt ≠ 20 ∧ p221694.toInt ≠ 21 ∧ p221694.toInt ≠ 30 ∧ p221699.toInt = 1) by omega)) (decide_eq_true (show (0 < p221694.toInt ∧ p221694.toInt < 20 ∧ p221700.toInt = 1) by omega)) (by rw [x221753 k]; simp)), lv221764, kp221765, (fun R c1 c2 c3 c4 c5 c6 c7 c8 c9 c10 c11 c12 => c2 p221694 p221695 p221698 o221714 p221699 o221727 p221700 o221738 p221697 f221691 f221751 F221755 fq221706 fq221707 fq221708 bo221714 ht221716 r221718 r221720 fq221721 bo221727 ht221729 r221731 fq221732 bo221738 ht221740 r221743 fq221744 fq221745 he221690 ht221754 hfr221761 he221758 hT221762)⟩
      · have r221766 : o221727.toInt ≠ 0 := gj_neq hc221730 (show Int32.toInt 0 = 0 by decide)
        have bo221727' : gB o221727 1 1 := ⟨by omega, by omega⟩
        refine G_aload_n 1 dr_cX17_back_50 rfl ?_
        have fq221767 : fR (F221637 q221638) 2 = (γ 9 2) := by rw [he221643]; rfl
        refine Gp_get 2 hm221642 he221643 dr_cX17_back_51 (gk_X17 D I) (Nat.le_of_ble_eq_true rfl) wr_7_76 rfl ?_
        refine G_aload_n 2 dr_cX17_back_54 rfl ?_
        have fq221768 : fI (F221637 q221639) 2 = p221696 := by rw [he221693]; rfl
        refine Gp_get 2 hm221692 he221693 dr_cX17_back_55 (gk_X15 D I) (Nat.le_of_ble_eq_true rfl) wr_9_186 rfl ?_
        refine Gw_callS (As := [.ref (γ 9 2), .int p221696]) (gV_ok D I) (cp_221511_SpillForgeModel_set l hl0 D I P221636 F221637 (γ 9 2) p221696 f221691 hm221689 he221690 ⟨by omega, by omega⟩ wf221691) dr_cX17_back_58 ⟨wr_10_189, wr_1_14, wr_10_191, by decide, rfl, (Nat.le_of_ble_eq_true rfl), (Nat.le_of_ble_eq_true rfl)⟩ wr_10_190 (show 0 + 0 ≤ 0 by first | omega | decide) (show 0 + 0 ≤ 0 by first | omega | decide) (Nat.le_of_ble_eq_true rfl) (fun r221772 w221773 dc221769 ds221770 hp221771 => ?_) (fun _ _ _ _ _ z => z.elim)
        obtain ⟨F221778, f221774, rfl, rfl, hfr221780, he221781, hdc, hds, x221775, x221776, ht221777⟩ := hp221771
        have he221782 : F221778 q221638 = .inr (22, [.ref (γ 9 0), .ref (γ 9 1), .ref (γ 9 2), .ref (γ 9 3), .ref (γ 9 4), .ref (γ 9 5), .ref (γ 9 6), .ref (γ 9 7), .ref (γ 9 8), .int p221646, .int p221647, .int p221648, .int p221649, .int p221650, .int p221651, .ref (γ 9 15), .ref (γ 9 16), .ref (γ 9 17), .ref (γ 9 18), .ref (γ 9 19), .ref (γ 9 20), .ref (γ 9 21), .ref (γ 9 22), .int p221652, .int p221653, .int p221654, .int p221655, .int p221656, .ref q221644, .ref (γ 9 29), .int p221657, .ref (γ 9 31), .int p221658, .int p221659, .int p221660, .ref q221645]) := (hfr221780 q221638 hm221642 (nm_c (rn_oa he221643 he221690) nm_n)).trans he221643
        have he221783 : F221778 q221639 = .inr (20, [.int p221694, .int p221695, .int p221696, .int p221697, .int p221698, .int p221699, .int p221700]) := (hfr221780 q221639 hm221692 (nm_c (rn_oa he221693 he221690) nm_n)).trans he221693
        have hfr221784 : rFr [(γ 9 2)] P221636 F221637 F221778 := rFr_call (rSub_rf (P := P221636)) (rFr_rf (W := []) (P := P221636) (F := F221637)) hfr221780 (fun b hb hn => ⟨nm_n, (nm_c (fun e => hn (e ▸ List.mem_cons_self)) nm_n)⟩)
        change G _ _ _ _ _ _ _ _ _ _ _
        refine G_widen (cs' := 0) (sl' := 0) (by omega) (by omega) ?_
        have hT221785 : RS D I P221636 F221778 γ el := RS_fr hT hfr221784 ht221665 (by decide) ⟨f221774, he221781, x221775⟩
        have hs221786 : rStr γ [] F221637 F221778 := rStr_fr hT (rStr_rf (γ := γ) (W := []) (F := F221637)) hfr221784 ht221665 (by decide)
        have lv221787 : rLv γ F221637 F221778 := rLv_fr hT ht221663 (rLv_rf (γ := γ) (F := F221637)) hfr221784 ht221665 (by decide)
        have kp221788 : F221778 q221638 = F221637 q221638 := hfr221784 q221638 (RS_m hT htq221638 (by decide)) (nm_c (rn_ty htq221638 ht221665 (by decide)) nm_n)
        refine G_aload_n 2 dr_cX17_back_61 rfl ?_
        have fq221789 : fI (F221778 q221639) 0 = p221694 := by rw [he221783]; rfl
        have fq221790 : fI (F221778 q221639) 6 = p221700 := by rw [he221783]; rfl
        refine Gw_callV (As := []) (gV_ok D I) (cp_221580_Row_usesB l hl0 D I P221636 F221778 q221639 p221694 p221695 p221696 p221697 p221698 p221699 p221700 hm221692 he221783 bp221694 bp221695 bp221698 bp221699 bp221700) dr_cX17_back_62 ⟨wr_10_196, wr_1_39, wr_10_199, by decide, rfl, (Nat.le_of_ble_eq_true rfl), (Nat.le_of_ble_eq_true rfl)⟩ wr_10_197 wr_10_198 hm221692 he221783 rfl (show 0 + 0 ≤ 0 by first | omega | decide) (show 0 + 0 ≤ 0 by first | omega | decide) (Nat.le_of_ble_eq_true rfl) (fun r221794 w221795 dc221791 ds221792 hp221793 => ?_) (fun _ _ _ _ _ z => z.elim)
        obtain ⟨o221796, rfl, rfl, hdc, hds, bo221796, x221797, ht221798⟩ := hp221793
        change G _ _ _ _ _ _ _ (.int o221796 :: _) _ _ _
        refine G_widen (cs' := 0) (sl' := 0) (by omega) (by omega) ?_
        refine G_if_eq 79 dr_cX17_back_65 (by decide +kernel) (fun hc221799 => ?_) (fun hc221799 => ?_)
        · have r221800 : o221796.toInt = 0 := gj_eq hc221799 (show Int32.toInt 0 = 0 by decide)
          have bo221796' : gB o221796 0 0 := ⟨by omega, by omega⟩
          exact G_vretA dr_cX17_back_79 rfl (Nat.le_of_ble_eq_true rfl) (Nat.le_of_ble_eq_true rfl) ⟨F221778, rfl, rfl, hT221785, hs221786, (Nat.le_of_ble_eq_true rfl), (Nat.le_of_ble_eq_true rfl), (fun k => by rw [cL_of he221781, cL_of he221690, bkS_of he221693, (decide_eq_false (show ¬ (p221640.toInt = 1) by omega))]; exact bk_n false true false (decide_eq_false (show ¬ (p221694.toInt ≤ 21) by omega)) (decide_eq_true (show (p221694.toInt ≠ 20 ∧ p221694.toInt ≠ 21 ∧ p221694.toInt ≠ 30 ∧ p221699.toInt = 1) by omega)) (decide_eq_false (show ¬ (0 < p221694.toInt ∧ p221694.toInt < 20 ∧ p221700.toInt = 1) by omega)) (by rw [x221776 k]; simp)), lv221787, kp221788, (fun R c1 c2 c3 c4 c5 c6 c7 c8 c9 c10 c11 c12 => c3 p221694 p221695 p221698 o221714 p221699 o221727 p221696 f221691 f221774 F221778 p221700 o221796 fq221706 fq221707 fq221708 bo221714 ht221716 r221718 r221720 fq221721 bo221727 ht221729 r221766 fq221767 fq221768 he221690 ht221777 hfr221784 he221781 hT221785 fq221789 fq221790 bo221796 ht221798 r221800)⟩
        · have r221801 : o221796.toInt ≠ 0 := gj_neq hc221799 (show Int32.toInt 0 = 0 by decide)
          have bo221796' : gB o221796 1 1 := ⟨by omega, by omega⟩
          refine G_aload_n 1 dr_cX17_back_68 rfl ?_
          have fq221802 : fR (F221778 q221638) 2 = (γ 9 2) := by rw [he221782]; rfl
          refine Gp_get 2 hm221642 he221782 dr_cX17_back_69 (gk_X17 D I) (Nat.le_of_ble_eq_true rfl) wr_7_76 rfl ?_
          refine G_aload_n 2 dr_cX17_back_72 rfl ?_
          have fq221803 : fI (F221778 q221639) 3 = p221697 := by rw [he221783]; rfl
          refine Gp_get 3 hm221692 he221783 dr_cX17_back_73 (gk_X15 D I) (Nat.le_of_ble_eq_true rfl) wr_9_190 rfl ?_
          refine Gw_callS (As := [.ref (γ 9 2), .int p221697]) (gV_ok D I) (cp_221511_SpillForgeModel_set l hl0 D I P221636 F221778 (γ 9 2) p221697 f221774 hm221689 he221781 ⟨by omega, by omega⟩ x221775) dr_cX17_back_76 ⟨wr_10_189, wr_1_14, wr_10_191, by decide, rfl, (Nat.le_of_ble_eq_true rfl), (Nat.le_of_ble_eq_true rfl)⟩ wr_10_190 (show 0 + 0 ≤ 0 by first | omega | decide) (show 0 + 0 ≤ 0 by first | omega | decide) (Nat.le_of_ble_eq_true rfl) (fun r221807 w221808 dc221804 ds221805 hp221806 => ?_) (fun _ _ _ _ _ z => z.elim)
          obtain ⟨F221813, f221809, rfl, rfl, hfr221815, he221816, hdc, hds, x221810, x221811, ht221812⟩ := hp221806
          have he221817 : F221813 q221638 = .inr (22, [.ref (γ 9 0), .ref (γ 9 1), .ref (γ 9 2), .ref (γ 9 3), .ref (γ 9 4), .ref (γ 9 5), .ref (γ 9 6), .ref (γ 9 7), .ref (γ 9 8), .int p221646, .int p221647, .int p221648, .int p221649, .int p221650, .int p221651, .ref (γ 9 15), .ref (γ 9 16), .ref (γ 9 17), .ref (γ 9 18), .ref (γ 9 19), .ref (γ 9 20), .ref (γ 9 21), .ref (γ 9 22), .int p221652, .int p221653, .int p221654, .int p221655, .int p221656, .ref q221644, .ref (γ 9 29), .int p221657, .ref (γ 9 31), .int p221658, .int p221659, .int p221660, .ref q221645]) := (hfr221815 q221638 hm221642 (nm_c (rn_oa he221782 he221781) nm_n)).trans he221782
          have he221818 : F221813 q221639 = .inr (20, [.int p221694, .int p221695, .int p221696, .int p221697, .int p221698, .int p221699, .int p221700]) := (hfr221815 q221639 hm221692 (nm_c (rn_oa he221783 he221781) nm_n)).trans he221783
          have hfr221819 : rFr [(γ 9 2)] P221636 F221778 F221813 := rFr_call (rSub_rf (P := P221636)) (rFr_rf (W := []) (P := P221636) (F := F221778)) hfr221815 (fun b hb hn => ⟨nm_n, (nm_c (fun e => hn (e ▸ List.mem_cons_self)) nm_n)⟩)
          change G _ _ _ _ _ _ _ _ _ _ _
          refine G_widen (cs' := 0) (sl' := 0) (by omega) (by omega) ?_
          have hT221820 : RS D I P221636 F221813 γ el := RS_fr hT221785 hfr221819 ht221665 (by decide) ⟨f221809, he221816, x221810⟩
          have hs221821 : rStr γ [] F221637 F221813 := rStr_fr hT221785 hs221786 hfr221819 ht221665 (by decide)
          have lv221822 : rLv γ F221637 F221813 := rLv_fr hT221785 ht221663 lv221787 hfr221819 ht221665 (by decide)
          have kp221823 : F221813 q221638 = F221637 q221638 := (hfr221819 q221638 (RS_m hT221785 htq221638 (by decide)) (nm_c (rn_ty htq221638 ht221665 (by decide)) nm_n)).trans kp221788
          exact G_vretA dr_cX17_back_79 rfl (Nat.le_of_ble_eq_true rfl) (Nat.le_of_ble_eq_true rfl) ⟨F221813, rfl, rfl, hT221820, hs221821, (Nat.le_of_ble_eq_true rfl), (Nat.le_of_ble_eq_true rfl), (fun k => by rw [cL_of he221816, cL_of he221690, bkS_of he221693, (decide_eq_false (show ¬ (p221640.toInt = 1) by omega))]; exact bk_n false true true (decide_eq_false (show ¬ (p221694.toInt ≤ 21) by omega)) (decide_eq_true (show (p221694.toInt ≠ 20 ∧ p221694.toInt ≠ 21 ∧ p221694.toInt ≠ 30 ∧ p221699.toInt = 1) by omega)) (decide_eq_true (show (0 < p221694.toInt ∧ p221694.toInt < 20 ∧ p221700.toInt = 1) by omega)) (by rw [x221811 k, x221776 k]; simp)), lv221822, kp221823, (fun R c1 c2 c3 c4 c5 c6 c7 c8 c9 c10 c11 c12 => c4 p221694 p221695 p221698 o221714 p221699 o221727 p221696 f221691 f221774 F221778 p221700 o221796 p221697 f221809 F221813 fq221706 fq221707 fq221708 bo221714 ht221716 r221718 r221720 fq221721 bo221727 ht221729 r221766 fq221767 fq221768 he221690 ht221777 hfr221784 he221781 hT221785 fq221789 fq221790 bo221796 ht221798 r221801 fq221802 fq221803 he221781 ht221812 hfr221819 he221816 hT221820)⟩
    · have r221824 : p221640.toInt ≠ 0 := gj_neq hc221719 (show Int32.toInt 0 = 0 by decide)
      have bp221640' : gB p221640 1 1 := ⟨by omega, by omega⟩
      refine G_aload_n 2 dr_cX17_back_22 rfl ?_
      refine Gp_get 0 hm221692 he221693 dr_cX17_back_23 (gk_X15 D I) (Nat.le_of_ble_eq_true rfl) wr_9_177 rfl ?_
      refine G_bipush 21 dr_cX17_back_26 (by decide +kernel) ?_
      refine G_icmp_ne 42 dr_cX17_back_28 (by decide +kernel) (fun hc221825 => ?_) (fun hc221825 => ?_)
      · have r221826 : p221694.toInt ≠ 21 := gj_neq hc221825 (show Int32.toInt 21 = 21 by decide)
        exact G_vretA dr_cX17_back_42 rfl (Nat.le_of_ble_eq_true rfl) (Nat.le_of_ble_eq_true rfl) ⟨F221637, rfl, rfl, hT, (rStr_rf (γ := γ) (W := []) (F := F221637)), (Nat.le_of_ble_eq_true rfl), (Nat.le_of_ble_eq_true rfl), (fun k => by rw [cL_of he221690, bkS_of he221693, (decide_eq_true (show (p221640.toInt = 1) by omega))]; exact bk_s false false (decide_eq_false (show ¬ (p221694.toInt = 23) by omega)) (decide_eq_false (show ¬ (p221694.toInt = 21) by omega)) (by simp)), (rLv_rf (γ := γ) (F := F221637)), rfl, (fun R c1 c2 c3 c4 c5 c6 c7 c8 c9 c10 c11 c12 => c5 p221694 p221695 p221698 o221714 fq221706 fq221707 fq221708 bo221714 ht221716 r221718 r221824 r221826)⟩
      · have r221827 : p221694.toInt = 21 := gj_eq hc221825 (show Int32.toInt 21 = 21 by decide)
        have bp221694' : gB p221694 21 21 := ⟨by omega, by omega⟩
        refine G_aload_n 1 dr_cX17_back_31 rfl ?_
        have fq221828 : fR (F221637 q221638) 2 = (γ 9 2) := by rw [he221643]; rfl
        refine Gp_get 2 hm221642 he221643 dr_cX17_back_32 (gk_X17 D I) (Nat.le_of_ble_eq_true rfl) wr_7_76 rfl ?_
        refine G_aload_n 2 dr_cX17_back_35 rfl ?_
        refine Gp_get 4 hm221692 he221693 dr_cX17_back_36 (gk_X15 D I) (Nat.le_of_ble_eq_true rfl) wr_9_193 rfl ?_
        refine Gw_callS (As := [.ref (γ 9 2), .int p221698]) (gV_ok D I) (cp_221511_SpillForgeModel_set l hl0 D I P221636 F221637 (γ 9 2) p221698 f221691 hm221689 he221690 bp221698 wf221691) dr_cX17_back_39 ⟨wr_10_189, wr_1_14, wr_10_191, by decide, rfl, (Nat.le_of_ble_eq_true rfl), (Nat.le_of_ble_eq_true rfl)⟩ wr_10_190 (show 0 + 0 ≤ 0 by first | omega | decide) (show 0 + 0 ≤ 0 by first | omega | decide) (Nat.le_of_ble_eq_true rfl) (fun r221832 w221833 dc221829 ds221830 hp221831 => ?_) (fun _ _ _ _ _ z => z.elim)
        obtain ⟨F221838, f221834, rfl, rfl, hfr221840, he221841, hdc, hds, x221835, x221836, ht221837⟩ := hp221831
        have he221842 : F221838 q221638 = .inr (22, [.ref (γ 9 0), .ref (γ 9 1), .ref (γ 9 2), .ref (γ 9 3), .ref (γ 9 4), .ref (γ 9 5), .ref (γ 9 6), .ref (γ 9 7), .ref (γ 9 8), .int p221646, .int p221647, .int p221648, .int p221649, .int p221650, .int p221651, .ref (γ 9 15), .ref (γ 9 16), .ref (γ 9 17), .ref (γ 9 18), .ref (γ 9 19), .ref (γ 9 20), .ref (γ 9 21), .ref (γ 9 22), .int p221652, .int p221653, .int p221654, .int p221655, .int p221656, .ref q221644, .ref (γ 9 29), .int p221657, .ref (γ 9 31), .int p221658, .int p221659, .int p221660, .ref q221645]) := (hfr221840 q221638 hm221642 (nm_c (rn_oa he221643 he221690) nm_n)).trans he221643
        have he221843 : F221838 q221639 = .inr (20, [.int p221694, .int p221695, .int p221696, .int p221697, .int p221698, .int p221699, .int p221700]) := (hfr221840 q221639 hm221692 (nm_c (rn_oa he221693 he221690) nm_n)).trans he221693
        have hfr221844 : rFr [(γ 9 2)] P221636 F221637 F221838 := rFr_call (rSub_rf (P := P221636)) (rFr_rf (W := []) (P := P221636) (F := F221637)) hfr221840 (fun b hb hn => ⟨nm_n, (nm_c (fun e => hn (e ▸ List.mem_cons_self)) nm_n)⟩)
        change G _ _ _ _ _ _ _ _ _ _ _
        refine G_widen (cs' := 0) (sl' := 0) (by omega) (by omega) ?_
        have hT221845 : RS D I P221636 F221838 γ el := RS_fr hT hfr221844 ht221665 (by decide) ⟨f221834, he221841, x221835⟩
        have hs221846 : rStr γ [] F221637 F221838 := rStr_fr hT (rStr_rf (γ := γ) (W := []) (F := F221637)) hfr221844 ht221665 (by decide)
        have lv221847 : rLv γ F221637 F221838 := rLv_fr hT ht221663 (rLv_rf (γ := γ) (F := F221637)) hfr221844 ht221665 (by decide)
        have kp221848 : F221838 q221638 = F221637 q221638 := hfr221844 q221638 (RS_m hT htq221638 (by decide)) (nm_c (rn_ty htq221638 ht221665 (by decide)) nm_n)
        exact G_vretA dr_cX17_back_42 rfl (Nat.le_of_ble_eq_true rfl) (Nat.le_of_ble_eq_true rfl) ⟨F221838, rfl, rfl, hT221845, hs221846, (Nat.le_of_ble_eq_true rfl), (Nat.le_of_ble_eq_true rfl), (fun k => by rw [cL_of he221841, cL_of he221690, bkS_of he221693, (decide_eq_true (show (p221640.toInt = 1) by omega))]; exact bk_s false true (decide_eq_false (show ¬ (p221694.toInt = 23) by omega)) (decide_eq_true (show (p221694.toInt = 21) by omega)) (by rw [x221836 k]; simp)), lv221847, kp221848, (fun R c1 c2 c3 c4 c5 c6 c7 c8 c9 c10 c11 c12 => c6 p221694 p221695 p221698 o221714 f221691 f221834 F221838 fq221706 fq221707 fq221708 bo221714 ht221716 r221718 r221824 r221827 fq221828 he221690 ht221837 hfr221844 he221841 hT221845)⟩
  · have r221849 : 0 ≤ o221714.toInt := gj_nlt hc221717 (show Int32.toInt 0 = 0 by decide)
    have bo221714' : gB o221714 0 1999 := ⟨by omega, by omega⟩
    refine G_aload_n 1 dr_cX17_back_10 rfl ?_
    have fq221850 : fR (F221637 q221638) 2 = (γ 9 2) := by rw [he221643]; rfl
    refine Gp_get 2 hm221642 he221643 dr_cX17_back_11 (gk_X17 D I) (Nat.le_of_ble_eq_true rfl) wr_7_76 rfl ?_
    refine G_iload_n 0 dr_cX17_back_14 rfl ?_
    refine Gw_callS (As := [.ref (γ 9 2), .int o221714]) (gV_ok D I) (cp_221531_SpillForgeModel_clear l hl0 D I P221636 F221637 (γ 9 2) o221714 f221691 hm221689 he221690 bo221714' wf221691) dr_cX17_back_15 ⟨wr_10_185, wr_1_14, wr_10_187, by decide, rfl, (Nat.le_of_ble_eq_true rfl), (Nat.le_of_ble_eq_true rfl)⟩ wr_10_186 (show 0 + 0 ≤ 0 by first | omega | decide) (show 0 + 0 ≤ 0 by first | omega | decide) (Nat.le_of_ble_eq_true rfl) (fun r221854 w221855 dc221851 ds221852 hp221853 => ?_) (fun _ _ _ _ _ z => z.elim)
    obtain ⟨F221860, f221856, rfl, rfl, hfr221862, he221863, hdc, hds, x221857, x221858, ht221859⟩ := hp221853
    have he221864 : F221860 q221638 = .inr (22, [.ref (γ 9 0), .ref (γ 9 1), .ref (γ 9 2), .ref (γ 9 3), .ref (γ 9 4), .ref (γ 9 5), .ref (γ 9 6), .ref (γ 9 7), .ref (γ 9 8), .int p221646, .int p221647, .int p221648, .int p221649, .int p221650, .int p221651, .ref (γ 9 15), .ref (γ 9 16), .ref (γ 9 17), .ref (γ 9 18), .ref (γ 9 19), .ref (γ 9 20), .ref (γ 9 21), .ref (γ 9 22), .int p221652, .int p221653, .int p221654, .int p221655, .int p221656, .ref q221644, .ref (γ 9 29), .int p221657, .ref (γ 9 31), .int p221658, .int p221659, .int p221660, .ref q221645]) := (hfr221862 q221638 hm221642 (nm_c (rn_oa he221643 he221690) nm_n)).trans he221643
    have he221865 : F221860 q221639 = .inr (20, [.int p221694, .int p221695, .int p221696, .int p221697, .int p221698, .int p221699, .int p221700]) := (hfr221862 q221639 hm221692 (nm_c (rn_oa he221693 he221690) nm_n)).trans he221693
    have hfr221866 : rFr [(γ 9 2)] P221636 F221637 F221860 := rFr_call (rSub_rf (P := P221636)) (rFr_rf (W := []) (P := P221636) (F := F221637)) hfr221862 (fun b hb hn => ⟨nm_n, (nm_c (fun e => hn (e ▸ List.mem_cons_self)) nm_n)⟩)
    change G _ _ _ _ _ _ _ _ _ _ _
    refine G_widen (cs' := 0) (sl' := 0) (by omega) (by omega) ?_
    have hT221867 : RS D I P221636 F221860 γ el := RS_fr hT hfr221866 ht221665 (by decide) ⟨f221856, he221863, x221857⟩
    have hs221868 : rStr γ [] F221637 F221860 := rStr_fr hT (rStr_rf (γ := γ) (W := []) (F := F221637)) hfr221866 ht221665 (by decide)
    have lv221869 : rLv γ F221637 F221860 := rLv_fr hT ht221663 (rLv_rf (γ := γ) (F := F221637)) hfr221866 ht221665 (by decide)
    have kp221870 : F221860 q221638 = F221637 q221638 := hfr221866 q221638 (RS_m hT htq221638 (by decide)) (nm_c (rn_ty htq221638 ht221665 (by decide)) nm_n)
    refine G_iload_n 3 dr_cX17_back_18 rfl ?_
    refine G_if_eq 43 dr_cX17_back_19 (by decide +kernel) (fun hc221871 => ?_) (fun hc221871 => ?_)
    · have r221872 : p221640.toInt = 0 := gj_eq hc221871 (show Int32.toInt 0 = 0 by decide)
      have bp221640' : gB p221640 0 0 := ⟨by omega, by omega⟩
      refine G_aload_n 2 dr_cX17_back_43 rfl ?_
      have fq221873 : fI (F221860 q221639) 0 = p221694 := by rw [he221865]; rfl
      have fq221874 : fI (F221860 q221639) 5 = p221699 := by rw [he221865]; rfl
      refine Gw_callV (As := []) (gV_ok D I) (cp_221556_Row_usesA l hl0 D I P221636 F221860 q221639 p221694 p221695 p221696 p221697 p221698 p221699 p221700 hm221692 he221865 bp221694 bp221695 bp221698 bp221699 bp221700) dr_cX17_back_44 ⟨wr_10_192, wr_1_39, wr_10_195, by decide, rfl, (Nat.le_of_ble_eq_true rfl), (Nat.le_of_ble_eq_true rfl)⟩ wr_10_193 wr_10_194 hm221692 he221865 rfl (show 0 + 0 ≤ 0 by first | omega | decide) (show 0 + 0 ≤ 0 by first | omega | decide) (Nat.le_of_ble_eq_true rfl) (fun r221878 w221879 dc221875 ds221876 hp221877 => ?_) (fun _ _ _ _ _ z => z.elim)
      obtain ⟨o221880, rfl, rfl, hdc, hds, bo221880, x221881, ht221882⟩ := hp221877
      change G _ _ _ _ _ _ _ (.int o221880 :: _) _ _ _
      refine G_widen (cs' := 0) (sl' := 0) (by omega) (by omega) ?_
      refine G_if_eq 61 dr_cX17_back_47 (by decide +kernel) (fun hc221883 => ?_) (fun hc221883 => ?_)
      · have r221884 : o221880.toInt = 0 := gj_eq hc221883 (show Int32.toInt 0 = 0 by decide)
        have bo221880' : gB o221880 0 0 := ⟨by omega, by omega⟩
        refine G_aload_n 2 dr_cX17_back_61 rfl ?_
        have fq221885 : fI (F221860 q221639) 6 = p221700 := by rw [he221865]; rfl
        refine Gw_callV (As := []) (gV_ok D I) (cp_221580_Row_usesB l hl0 D I P221636 F221860 q221639 p221694 p221695 p221696 p221697 p221698 p221699 p221700 hm221692 he221865 bp221694 bp221695 bp221698 bp221699 bp221700) dr_cX17_back_62 ⟨wr_10_196, wr_1_39, wr_10_199, by decide, rfl, (Nat.le_of_ble_eq_true rfl), (Nat.le_of_ble_eq_true rfl)⟩ wr_10_197 wr_10_198 hm221692 he221865 rfl (show 0 + 0 ≤ 0 by first | omega | decide) (show 0 + 0 ≤ 0 by first | omega | decide) (Nat.le_of_ble_eq_true rfl) (fun r221889 w221890 dc221886 ds221887 hp221888 => ?_) (fun _ _ _ _ _ z => z.elim)
        obtain ⟨o221891, rfl, rfl, hdc, hds, bo221891, x221892, ht221893⟩ := hp221888
        change G _ _ _ _ _ _ _ (.int o221891 :: _) _ _ _
        refine G_widen (cs' := 0) (sl' := 0) (by omega) (by omega) ?_
        refine G_if_eq 79 dr_cX17_back_65 (by decide +kernel) (fun hc221894 => ?_) (fun hc221894 => ?_)
        · have r221895 : o221891.toInt = 0 := gj_eq hc221894 (show Int32.toInt 0 = 0 by decide)
          have bo221891' : gB o221891 0 0 := ⟨by omega, by omega⟩
          exact G_vretA dr_cX17_back_79 rfl (Nat.le_of_ble_eq_true rfl) (Nat.le_of_ble_eq_true rfl) ⟨F221860, rfl, rfl, hT221867, hs221868, (Nat.le_of_ble_eq_true rfl), (Nat.le_of_ble_eq_true rfl), (fun k => by rw [cL_of he221863, cL_of he221690, bkS_of he221693, (decide_eq_false (show ¬ (p221640.toInt = 1) by omega))]; exact bk_n true false false (decide_eq_true (show (p221694.toInt ≤ 21) by omega)) (decide_eq_false (show ¬ (p221694.toInt ≠ 20 ∧ p221694.toInt ≠ 21 ∧ p221694.toInt ≠ 30 ∧ p221699.toInt = 1) by omega)) (decide_eq_false (show ¬ (0 < p221694.toInt ∧ p221694.toInt < 20 ∧ p221700.toInt = 1) by omega)) (by rw [x221858 k, show o221714.toInt = p221695.toInt by omega]; simp)), lv221869, kp221870, (fun R c1 c2 c3 c4 c5 c6 c7 c8 c9 c10 c11 c12 => c7 p221694 p221695 p221698 o221714 f221691 f221856 F221860 p221699 o221880 p221700 o221891 fq221706 fq221707 fq221708 bo221714 ht221716 r221849 fq221850 he221690 ht221859 hfr221866 he221863 hT221867 r221872 fq221873 fq221874 bo221880 ht221882 r221884 fq221885 bo221891 ht221893 r221895)⟩
        · have r221896 : o221891.toInt ≠ 0 := gj_neq hc221894 (show Int32.toInt 0 = 0 by decide)
          have bo221891' : gB o221891 1 1 := ⟨by omega, by omega⟩
          refine G_aload_n 1 dr_cX17_back_68 rfl ?_
          have fq221897 : fR (F221860 q221638) 2 = (γ 9 2) := by rw [he221864]; rfl
          refine Gp_get 2 hm221642 he221864 dr_cX17_back_69 (gk_X17 D I) (Nat.le_of_ble_eq_true rfl) wr_7_76 rfl ?_
          refine G_aload_n 2 dr_cX17_back_72 rfl ?_
          have fq221898 : fI (F221860 q221639) 3 = p221697 := by rw [he221865]; rfl
          refine Gp_get 3 hm221692 he221865 dr_cX17_back_73 (gk_X15 D I) (Nat.le_of_ble_eq_true rfl) wr_9_190 rfl ?_
          refine Gw_callS (As := [.ref (γ 9 2), .int p221697]) (gV_ok D I) (cp_221511_SpillForgeModel_set l hl0 D I P221636 F221860 (γ 9 2) p221697 f221856 hm221689 he221863 ⟨by omega, by omega⟩ x221857) dr_cX17_back_76 ⟨wr_10_189, wr_1_14, wr_10_191, by decide, rfl, (Nat.le_of_ble_eq_true rfl), (Nat.le_of_ble_eq_true rfl)⟩ wr_10_190 (show 0 + 0 ≤ 0 by first | omega | decide) (show 0 + 0 ≤ 0 by first | omega | decide) (Nat.le_of_ble_eq_true rfl) (fun r221902 w221903 dc221899 ds221900 hp221901 => ?_) (fun _ _ _ _ _ z => z.elim)
          obtain ⟨F221908, f221904, rfl, rfl, hfr221910, he221911, hdc, hds, x221905, x221906, ht221907⟩ := hp221901
          have he221912 : F221908 q221638 = .inr (22, [.ref (γ 9 0), .ref (γ 9 1), .ref (γ 9 2), .ref (γ 9 3), .ref (γ 9 4), .ref (γ 9 5), .ref (γ 9 6), .ref (γ 9 7), .ref (γ 9 8), .int p221646, .int p221647, .int p221648, .int p221649, .int p221650, .int p221651, .ref (γ 9 15), .ref (γ 9 16), .ref (γ 9 17), .ref (γ 9 18), .ref (γ 9 19), .ref (γ 9 20), .ref (γ 9 21), .ref (γ 9 22), .int p221652, .int p221653, .int p221654, .int p221655, .int p221656, .ref q221644, .ref (γ 9 29), .int p221657, .ref (γ 9 31), .int p221658, .int p221659, .int p221660, .ref q221645]) := (hfr221910 q221638 hm221642 (nm_c (rn_oa he221864 he221863) nm_n)).trans he221864
          have he221913 : F221908 q221639 = .inr (20, [.int p221694, .int p221695, .int p221696, .int p221697, .int p221698, .int p221699, .int p221700]) := (hfr221910 q221639 hm221692 (nm_c (rn_oa he221865 he221863) nm_n)).trans he221865
          have hfr221914 : rFr [(γ 9 2)] P221636 F221860 F221908 := rFr_call (rSub_rf (P := P221636)) (rFr_rf (W := []) (P := P221636) (F := F221860)) hfr221910 (fun b hb hn => ⟨nm_n, (nm_c (fun e => hn (e ▸ List.mem_cons_self)) nm_n)⟩)
          change G _ _ _ _ _ _ _ _ _ _ _
          refine G_widen (cs' := 0) (sl' := 0) (by omega) (by omega) ?_
          have hT221915 : RS D I P221636 F221908 γ el := RS_fr hT221867 hfr221914 ht221665 (by decide) ⟨f221904, he221911, x221905⟩
          have hs221916 : rStr γ [] F221637 F221908 := rStr_fr hT221867 hs221868 hfr221914 ht221665 (by decide)
          have lv221917 : rLv γ F221637 F221908 := rLv_fr hT221867 ht221663 lv221869 hfr221914 ht221665 (by decide)
          have kp221918 : F221908 q221638 = F221637 q221638 := (hfr221914 q221638 (RS_m hT221867 htq221638 (by decide)) (nm_c (rn_ty htq221638 ht221665 (by decide)) nm_n)).trans kp221870
          exact G_vretA dr_cX17_back_79 rfl (Nat.le_of_ble_eq_true rfl) (Nat.le_of_ble_eq_true rfl) ⟨F221908, rfl, rfl, hT221915, hs221916, (Nat.le_of_ble_eq_true rfl), (Nat.le_of_ble_eq_true rfl), (fun k => by rw [cL_of he221911, cL_of he221690, bkS_of he221693, (decide_eq_false (show ¬ (p221640.toInt = 1) by omega))]; exact bk_n true false true (decide_eq_true (show (p221694.toInt ≤ 21) by omega)) (decide_eq_false (show ¬ (p221694.toInt ≠ 20 ∧ p221694.toInt ≠ 21 ∧ p221694.toInt ≠ 30 ∧ p221699.toInt = 1) by omega)) (decide_eq_true (show (0 < p221694.toInt ∧ p221694.toInt < 20 ∧ p221700.toInt = 1) by omega)) (by rw [x221906 k, x221858 k, show o221714.toInt = p221695.toInt by omega]; simp)), lv221917, kp221918, (fun R c1 c2 c3 c4 c5 c6 c7 c8 c9 c10 c11 c12 => c8 p221694 p221695 p221698 o221714 f221691 f221856 F221860 p221699 o221880 p221700 o221891 p221697 f221904 F221908 fq221706 fq221707 fq221708 bo221714 ht221716 r221849 fq221850 he221690 ht221859 hfr221866 he221863 hT221867 r221872 fq221873 fq221874 bo221880 ht221882 r221884 fq221885 bo221891 ht221893 r221896 fq221897 fq221898 he221863 ht221907 hfr221914 he221911 hT221915)⟩
      · have r221919 : o221880.toInt ≠ 0 := gj_neq hc221883 (show Int32.toInt 0 = 0 by decide)
        have bo221880' : gB o221880 1 1 := ⟨by omega, by omega⟩
        refine G_aload_n 1 dr_cX17_back_50 rfl ?_
        have fq221920 : fR (F221860 q221638) 2 = (γ 9 2) := by rw [he221864]; rfl
        refine Gp_get 2 hm221642 he221864 dr_cX17_back_51 (gk_X17 D I) (Nat.le_of_ble_eq_true rfl) wr_7_76 rfl ?_
        refine G_aload_n 2 dr_cX17_back_54 rfl ?_
        have fq221921 : fI (F221860 q221639) 2 = p221696 := by rw [he221865]; rfl
        refine Gp_get 2 hm221692 he221865 dr_cX17_back_55 (gk_X15 D I) (Nat.le_of_ble_eq_true rfl) wr_9_186 rfl ?_
        refine Gw_callS (As := [.ref (γ 9 2), .int p221696]) (gV_ok D I) (cp_221511_SpillForgeModel_set l hl0 D I P221636 F221860 (γ 9 2) p221696 f221856 hm221689 he221863 ⟨by omega, by omega⟩ x221857) dr_cX17_back_58 ⟨wr_10_189, wr_1_14, wr_10_191, by decide, rfl, (Nat.le_of_ble_eq_true rfl), (Nat.le_of_ble_eq_true rfl)⟩ wr_10_190 (show 0 + 0 ≤ 0 by first | omega | decide) (show 0 + 0 ≤ 0 by first | omega | decide) (Nat.le_of_ble_eq_true rfl) (fun r221925 w221926 dc221922 ds221923 hp221924 => ?_) (fun _ _ _ _ _ z => z.elim)
        obtain ⟨F221931, f221927, rfl, rfl, hfr221933, he221934, hdc, hds, x221928, x221929, ht221930⟩ := hp221924
        have he221935 : F221931 q221638 = .inr (22, [.ref (γ 9 0), .ref (γ 9 1), .ref (γ 9 2), .ref (γ 9 3), .ref (γ 9 4), .ref (γ 9 5), .ref (γ 9 6), .ref (γ 9 7), .ref (γ 9 8), .int p221646, .int p221647, .int p221648, .int p221649, .int p221650, .int p221651, .ref (γ 9 15), .ref (γ 9 16), .ref (γ 9 17), .ref (γ 9 18), .ref (γ 9 19), .ref (γ 9 20), .ref (γ 9 21), .ref (γ 9 22), .int p221652, .int p221653, .int p221654, .int p221655, .int p221656, .ref q221644, .ref (γ 9 29), .int p221657, .ref (γ 9 31), .int p221658, .int p221659, .int p221660, .ref q221645]) := (hfr221933 q221638 hm221642 (nm_c (rn_oa he221864 he221863) nm_n)).trans he221864
        have he221936 : F221931 q221639 = .inr (20, [.int p221694, .int p221695, .int p221696, .int p221697, .int p221698, .int p221699, .int p221700]) := (hfr221933 q221639 hm221692 (nm_c (rn_oa he221865 he221863) nm_n)).trans he221865
        have hfr221937 : rFr [(γ 9 2)] P221636 F221860 F221931 := rFr_call (rSub_rf (P := P221636)) (rFr_rf (W := []) (P := P221636) (F := F221860)) hfr221933 (fun b hb hn => ⟨nm_n, (nm_c (fun e => hn (e ▸ List.mem_cons_self)) nm_n)⟩)
        change G _ _ _ _ _ _ _ _ _ _ _
        refine G_widen (cs' := 0) (sl' := 0) (by omega) (by omega) ?_
        have hT221938 : RS D I P221636 F221931 γ el := RS_fr hT221867 hfr221937 ht221665 (by decide) ⟨f221927, he221934, x221928⟩
        have hs221939 : rStr γ [] F221637 F221931 := rStr_fr hT221867 hs221868 hfr221937 ht221665 (by decide)
        have lv221940 : rLv γ F221637 F221931 := rLv_fr hT221867 ht221663 lv221869 hfr221937 ht221665 (by decide)
        have kp221941 : F221931 q221638 = F221637 q221638 := (hfr221937 q221638 (RS_m hT221867 htq221638 (by decide)) (nm_c (rn_ty htq221638 ht221665 (by decide)) nm_n)).trans kp221870
        refine G_aload_n 2 dr_cX17_back_61 rfl ?_
        have fq221942 : fI (F221931 q221639) 0 = p221694 := by rw [he221936]; rfl
        have fq221943 : fI (F221931 q221639) 6 = p221700 := by rw [he221936]; rfl
        refine Gw_callV (As := []) (gV_ok D I) (cp_221580_Row_usesB l hl0 D I P221636 F221931 q221639 p221694 p221695 p221696 p221697 p221698 p221699 p221700 hm221692 he221936 bp221694 bp221695 bp221698 bp221699 bp221700) dr_cX17_back_62 ⟨wr_10_196, wr_1_39, wr_10_199, by decide, rfl, (Nat.le_of_ble_eq_true rfl), (Nat.le_of_ble_eq_true rfl)⟩ wr_10_197 wr_10_198 hm221692 he221936 rfl (show 0 + 0 ≤ 0 by first | omega | decide) (show 0 + 0 ≤ 0 by first | omega | decide) (Nat.le_of_ble_eq_true rfl) (fun r221947 w221948 dc221944 ds221945 hp221946 => ?_) (fun _ _ _ _ _ z => z.elim)
        obtain ⟨o221949, rfl, rfl, hdc, hds, bo221949, x221950, ht221951⟩ := hp221946
        change G _ _ _ _ _ _ _ (.int o221949 :: _) _ _ _
        refine G_widen (cs' := 0) (sl' := 0) (by omega) (by omega) ?_
        refine G_if_eq 79 dr_cX17_back_65 (by decide +kernel) (fun hc221952 => ?_) (fun hc221952 => ?_)
        · have r221953 : o221949.toInt = 0 := gj_eq hc221952 (show Int32.toInt 0 = 0 by decide)
          have bo221949' : gB o221949 0 0 := ⟨by omega, by omega⟩
          exact G_vretA dr_cX17_back_79 rfl (Nat.le_of_ble_eq_true rfl) (Nat.le_of_ble_eq_true rfl) ⟨F221931, rfl, rfl, hT221938, hs221939, (Nat.le_of_ble_eq_true rfl), (Nat.le_of_ble_eq_true rfl), (fun k => by rw [cL_of he221934, cL_of he221690, bkS_of he221693, (decide_eq_false (show ¬ (p221640.toInt = 1) by omega))]; exact bk_n true true false (decide_eq_true (show (p221694.toInt ≤ 21) by omega)) (decide_eq_true (show (p221694.toInt ≠ 20 ∧ p221694.toInt ≠ 21 ∧ p221694.toInt ≠ 30 ∧ p221699.toInt = 1) by omega)) (decide_eq_false (show ¬ (0 < p221694.toInt ∧ p221694.toInt < 20 ∧ p221700.toInt = 1) by omega)) (by rw [x221929 k, x221858 k, show o221714.toInt = p221695.toInt by omega]; simp)), lv221940, kp221941, (fun R c1 c2 c3 c4 c5 c6 c7 c8 c9 c10 c11 c12 => c9 p221694 p221695 p221698 o221714 f221691 f221856 F221860 p221699 o221880 p221696 f221927 F221931 p221700 o221949 fq221706 fq221707 fq221708 bo221714 ht221716 r221849 fq221850 he221690 ht221859 hfr221866 he221863 hT221867 r221872 fq221873 fq221874 bo221880 ht221882 r221919 fq221920 fq221921 he221863 ht221930 hfr221937 he221934 hT221938 fq221942 fq221943 bo221949 ht221951 r221953)⟩
        · have r221954 : o221949.toInt ≠ 0 := gj_neq hc221952 (show Int32.toInt 0 = 0 by decide)
          have bo221949' : gB o221949 1 1 := ⟨by omega, by omega⟩
          refine G_aload_n 1 dr_cX17_back_68 rfl ?_
          have fq221955 : fR (F221931 q221638) 2 = (γ 9 2) := by rw [he221935]; rfl
          refine Gp_get 2 hm221642 he221935 dr_cX17_back_69 (gk_X17 D I) (Nat.le_of_ble_eq_true rfl) wr_7_76 rfl ?_
          refine G_aload_n 2 dr_cX17_back_72 rfl ?_
          have fq221956 : fI (F221931 q221639) 3 = p221697 := by rw [he221936]; rfl
          refine Gp_get 3 hm221692 he221936 dr_cX17_back_73 (gk_X15 D I) (Nat.le_of_ble_eq_true rfl) wr_9_190 rfl ?_
          refine Gw_callS (As := [.ref (γ 9 2), .int p221697]) (gV_ok D I) (cp_221511_SpillForgeModel_set l hl0 D I P221636 F221931 (γ 9 2) p221697 f221927 hm221689 he221934 ⟨by omega, by omega⟩ x221928) dr_cX17_back_76 ⟨wr_10_189, wr_1_14, wr_10_191, by decide, rfl, (Nat.le_of_ble_eq_true rfl), (Nat.le_of_ble_eq_true rfl)⟩ wr_10_190 (show 0 + 0 ≤ 0 by first | omega | decide) (show 0 + 0 ≤ 0 by first | omega | decide) (Nat.le_of_ble_eq_true rfl) (fun r221960 w221961 dc221957 ds221958 hp221959 => ?_) (fun _ _ _ _ _ z => z.elim)
          obtain ⟨F221966, f221962, rfl, rfl, hfr221968, he221969, hdc, hds, x221963, x221964, ht221965⟩ := hp221959
          have he221970 : F221966 q221638 = .inr (22, [.ref (γ 9 0), .ref (γ 9 1), .ref (γ 9 2), .ref (γ 9 3), .ref (γ 9 4), .ref (γ 9 5), .ref (γ 9 6), .ref (γ 9 7), .ref (γ 9 8), .int p221646, .int p221647, .int p221648, .int p221649, .int p221650, .int p221651, .ref (γ 9 15), .ref (γ 9 16), .ref (γ 9 17), .ref (γ 9 18), .ref (γ 9 19), .ref (γ 9 20), .ref (γ 9 21), .ref (γ 9 22), .int p221652, .int p221653, .int p221654, .int p221655, .int p221656, .ref q221644, .ref (γ 9 29), .int p221657, .ref (γ 9 31), .int p221658, .int p221659, .int p221660, .ref q221645]) := (hfr221968 q221638 hm221642 (nm_c (rn_oa he221935 he221934) nm_n)).trans he221935
          have he221971 : F221966 q221639 = .inr (20, [.int p221694, .int p221695, .int p221696, .int p221697, .int p221698, .int p221699, .int p221700]) := (hfr221968 q221639 hm221692 (nm_c (rn_oa he221936 he221934) nm_n)).trans he221936
          have hfr221972 : rFr [(γ 9 2)] P221636 F221931 F221966 := rFr_call (rSub_rf (P := P221636)) (rFr_rf (W := []) (P := P221636) (F := F221931)) hfr221968 (fun b hb hn => ⟨nm_n, (nm_c (fun e => hn (e ▸ List.mem_cons_self)) nm_n)⟩)
          change G _ _ _ _ _ _ _ _ _ _ _
          refine G_widen (cs' := 0) (sl' := 0) (by omega) (by omega) ?_
          have hT221973 : RS D I P221636 F221966 γ el := RS_fr hT221938 hfr221972 ht221665 (by decide) ⟨f221962, he221969, x221963⟩
          have hs221974 : rStr γ [] F221637 F221966 := rStr_fr hT221938 hs221939 hfr221972 ht221665 (by decide)
          have lv221975 : rLv γ F221637 F221966 := rLv_fr hT221938 ht221663 lv221940 hfr221972 ht221665 (by decide)
          have kp221976 : F221966 q221638 = F221637 q221638 := (hfr221972 q221638 (RS_m hT221938 htq221638 (by decide)) (nm_c (rn_ty htq221638 ht221665 (by decide)) nm_n)).trans kp221941
          exact G_vretA dr_cX17_back_79 rfl (Nat.le_of_ble_eq_true rfl) (Nat.le_of_ble_eq_true rfl) ⟨F221966, rfl, rfl, hT221973, hs221974, (Nat.le_of_ble_eq_true rfl), (Nat.le_of_ble_eq_true rfl), (fun k => by rw [cL_of he221969, cL_of he221690, bkS_of he221693, (decide_eq_false (show ¬ (p221640.toInt = 1) by omega))]; exact bk_n true true true (decide_eq_true (show (p221694.toInt ≤ 21) by omega)) (decide_eq_true (show (p221694.toInt ≠ 20 ∧ p221694.toInt ≠ 21 ∧ p221694.toInt ≠ 30 ∧ p221699.toInt = 1) by omega)) (decide_eq_true (show (0 < p221694.toInt ∧ p221694.toInt < 20 ∧ p221700.toInt = 1) by omega)) (by rw [x221964 k, x221929 k, x221858 k, show o221714.toInt = p221695.toInt by omega]; simp)), lv221975, kp221976, (fun R c1 c2 c3 c4 c5 c6 c7 c8 c9 c10 c11 c12 => c10 p221694 p221695 p221698 o221714 f221691 f221856 F221860 p221699 o221880 p221696 f221927 F221931 p221700 o221949 p221697 f221962 F221966 fq221706 fq221707 fq221708 bo221714 ht221716 r221849 fq221850 he221690 ht221859 hfr221866 he221863 hT221867 r221872 fq221873 fq221874 bo221880 ht221882 r221919 fq221920 fq221921 he221863 ht221930 hfr221937 he221934 hT221938 fq221942 fq221943 bo221949 ht221951 r221954 fq221955 fq221956 he221934 ht221965 hfr221972 he221969 hT221973)⟩
    · have r221977 : p221640.toInt ≠ 0 := gj_neq hc221871 (show Int32.toInt 0 = 0 by decide)
      have bp221640' : gB p221640 1 1 := ⟨by omega, by omega⟩
      refine G_aload_n 2 dr_cX17_back_22 rfl ?_
      have fq221978 : fI (F221860 q221639) 0 = p221694 := by rw [he221865]; rfl
      refine Gp_get 0 hm221692 he221865 dr_cX17_back_23 (gk_X15 D I) (Nat.le_of_ble_eq_true rfl) wr_9_177 rfl ?_
      refine G_bipush 21 dr_cX17_back_26 (by decide +kernel) ?_
      refine G_icmp_ne 42 dr_cX17_back_28 (by decide +kernel) (fun hc221979 => ?_) (fun hc221979 => ?_)
      · have r221980 : p221694.toInt ≠ 21 := gj_neq hc221979 (show Int32.toInt 21 = 21 by decide)
        exact G_vretA dr_cX17_back_42 rfl (Nat.le_of_ble_eq_true rfl) (Nat.le_of_ble_eq_true rfl) ⟨F221860, rfl, rfl, hT221867, hs221868, (Nat.le_of_ble_eq_true rfl), (Nat.le_of_ble_eq_true rfl), (fun k => by rw [cL_of he221863, cL_of he221690, bkS_of he221693, (decide_eq_true (show (p221640.toInt = 1) by omega))]; exact bk_s true false (decide_eq_true (show (p221694.toInt = 23) by omega)) (decide_eq_false (show ¬ (p221694.toInt = 21) by omega)) (by rw [x221858 k, show o221714.toInt = p221698.toInt by omega]; simp)), lv221869, kp221870, (fun R c1 c2 c3 c4 c5 c6 c7 c8 c9 c10 c11 c12 => c11 p221694 p221695 p221698 o221714 f221691 f221856 F221860 fq221706 fq221707 fq221708 bo221714 ht221716 r221849 fq221850 he221690 ht221859 hfr221866 he221863 hT221867 r221977 fq221978 r221980)⟩
      · have r221981 : p221694.toInt = 21 := gj_eq hc221979 (show Int32.toInt 21 = 21 by decide)
        have bp221694' : gB p221694 21 21 := ⟨by omega, by omega⟩
        refine G_aload_n 1 dr_cX17_back_31 rfl ?_
        have fq221982 : fR (F221860 q221638) 2 = (γ 9 2) := by rw [he221864]; rfl
        refine Gp_get 2 hm221642 he221864 dr_cX17_back_32 (gk_X17 D I) (Nat.le_of_ble_eq_true rfl) wr_7_76 rfl ?_
        refine G_aload_n 2 dr_cX17_back_35 rfl ?_
        have fq221983 : fI (F221860 q221639) 4 = p221698 := by rw [he221865]; rfl
        refine Gp_get 4 hm221692 he221865 dr_cX17_back_36 (gk_X15 D I) (Nat.le_of_ble_eq_true rfl) wr_9_193 rfl ?_
        refine Gw_callS (As := [.ref (γ 9 2), .int p221698]) (gV_ok D I) (cp_221511_SpillForgeModel_set l hl0 D I P221636 F221860 (γ 9 2) p221698 f221856 hm221689 he221863 bp221698 x221857) dr_cX17_back_39 ⟨wr_10_189, wr_1_14, wr_10_191, by decide, rfl, (Nat.le_of_ble_eq_true rfl), (Nat.le_of_ble_eq_true rfl)⟩ wr_10_190 (show 0 + 0 ≤ 0 by first | omega | decide) (show 0 + 0 ≤ 0 by first | omega | decide) (Nat.le_of_ble_eq_true rfl) (fun r221987 w221988 dc221984 ds221985 hp221986 => ?_) (fun _ _ _ _ _ z => z.elim)
        obtain ⟨F221993, f221989, rfl, rfl, hfr221995, he221996, hdc, hds, x221990, x221991, ht221992⟩ := hp221986
        have he221997 : F221993 q221638 = .inr (22, [.ref (γ 9 0), .ref (γ 9 1), .ref (γ 9 2), .ref (γ 9 3), .ref (γ 9 4), .ref (γ 9 5), .ref (γ 9 6), .ref (γ 9 7), .ref (γ 9 8), .int p221646, .int p221647, .int p221648, .int p221649, .int p221650, .int p221651, .ref (γ 9 15), .ref (γ 9 16), .ref (γ 9 17), .ref (γ 9 18), .ref (γ 9 19), .ref (γ 9 20), .ref (γ 9 21), .ref (γ 9 22), .int p221652, .int p221653, .int p221654, .int p221655, .int p221656, .ref q221644, .ref (γ 9 29), .int p221657, .ref (γ 9 31), .int p221658, .int p221659, .int p221660, .ref q221645]) := (hfr221995 q221638 hm221642 (nm_c (rn_oa he221864 he221863) nm_n)).trans he221864
        have he221998 : F221993 q221639 = .inr (20, [.int p221694, .int p221695, .int p221696, .int p221697, .int p221698, .int p221699, .int p221700]) := (hfr221995 q221639 hm221692 (nm_c (rn_oa he221865 he221863) nm_n)).trans he221865
        have hfr221999 : rFr [(γ 9 2)] P221636 F221860 F221993 := rFr_call (rSub_rf (P := P221636)) (rFr_rf (W := []) (P := P221636) (F := F221860)) hfr221995 (fun b hb hn => ⟨nm_n, (nm_c (fun e => hn (e ▸ List.mem_cons_self)) nm_n)⟩)
        change G _ _ _ _ _ _ _ _ _ _ _
        refine G_widen (cs' := 0) (sl' := 0) (by omega) (by omega) ?_
        have hT222000 : RS D I P221636 F221993 γ el := RS_fr hT221867 hfr221999 ht221665 (by decide) ⟨f221989, he221996, x221990⟩
        have hs222001 : rStr γ [] F221637 F221993 := rStr_fr hT221867 hs221868 hfr221999 ht221665 (by decide)
        have lv222002 : rLv γ F221637 F221993 := rLv_fr hT221867 ht221663 lv221869 hfr221999 ht221665 (by decide)
        have kp222003 : F221993 q221638 = F221637 q221638 := (hfr221999 q221638 (RS_m hT221867 htq221638 (by decide)) (nm_c (rn_ty htq221638 ht221665 (by decide)) nm_n)).trans kp221870
        exact G_vretA dr_cX17_back_42 rfl (Nat.le_of_ble_eq_true rfl) (Nat.le_of_ble_eq_true rfl) ⟨F221993, rfl, rfl, hT222000, hs222001, (Nat.le_of_ble_eq_true rfl), (Nat.le_of_ble_eq_true rfl), (fun k => by rw [cL_of he221996, cL_of he221690, bkS_of he221693, (decide_eq_true (show (p221640.toInt = 1) by omega))]; exact bk_s true true (decide_eq_true (show (p221694.toInt = 23) by omega)) (decide_eq_true (show (p221694.toInt = 21) by omega)) (by rw [x221991 k, x221858 k, show o221714.toInt = p221698.toInt by omega]; simp)), lv222002, kp222003, (fun R c1 c2 c3 c4 c5 c6 c7 c8 c9 c10 c11 c12 => c12 p221694 p221695 p221698 o221714 f221691 f221856 F221860 f221989 F221993 fq221706 fq221707 fq221708 bo221714 ht221716 r221849 fq221850 he221690 ht221859 hfr221866 he221863 hT221867 r221977 fq221978 r221981 fq221982 fq221983 he221863 ht221992 hfr221999 he221996 hT222000)⟩
/- tr_RBlock_ways2: result -/
def tr_RBlock_ways2 (a0_first : Int32) (a0_second : Int32) (a0_end_op : Int32) (o1 : Int32) : Prop := ∀ R : (Int32) → Prop,
  (a0_end_op.toInt ≠ 32 → a0_end_op.toInt = 30 → R (1 : Int32)) →
  (a0_end_op.toInt ≠ 32 → a0_end_op.toInt ≠ 30 → a0_first.toInt ≠ a0_second.toInt → R (2 : Int32)) →
  (a0_end_op.toInt ≠ 32 → a0_end_op.toInt ≠ 30 → a0_first.toInt = a0_second.toInt → R (1 : Int32)) →
  (a0_end_op.toInt = 32 → R (0 : Int32)) →
  R o1
