theorem dr_cJx4a65c_init_da8c8_0 : decode cJx4a65c_init_da8c8 0 = .ok (.aload_n 0, 1) := by decide +kernel
theorem dr_cJx4a65c_init_da8c8_1 : decode cJx4a65c_init_da8c8 1 = .ok (.invokespecial 1, 3) := by decide +kernel
theorem wr_7_8 : (Jvm.Cond.methodLink "java/util/ArrayList" (1 : Nat) ({ cls := "java/util/AbstractList", name := "<init>", desc := "()V" } : Jvm.MethodName)) ∈ gw := gw_7 8 rfl rfl
theorem wr_1_17 : (Jvm.Cond.initialized "java/util/AbstractList") ∈ gw := gw_1 17 rfl rfl
theorem wr_7_10 : (Jvm.Cond.code ({ cls := "java/util/AbstractList", name := "<init>", desc := "()V" } : Jvm.MethodName) prog_42_method_1_code (1 : Nat) (Option.none : Option Jvm.ClassFile.FieldType)) ∈ gw := gw_7 10 rfl rfl
theorem wr_7_9 : (Jvm.Cond.instanceMethod ({ cls := "java/util/AbstractList", name := "<init>", desc := "()V" } : Jvm.MethodName)) ∈ gw := gw_7 9 rfl rfl
theorem dr_cJx4a65c_init_da8c8_4 : decode cJx4a65c_init_da8c8 4 = .ok (.aload_n 0, 1) := by decide +kernel
theorem dr_cJx4a65c_init_da8c8_5 : decode cJx4a65c_init_da8c8 5 = .ok (.getstatic 39, 3) := by decide +kernel
theorem dr_cJx4a65c_init_da8c8_8 : decode cJx4a65c_init_da8c8 8 = .ok (.putfield 9, 3) := by decide +kernel
theorem dr_cJx4a65c_init_da8c8_11 : decode cJx4a65c_init_da8c8 11 = .ok (.return_, 1) := by decide +kernel
abbrev ky_1600_ArrayList_init : gKey := (cJx4a65c_init_da8c8, 1, "java/util/ArrayList", none, [], "<init>", fun _ _ => True)
def pp_1600_ArrayList_init (D : va_G) (I : FieldType → ClassId) (P1595 : List Nat) (F1596 : Nat → va_E) (q1597 : Nat) (p1598 : Int32) (p1599 : Int32) : Option Value → va_W → Nat → Nat → Prop := fun r w dc ds => ∃ (F1643 : Nat → va_E), r = none ∧ w = va_pl P1595 F1643 ∧ rFr [q1597] P1595 F1596 F1643 ∧ F1643 q1597 = .inr (4, [.int 0, .ref (D.2 1002 1), .int p1599]) ∧ dc ≤ 0 ∧ ds ≤ 0
set_option maxRecDepth 100000 in
set_option maxHeartbeats 4000000 in
theorem cp_1600_ArrayList_init (l : Launch) (hl0 : l.stackTraces = false) (D : va_G) (I : FieldType → ClassId) (P1595 : List Nat) (F1596 : Nat → va_E) (q1597 : Nat) (p1598 : Int32) (p1599 : Int32) (hmq1597 : q1597 ∈ P1595) (heq1597 : F1596 q1597 = .inr (4, [.int p1598, .null, .int p1599])) : CtA (gV D I) l yJx4a65c_init_da8c8 cJx4a65c_init_da8c8 1 none 3 52 0 0 [.ref q1597] (va_pl P1595 F1596) (pp_1600_ArrayList_init D I P1595 F1596 q1597 p1598 p1599) gNA := by
  refine CtA_ofF hl0 (by decide +kernel) (Nat.le_of_ble_eq_true rfl) ?_
  have bp1598 := gB_any p1598
  have bp1599 := gB_any p1599
  refine G_aload_n 0 dr_cJx4a65c_init_da8c8_0 rfl ?_
  refine Gw_callI (As := []) (gV_ok D I) (cp_1606_AbstractList_init l hl0 D I P1595 F1596 q1597 p1598 p1599 hmq1597 heq1597) dr_cJx4a65c_init_da8c8_1 ⟨wr_7_8, wr_1_17, wr_7_10, by decide, rfl, (Nat.le_of_ble_eq_true rfl), (Nat.le_of_ble_eq_true rfl)⟩ wr_7_9 rfl (show 0 + 0 ≤ 0 by first | omega | decide) (show 0 + 0 ≤ 0 by first | omega | decide) (Nat.le_of_ble_eq_true rfl) (fun r1628 w1629 dc1625 ds1626 hp1627 => ?_)
  obtain ⟨F1630, rfl, rfl, hfr1632, he1633, hdc, hds⟩ := hp1627
  have hfr1634 : rFr [q1597] P1595 F1596 F1630 := rFr_call (rSub_rf (P := P1595)) (rFr_rf (W := []) (P := P1595) (F := F1596)) hfr1632 (fun b hb hn => ⟨nm_n, (nm_c (fun e => hn (e ▸ List.mem_cons_self)) nm_n)⟩)
  change G _ _ _ _ _ _ _ _ _ _ _
  refine G_widen (cs' := 0) (sl' := 0) (by omega) (by omega) ?_
  refine G_aload_n 0 dr_cJx4a65c_init_da8c8_4 rfl ?_
  refine G_gets dr_cJx4a65c_init_da8c8_5 wr_7_15 gr_de (fun x1636 hx1635 => ?_)
  subst hx1635
  refine Gp_put 1 hmq1597 he1633 dr_cJx4a65c_init_da8c8_8 (gk_Jx4a65c D I) (Nat.le_of_ble_eq_true rfl) wr_7_17 rfl rfl rfl (Nat.le_of_ble_eq_true rfl) (fun F1637 e1638 n1639 => ?_)
  have he1640 : F1637 q1597 = .inr (4, [.int 0, .ref (D.2 1002 1), .int p1599]) := e1638
  have hfr1641 : rFr [q1597] P1595 F1596 F1637 := rFr_put' List.mem_cons_self hfr1634 n1639
  exact G_vretA dr_cJx4a65c_init_da8c8_11 rfl (Nat.le_of_ble_eq_true rfl) (Nat.le_of_ble_eq_true rfl) ⟨F1637, rfl, rfl, hfr1641, he1640, (Nat.le_of_ble_eq_true rfl), (Nat.le_of_ble_eq_true rfl)⟩
