abbrev ky_1441_Live_enterBehind : gKey := (cX5_enterBehind, 8, yX5_enterBehind.cls, none, [], yX5_enterBehind.name, fun _ _ => True)
abbrev po_1441_Live_enterBehind (I : FieldType → ClassId) (q1404 : Nat) (q1405 : Nat) (q1406 : Nat) (q1407 : Nat) (q1408 : Nat) (q1409 : Nat) (q1410 : Nat) (q1411 : Nat) (q1412 : Nat) (q1413 : Nat) (q1414 : Nat) (q1415 : Nat) (q1416 : Nat) (q1417 : Nat) (q1418 : Nat) (p1419 : Int32) (p1420 : Int32) (p1421 : Int32) (p1422 : Int32) (p1423 : Int32) (p1424 : Int32) (p1425 : Int32) (f1426 : Nat → Int64) (f1427 : Nat → Int64) (f1428 : Nat → Int64) (f1429 : Nat → Int64) (f1430 : Nat → Int32) (f1431 : Nat → Int32) (f1432 : Nat → Int32) (f1433 : Nat → Int32) (f1434 : Nat → Int32) (f1435 : Nat → Int32) (f1436 : Nat → Int32) (f1437 : Nat → Int32) (f1438 : Nat → Int32) : Option Value → va_W → Prop := fun r w => ∃ (f1868 : Nat → Int64), r = none ∧ w = [(q1404, .inr (10, [.ref q1406, .ref q1407, .ref q1408, .ref q1409, .int p1420, .int p1421, .int p1422])), (q1405, .inr (5, [.ref q1410, .ref q1411, .ref q1412, .ref q1413, .ref q1414, .ref q1415, .ref q1416, .ref q1417, .ref q1418, .int p1423, .int p1424, .int p1425])), (q1406, .inl (I .long, 480, .inr (.inl f1426))), (q1407, .inl (I .long, 480, .inr (.inl f1427))), (q1408, .inl (I .long, 480, .inr (.inl f1428))), (q1409, .inl (I .long, 12, .inr (.inl f1868))), (q1410, .inl (I .int, 40, .inl f1430)), (q1411, .inl (I .int, 40, .inl f1431)), (q1412, .inl (I .int, 40, .inl f1432)), (q1413, .inl (I .int, 200, .inl f1433)), (q1414, .inl (I .int, 200, .inl f1434)), (q1415, .inl (I .int, 200, .inl f1435)), (q1416, .inl (I .int, 200, .inl f1436)), (q1417, .inl (I .int, 200, .inl f1437)), (q1418, .inl (I .int, 200, .inl f1438))] ∧ lb_W f1868 (p1421.toInt) (p1421.toInt) (p1420.toInt)
set_option maxRecDepth 100000 in
set_option maxHeartbeats 4000000 in
theorem ct_1441_Live_enterBehind (l : Launch) (hl0 : l.stackTraces = false) (D : va_G) (I : FieldType → ClassId) (q1404 : Nat) (q1405 : Nat) (q1406 : Nat) (q1407 : Nat) (q1408 : Nat) (q1409 : Nat) (q1410 : Nat) (q1411 : Nat) (q1412 : Nat) (q1413 : Nat) (q1414 : Nat) (q1415 : Nat) (q1416 : Nat) (q1417 : Nat) (q1418 : Nat) (p1419 : Int32) (p1420 : Int32) (p1421 : Int32) (p1422 : Int32) (p1423 : Int32) (p1424 : Int32) (p1425 : Int32) (f1426 : Nat → Int64) (f1427 : Nat → Int64) (f1428 : Nat → Int64) (f1429 : Nat → Int64) (f1430 : Nat → Int32) (f1431 : Nat → Int32) (f1432 : Nat → Int32) (f1433 : Nat → Int32) (f1434 : Nat → Int32) (f1435 : Nat → Int32) (f1436 : Nat → Int32) (f1437 : Nat → Int32) (f1438 : Nat → Int32) (bp1419 : gB p1419 0 39) (bp1420 : gB p1420 0 720) (bp1421 : gB p1421 0 12) (bp1422 : gB p1422 0 1) (bp1423 : gB p1423 0 40) (bp1424 : gB p1424 0 200) (bp1425 : gB p1425 0 1) (bf1430 : gF f1430 0 200) (bf1433 : gF f1433 0 21) (x1439 : lb_W f1426 (p1423.toInt * p1421.toInt) (p1421.toInt) (p1420.toInt)) (x1440 : p1421.toInt = (p1420.toInt + 63) / 64) : Ct (gV D I) l yX5_enterBehind cX5_enterBehind 8 none 0 0 0 0 [.ref q1404, .ref q1405, .int p1419] [(q1404, .inr (10, [.ref q1406, .ref q1407, .ref q1408, .ref q1409, .int p1420, .int p1421, .int p1422])), (q1405, .inr (5, [.ref q1410, .ref q1411, .ref q1412, .ref q1413, .ref q1414, .ref q1415, .ref q1416, .ref q1417, .ref q1418, .int p1423, .int p1424, .int p1425])), (q1406, .inl (I .long, 480, .inr (.inl f1426))), (q1407, .inl (I .long, 480, .inr (.inl f1427))), (q1408, .inl (I .long, 480, .inr (.inl f1428))), (q1409, .inl (I .long, 12, .inr (.inl f1429))), (q1410, .inl (I .int, 40, .inl f1430)), (q1411, .inl (I .int, 40, .inl f1431)), (q1412, .inl (I .int, 40, .inl f1432)), (q1413, .inl (I .int, 200, .inl f1433)), (q1414, .inl (I .int, 200, .inl f1434)), (q1415, .inl (I .int, 200, .inl f1435)), (q1416, .inl (I .int, 200, .inl f1436)), (q1417, .inl (I .int, 200, .inl f1437)), (q1418, .inl (I .int, 200, .inl f1438))] (po_1441_Live_enterBehind I q1404 q1405 q1406 q1407 q1408 q1409 q1410 q1411 q1412 q1413 q1414 q1415 q1416 q1417 q1418 p1419 p1420 p1421 p1422 p1423 p1424 p1425 f1426 f1427 f1428 f1429 f1430 f1431 f1432 f1433 f1434 f1435 f1436 f1437 f1438) gN := by
  refine Ct_of hl0 (by decide) (Nat.le_of_ble_eq_true rfl) ?_
  refine G_aload_n 1 d_cX5_enterBehind_0 rfl ?_
  refine G_getfN 1 1 d_cX5_enterBehind_1 rfl (gk_X0 D I) (Nat.le_of_ble_eq_true rfl) (fun _ _ _ h => gn_w 9 rfl h) rfl ?_
  refine G_iload_n 2 d_cX5_enterBehind_4 rfl ?_
  refine G_iald 7 0 d_cX5_enterBehind_5 rfl rfl (gB_in bp1419 (by decide) (by decide)) (G_nam fun z1442 hz1442 => ?_)
  have bz1442 : gB z1442 (-2147483648) 2147483647 := gB_any z1442
  refine G_istore_n (L' := [(3, .int z1442), (0, .ref q1404), (1, .ref q1405), (2, .int p1419)]) d_cX5_enterBehind_6 (Nat.le_of_ble_eq_true rfl) rfl ?_
  refine G_aload_n 2 d_cX5_enterBehind_7 rfl ?_
  refine G_getfN 1 2 d_cX5_enterBehind_8 rfl (gk_X0 D I) (Nat.le_of_ble_eq_true rfl) (fun _ _ _ h => gn_w 13 rfl h) rfl ?_
  refine G_iload_n 3 d_cX5_enterBehind_11 rfl ?_
  refine G_iald 8 0 d_cX5_enterBehind_12 rfl rfl (gB_in bp1419 (by decide) (by decide)) (G_nam fun z1443 hz1443 => ?_)
  have bz1443 : gB z1443 (-2147483648) 2147483647 := gB_any z1443
  refine G_istore (L' := [(4, .int z1443), (3, .int z1442), (0, .ref q1404), (1, .ref q1405), (2, .int p1419)]) d_cX5_enterBehind_13 (Nat.le_of_ble_eq_true rfl) rfl ?_
  refine G_iconst 0 d_cX5_enterBehind_15 (by decide +kernel) ?_
  refine G_istore (L' := [(5, .int 0), (4, .int z1443), (3, .int z1442), (0, .ref q1404), (1, .ref q1405), (2, .int p1419)]) d_cX5_enterBehind_16 (Nat.le_of_ble_eq_true rfl) rfl ?_
  have hlp18_1807 : ∀ (n18_1807 : Nat) (g1805 : Int32) (f1806 : Nat → Int64), gB g1805 0 12 → lb_W f1806 (g1805.toInt) (p1421.toInt) (p1420.toInt) → ((13 : Int) - g1805.toInt).toNat < n18_1807 → G (gV D I) l (gRm 0 0 0 0) (gM (gV D I) (po_1441_Live_enterBehind I q1404 q1405 q1406 q1407 q1408 q1409 q1410 q1411 q1412 q1413 q1414 q1415 q1416 q1417 q1418 p1419 p1420 p1421 p1422 p1423 p1424 p1425 f1426 f1427 f1428 f1429 f1430 f1431 f1432 f1433 f1434 f1435 f1436 f1437 f1438) gN 0 0) ky_1441_Live_enterBehind 18 [(5, .int g1805), (4, .int z1443), (3, .int z1442), (0, .ref q1404), (1, .ref q1405), (2, .int p1419)] [] [(q1404, .inr (10, [.ref q1406, .ref q1407, .ref q1408, .ref q1409, .int p1420, .int p1421, .int p1422])), (q1405, .inr (5, [.ref q1410, .ref q1411, .ref q1412, .ref q1413, .ref q1414, .ref q1415, .ref q1416, .ref q1417, .ref q1418, .int p1423, .int p1424, .int p1425])), (q1406, .inl (I .long, 480, .inr (.inl f1426))), (q1407, .inl (I .long, 480, .inr (.inl f1427))), (q1408, .inl (I .long, 480, .inr (.inl f1428))), (q1409, .inl (I .long, 12, .inr (.inl f1806))), (q1410, .inl (I .int, 40, .inl f1430)), (q1411, .inl (I .int, 40, .inl f1431)), (q1412, .inl (I .int, 40, .inl f1432)), (q1413, .inl (I .int, 200, .inl f1433)), (q1414, .inl (I .int, 200, .inl f1434)), (q1415, .inl (I .int, 200, .inl f1435)), (q1416, .inl (I .int, 200, .inl f1436)), (q1417, .inl (I .int, 200, .inl f1437)), (q1418, .inl (I .int, 200, .inl f1438))] 0 0 := by
    intro n18_1807
    induction n18_1807 with
    | zero => intro g1805 f1806 bg1805 x1807 hm18_1807; exact absurd hm18_1807 (Nat.not_lt_zero _)
    | succ n18_1807 ih18_1807 =>
      intro g1805 f1806 bg1805 x1807 hm18_1807
      refine G_iload 0 d_cX5_enterBehind_18 rfl ?_
      refine G_aload_n 3 d_cX5_enterBehind_20 rfl ?_
      refine G_getf 0 5 d_cX5_enterBehind_21 rfl (gk_X5 D I) (Nat.le_of_ble_eq_true rfl) w_2_29 rfl ?_
      refine G_icmp_ge 109 d_cX5_enterBehind_24 (by decide +kernel) (fun hc1808 => ?_) (fun hc1808 => ?_)
      · have r1809 : p1421.toInt ≤ g1805.toInt := gC_le hc1808
        exact G_vret d_cX5_enterBehind_109 rfl (Nat.le_of_ble_eq_true rfl) (Nat.le_of_ble_eq_true rfl) ⟨f1806, rfl, rfl, (lb_Wle x1807 (by omega))⟩
      · have r1810 : g1805.toInt < p1421.toInt := gC_nle hc1808
        have bg1805' : gB g1805 0 11 := ⟨by omega, by omega⟩
        have bp1421' : gB p1421 1 12 := ⟨by omega, by omega⟩
        refine G_iload_n 2 d_cX5_enterBehind_27 rfl ?_
        refine G_if_lt 56 d_cX5_enterBehind_28 (by decide +kernel) (fun hc1811 => ?_) (fun hc1811 => ?_)
        · have r1812 : z1442.toInt < 0 := gj_lt hc1811 (show Int32.toInt 0 = 0 by decide)
          have bz1442' : gB z1442 (-2147483648) (-1) := ⟨by omega, by omega⟩
          refine G_lconst 0 d_cX5_enterBehind_56 rfl ?_
          refine G_lstore (L' := [(6, .long 0), (5, .int g1805), (4, .int z1443), (3, .int z1442), (0, .ref q1404), (1, .ref q1405), (2, .int p1419)]) d_cX5_enterBehind_57 (Nat.le_of_ble_eq_true rfl) rfl ?_
          refine G_aload_n 4 d_cX5_enterBehind_59 rfl ?_
          refine G_getf 0 3 d_cX5_enterBehind_60 rfl (gk_X5 D I) (Nat.le_of_ble_eq_true rfl) w_2_25 rfl ?_
          refine G_iload 1 d_cX5_enterBehind_63 rfl ?_
          refine G_iload 2 d_cX5_enterBehind_65 rfl ?_
          refine G_if_lt 100 d_cX5_enterBehind_67 (by decide +kernel) (fun hc1813 => ?_) (fun hc1813 => ?_)
          · have r1814 : z1443.toInt < 0 := gj_lt hc1813 (show Int32.toInt 0 = 0 by decide)
            have bz1443' : gB z1443 (-2147483648) (-1) := ⟨by omega, by omega⟩
            refine G_lload 0 d_cX5_enterBehind_100 rfl ?_
            refine G_lastN 5 2 d_cX5_enterBehind_102 rfl rfl (gB_in bg1805' (by decide) (by decide)) (fun f1815 hf1815 => ?_)
            refine G_ws (ws' := [(q1404, .inr (10, [.ref q1406, .ref q1407, .ref q1408, .ref q1409, .int p1420, .int p1421, .int p1422])), (q1405, .inr (5, [.ref q1410, .ref q1411, .ref q1412, .ref q1413, .ref q1414, .ref q1415, .ref q1416, .ref q1417, .ref q1418, .int p1423, .int p1424, .int p1425])), (q1406, .inl (I .long, 480, .inr (.inl f1426))), (q1407, .inl (I .long, 480, .inr (.inl f1427))), (q1408, .inl (I .long, 480, .inr (.inl f1428))), (q1409, .inl (I .long, 12, .inr (.inl f1815))), (q1410, .inl (I .int, 40, .inl f1430)), (q1411, .inl (I .int, 40, .inl f1431)), (q1412, .inl (I .int, 40, .inl f1432)), (q1413, .inl (I .int, 200, .inl f1433)), (q1414, .inl (I .int, 200, .inl f1434)), (q1415, .inl (I .int, 200, .inl f1435)), (q1416, .inl (I .int, 200, .inl f1436)), (q1417, .inl (I .int, 200, .inl f1437)), (q1418, .inl (I .int, 200, .inl f1438))]) (cs' := 0) (sl' := 0) rfl rfl rfl ?_
            have wf1815 : lb_W f1815 (g1805.toInt + 1) (p1421.toInt) (p1420.toInt) := lb_Wext hf1815 x1807 (by omega) (lb_Mod0 (by omega) (by omega)) lb_Q0
            obtain ⟨z1816, hz1816⟩ : ∃ z : Int32, z = g1805 + Int32.ofInt 1 := ⟨_, rfl⟩
            have ez1816 : z1816.toInt = g1805.toInt + 1 := gI_inc hz1816 (by decide) bg1805' (by decide) (by decide)
            have bz1816 : gB z1816 1 12 := ⟨by omega, by omega⟩
            refine G_iinc (L' := [(5, .int z1816), (6, .long 0), (4, .int z1443), (3, .int z1442), (0, .ref q1404), (1, .ref q1405), (2, .int p1419)]) z1816 1 d_cX5_enterBehind_103 rfl hz1816.symm (Nat.le_of_ble_eq_true rfl) rfl ?_
            refine G_goto 18 d_cX5_enterBehind_106 (by decide +kernel) ?_
            refine G_lv (L' := [(5, .int z1816), (4, .int z1443), (3, .int z1442), (0, .ref q1404), (1, .ref q1405), (2, .int p1419)]) [0, 2, 3, 4, 5, 6] rfl ?_
            exact ih18_1807 z1816 f1815 (gB_w bz1816 (by decide) (by decide)) (lb_Wle wf1815 (by omega)) (by omega)
          · have r1817 : 0 ≤ z1443.toInt := gj_nlt hc1813 (show Int32.toInt 0 = 0 by decide)
            have bz1443' : gB z1443 0 2147483647 := ⟨by omega, by omega⟩
            refine G_iload 2 d_cX5_enterBehind_70 rfl ?_
            refine G_aload_n 5 d_cX5_enterBehind_72 rfl ?_
            refine G_getfN 1 9 d_cX5_enterBehind_73 rfl (gk_X0 D I) (Nat.le_of_ble_eq_true rfl) (fun _ _ _ h => gn_w 37 rfl h) rfl ?_
            refine G_icmp_ge 100 d_cX5_enterBehind_76 (by decide +kernel) (fun hc1818 => ?_) (fun hc1818 => ?_)
            · have r1819 : p1423.toInt ≤ z1443.toInt := gC_le hc1818
              refine G_lload 0 d_cX5_enterBehind_100 rfl ?_
              refine G_lastN 5 2 d_cX5_enterBehind_102 rfl rfl (gB_in bg1805' (by decide) (by decide)) (fun f1820 hf1820 => ?_)
              refine G_ws (ws' := [(q1404, .inr (10, [.ref q1406, .ref q1407, .ref q1408, .ref q1409, .int p1420, .int p1421, .int p1422])), (q1405, .inr (5, [.ref q1410, .ref q1411, .ref q1412, .ref q1413, .ref q1414, .ref q1415, .ref q1416, .ref q1417, .ref q1418, .int p1423, .int p1424, .int p1425])), (q1406, .inl (I .long, 480, .inr (.inl f1426))), (q1407, .inl (I .long, 480, .inr (.inl f1427))), (q1408, .inl (I .long, 480, .inr (.inl f1428))), (q1409, .inl (I .long, 12, .inr (.inl f1820))), (q1410, .inl (I .int, 40, .inl f1430)), (q1411, .inl (I .int, 40, .inl f1431)), (q1412, .inl (I .int, 40, .inl f1432)), (q1413, .inl (I .int, 200, .inl f1433)), (q1414, .inl (I .int, 200, .inl f1434)), (q1415, .inl (I .int, 200, .inl f1435)), (q1416, .inl (I .int, 200, .inl f1436)), (q1417, .inl (I .int, 200, .inl f1437)), (q1418, .inl (I .int, 200, .inl f1438))]) (cs' := 0) (sl' := 0) rfl rfl rfl ?_
              have wf1820 : lb_W f1820 (g1805.toInt + 1) (p1421.toInt) (p1420.toInt) := lb_Wext hf1820 x1807 (by omega) (lb_Mod0 (by omega) (by omega)) lb_Q0
              obtain ⟨z1821, hz1821⟩ : ∃ z : Int32, z = g1805 + Int32.ofInt 1 := ⟨_, rfl⟩
              have ez1821 : z1821.toInt = g1805.toInt + 1 := gI_inc hz1821 (by decide) bg1805' (by decide) (by decide)
              have bz1821 : gB z1821 1 12 := ⟨by omega, by omega⟩
              refine G_iinc (L' := [(5, .int z1821), (6, .long 0), (4, .int z1443), (3, .int z1442), (0, .ref q1404), (1, .ref q1405), (2, .int p1419)]) z1821 1 d_cX5_enterBehind_103 rfl hz1821.symm (Nat.le_of_ble_eq_true rfl) rfl ?_
              refine G_goto 18 d_cX5_enterBehind_106 (by decide +kernel) ?_
              refine G_lv (L' := [(5, .int z1821), (4, .int z1443), (3, .int z1442), (0, .ref q1404), (1, .ref q1405), (2, .int p1419)]) [0, 2, 3, 4, 5, 6] rfl ?_
              exact ih18_1807 z1821 f1820 (gB_w bz1821 (by decide) (by decide)) (lb_Wle wf1820 (by omega)) (by omega)
            · have r1822 : z1443.toInt < p1423.toInt := gC_nle hc1818
              have bz1443'' : gB z1443 0 39 := ⟨by omega, by omega⟩
              have bp1423' : gB p1423 1 40 := ⟨by omega, by omega⟩
              refine G_lload 0 d_cX5_enterBehind_79 rfl ?_
              refine G_aload_n 4 d_cX5_enterBehind_81 rfl ?_
              refine G_getf 0 0 d_cX5_enterBehind_82 rfl (gk_X5 D I) (Nat.le_of_ble_eq_true rfl) w_2_22 rfl ?_
              refine G_iload 2 d_cX5_enterBehind_85 rfl ?_
              refine G_aload_n 4 d_cX5_enterBehind_87 rfl ?_
              refine G_getf 0 5 d_cX5_enterBehind_88 rfl (gk_X5 D I) (Nat.le_of_ble_eq_true rfl) w_2_29 rfl ?_
              refine G_imul d_cX5_enterBehind_91 (G_nam fun z1823 hz1823 => ?_)
              have ez1823 : z1823.toInt = z1443.toInt * p1421.toInt := by rw [gI_mul hz1823 bz1443'' bp1421' (by decide) (by decide) (by decide)]
              have bz1823 : gB z1823 0 468 := gB_mul hz1823 bz1443'' bp1421' (by decide) (by decide) (by decide) (by decide)
              refine G_iload 1 d_cX5_enterBehind_92 rfl ?_
              refine G_iadd d_cX5_enterBehind_94 (G_nam fun z1824 hz1824 => ?_)
              have ez1824 : z1824.toInt = z1823.toInt + g1805.toInt := by rw [gI_add hz1824 bz1823 bg1805' (by decide) (by decide)]
              have bz1824 : gB z1824 0 479 := gB_add (gI_add hz1824 bz1823 bg1805' (by decide) (by decide)) bz1823 bg1805' (by decide) (by decide)
              refine G_lald 2 2 d_cX5_enterBehind_95 rfl rfl (gB_in bz1824 (by decide) (by decide)) (G_namL fun u1825 hu1825 => ?_)
              have qu1825 : lb_Q u1825 (p1420.toInt - 64 * g1805.toInt) := lb_Wld hu1825 x1439 (by omega) (lb_Lt1 ez1824 ez1823 (by omega) (by omega) (by omega)) (lb_Mod1 ez1824 ez1823 (by omega) (by omega))
              refine G_lor d_cX5_enterBehind_96 (G_namL fun u1826 hu1826 => ?_)
              have qu1826 : lb_Q u1826 (p1420.toInt - 64 * g1805.toInt) := lb_Qor hu1826 lb_Q0 qu1825
              refine G_goto 102 d_cX5_enterBehind_97 (by decide +kernel) ?_
              refine G_lastN 5 2 d_cX5_enterBehind_102 rfl rfl (gB_in bg1805' (by decide) (by decide)) (fun f1827 hf1827 => ?_)
              refine G_ws (ws' := [(q1404, .inr (10, [.ref q1406, .ref q1407, .ref q1408, .ref q1409, .int p1420, .int p1421, .int p1422])), (q1405, .inr (5, [.ref q1410, .ref q1411, .ref q1412, .ref q1413, .ref q1414, .ref q1415, .ref q1416, .ref q1417, .ref q1418, .int p1423, .int p1424, .int p1425])), (q1406, .inl (I .long, 480, .inr (.inl f1426))), (q1407, .inl (I .long, 480, .inr (.inl f1427))), (q1408, .inl (I .long, 480, .inr (.inl f1428))), (q1409, .inl (I .long, 12, .inr (.inl f1827))), (q1410, .inl (I .int, 40, .inl f1430)), (q1411, .inl (I .int, 40, .inl f1431)), (q1412, .inl (I .int, 40, .inl f1432)), (q1413, .inl (I .int, 200, .inl f1433)), (q1414, .inl (I .int, 200, .inl f1434)), (q1415, .inl (I .int, 200, .inl f1435)), (q1416, .inl (I .int, 200, .inl f1436)), (q1417, .inl (I .int, 200, .inl f1437)), (q1418, .inl (I .int, 200, .inl f1438))]) (cs' := 0) (sl' := 0) rfl rfl rfl ?_
              have wf1827 : lb_W f1827 (g1805.toInt + 1) (p1421.toInt) (p1420.toInt) := lb_Wext hf1827 x1807 (by omega) (lb_Mod0 (by omega) (by omega)) qu1826
              obtain ⟨z1828, hz1828⟩ : ∃ z : Int32, z = g1805 + Int32.ofInt 1 := ⟨_, rfl⟩
              have ez1828 : z1828.toInt = g1805.toInt + 1 := gI_inc hz1828 (by decide) bg1805' (by decide) (by decide)
              have bz1828 : gB z1828 1 12 := ⟨by omega, by omega⟩
              refine G_iinc (L' := [(5, .int z1828), (6, .long 0), (4, .int z1443), (3, .int z1442), (0, .ref q1404), (1, .ref q1405), (2, .int p1419)]) z1828 1 d_cX5_enterBehind_103 rfl hz1828.symm (Nat.le_of_ble_eq_true rfl) rfl ?_
              refine G_goto 18 d_cX5_enterBehind_106 (by decide +kernel) ?_
              refine G_lv (L' := [(5, .int z1828), (4, .int z1443), (3, .int z1442), (0, .ref q1404), (1, .ref q1405), (2, .int p1419)]) [0, 2, 3, 4, 5, 6] rfl ?_
              exact ih18_1807 z1828 f1827 (gB_w bz1828 (by decide) (by decide)) (lb_Wle wf1827 (by omega)) (by omega)
        · have r1829 : 0 ≤ z1442.toInt := gj_nlt hc1811 (show Int32.toInt 0 = 0 by decide)
          have bz1442' : gB z1442 0 2147483647 := ⟨by omega, by omega⟩
          refine G_iload_n 2 d_cX5_enterBehind_31 rfl ?_
          refine G_aload_n 4 d_cX5_enterBehind_32 rfl ?_
          refine G_getfN 1 9 d_cX5_enterBehind_33 rfl (gk_X0 D I) (Nat.le_of_ble_eq_true rfl) (fun _ _ _ h => gn_w 37 rfl h) rfl ?_
          refine G_icmp_ge 56 d_cX5_enterBehind_36 (by decide +kernel) (fun hc1830 => ?_) (fun hc1830 => ?_)
          · have r1831 : p1423.toInt ≤ z1442.toInt := gC_le hc1830
            refine G_lconst 0 d_cX5_enterBehind_56 rfl ?_
            refine G_lstore (L' := [(6, .long 0), (5, .int g1805), (4, .int z1443), (3, .int z1442), (0, .ref q1404), (1, .ref q1405), (2, .int p1419)]) d_cX5_enterBehind_57 (Nat.le_of_ble_eq_true rfl) rfl ?_
            refine G_aload_n 4 d_cX5_enterBehind_59 rfl ?_
            refine G_getf 0 3 d_cX5_enterBehind_60 rfl (gk_X5 D I) (Nat.le_of_ble_eq_true rfl) w_2_25 rfl ?_
            refine G_iload 1 d_cX5_enterBehind_63 rfl ?_
            refine G_iload 2 d_cX5_enterBehind_65 rfl ?_
            refine G_if_lt 100 d_cX5_enterBehind_67 (by decide +kernel) (fun hc1832 => ?_) (fun hc1832 => ?_)
            · have r1833 : z1443.toInt < 0 := gj_lt hc1832 (show Int32.toInt 0 = 0 by decide)
              have bz1443' : gB z1443 (-2147483648) (-1) := ⟨by omega, by omega⟩
              refine G_lload 0 d_cX5_enterBehind_100 rfl ?_
              refine G_lastN 5 2 d_cX5_enterBehind_102 rfl rfl (gB_in bg1805' (by decide) (by decide)) (fun f1834 hf1834 => ?_)
              refine G_ws (ws' := [(q1404, .inr (10, [.ref q1406, .ref q1407, .ref q1408, .ref q1409, .int p1420, .int p1421, .int p1422])), (q1405, .inr (5, [.ref q1410, .ref q1411, .ref q1412, .ref q1413, .ref q1414, .ref q1415, .ref q1416, .ref q1417, .ref q1418, .int p1423, .int p1424, .int p1425])), (q1406, .inl (I .long, 480, .inr (.inl f1426))), (q1407, .inl (I .long, 480, .inr (.inl f1427))), (q1408, .inl (I .long, 480, .inr (.inl f1428))), (q1409, .inl (I .long, 12, .inr (.inl f1834))), (q1410, .inl (I .int, 40, .inl f1430)), (q1411, .inl (I .int, 40, .inl f1431)), (q1412, .inl (I .int, 40, .inl f1432)), (q1413, .inl (I .int, 200, .inl f1433)), (q1414, .inl (I .int, 200, .inl f1434)), (q1415, .inl (I .int, 200, .inl f1435)), (q1416, .inl (I .int, 200, .inl f1436)), (q1417, .inl (I .int, 200, .inl f1437)), (q1418, .inl (I .int, 200, .inl f1438))]) (cs' := 0) (sl' := 0) rfl rfl rfl ?_
              have wf1834 : lb_W f1834 (g1805.toInt + 1) (p1421.toInt) (p1420.toInt) := lb_Wext hf1834 x1807 (by omega) (lb_Mod0 (by omega) (by omega)) lb_Q0
              obtain ⟨z1835, hz1835⟩ : ∃ z : Int32, z = g1805 + Int32.ofInt 1 := ⟨_, rfl⟩
              have ez1835 : z1835.toInt = g1805.toInt + 1 := gI_inc hz1835 (by decide) bg1805' (by decide) (by decide)
              have bz1835 : gB z1835 1 12 := ⟨by omega, by omega⟩
              refine G_iinc (L' := [(5, .int z1835), (6, .long 0), (4, .int z1443), (3, .int z1442), (0, .ref q1404), (1, .ref q1405), (2, .int p1419)]) z1835 1 d_cX5_enterBehind_103 rfl hz1835.symm (Nat.le_of_ble_eq_true rfl) rfl ?_
              refine G_goto 18 d_cX5_enterBehind_106 (by decide +kernel) ?_
              refine G_lv (L' := [(5, .int z1835), (4, .int z1443), (3, .int z1442), (0, .ref q1404), (1, .ref q1405), (2, .int p1419)]) [0, 2, 3, 4, 5, 6] rfl ?_
              exact ih18_1807 z1835 f1834 (gB_w bz1835 (by decide) (by decide)) (lb_Wle wf1834 (by omega)) (by omega)
            · have r1836 : 0 ≤ z1443.toInt := gj_nlt hc1832 (show Int32.toInt 0 = 0 by decide)
              have bz1443' : gB z1443 0 2147483647 := ⟨by omega, by omega⟩
              refine G_iload 2 d_cX5_enterBehind_70 rfl ?_
              refine G_aload_n 5 d_cX5_enterBehind_72 rfl ?_
              refine G_getfN 1 9 d_cX5_enterBehind_73 rfl (gk_X0 D I) (Nat.le_of_ble_eq_true rfl) (fun _ _ _ h => gn_w 37 rfl h) rfl ?_
              refine G_icmp_ge 100 d_cX5_enterBehind_76 (by decide +kernel) (fun hc1837 => ?_) (fun hc1837 => ?_)
              · have r1838 : p1423.toInt ≤ z1443.toInt := gC_le hc1837
                refine G_lload 0 d_cX5_enterBehind_100 rfl ?_
                refine G_lastN 5 2 d_cX5_enterBehind_102 rfl rfl (gB_in bg1805' (by decide) (by decide)) (fun f1839 hf1839 => ?_)
                refine G_ws (ws' := [(q1404, .inr (10, [.ref q1406, .ref q1407, .ref q1408, .ref q1409, .int p1420, .int p1421, .int p1422])), (q1405, .inr (5, [.ref q1410, .ref q1411, .ref q1412, .ref q1413, .ref q1414, .ref q1415, .ref q1416, .ref q1417, .ref q1418, .int p1423, .int p1424, .int p1425])), (q1406, .inl (I .long, 480, .inr (.inl f1426))), (q1407, .inl (I .long, 480, .inr (.inl f1427))), (q1408, .inl (I .long, 480, .inr (.inl f1428))), (q1409, .inl (I .long, 12, .inr (.inl f1839))), (q1410, .inl (I .int, 40, .inl f1430)), (q1411, .inl (I .int, 40, .inl f1431)), (q1412, .inl (I .int, 40, .inl f1432)), (q1413, .inl (I .int, 200, .inl f1433)), (q1414, .inl (I .int, 200, .inl f1434)), (q1415, .inl (I .int, 200, .inl f1435)), (q1416, .inl (I .int, 200, .inl f1436)), (q1417, .inl (I .int, 200, .inl f1437)), (q1418, .inl (I .int, 200, .inl f1438))]) (cs' := 0) (sl' := 0) rfl rfl rfl ?_
                have wf1839 : lb_W f1839 (g1805.toInt + 1) (p1421.toInt) (p1420.toInt) := lb_Wext hf1839 x1807 (by omega) (lb_Mod0 (by omega) (by omega)) lb_Q0
                obtain ⟨z1840, hz1840⟩ : ∃ z : Int32, z = g1805 + Int32.ofInt 1 := ⟨_, rfl⟩
                have ez1840 : z1840.toInt = g1805.toInt + 1 := gI_inc hz1840 (by decide) bg1805' (by decide) (by decide)
                have bz1840 : gB z1840 1 12 := ⟨by omega, by omega⟩
                refine G_iinc (L' := [(5, .int z1840), (6, .long 0), (4, .int z1443), (3, .int z1442), (0, .ref q1404), (1, .ref q1405), (2, .int p1419)]) z1840 1 d_cX5_enterBehind_103 rfl hz1840.symm (Nat.le_of_ble_eq_true rfl) rfl ?_
                refine G_goto 18 d_cX5_enterBehind_106 (by decide +kernel) ?_
                refine G_lv (L' := [(5, .int z1840), (4, .int z1443), (3, .int z1442), (0, .ref q1404), (1, .ref q1405), (2, .int p1419)]) [0, 2, 3, 4, 5, 6] rfl ?_
                exact ih18_1807 z1840 f1839 (gB_w bz1840 (by decide) (by decide)) (lb_Wle wf1839 (by omega)) (by omega)
              · have r1841 : z1443.toInt < p1423.toInt := gC_nle hc1837
                have bz1443'' : gB z1443 0 39 := ⟨by omega, by omega⟩
                have bp1423' : gB p1423 1 40 := ⟨by omega, by omega⟩
                refine G_lload 0 d_cX5_enterBehind_79 rfl ?_
                refine G_aload_n 4 d_cX5_enterBehind_81 rfl ?_
                refine G_getf 0 0 d_cX5_enterBehind_82 rfl (gk_X5 D I) (Nat.le_of_ble_eq_true rfl) w_2_22 rfl ?_
                refine G_iload 2 d_cX5_enterBehind_85 rfl ?_
                refine G_aload_n 4 d_cX5_enterBehind_87 rfl ?_
                refine G_getf 0 5 d_cX5_enterBehind_88 rfl (gk_X5 D I) (Nat.le_of_ble_eq_true rfl) w_2_29 rfl ?_
                refine G_imul d_cX5_enterBehind_91 (G_nam fun z1842 hz1842 => ?_)
                have ez1842 : z1842.toInt = z1443.toInt * p1421.toInt := by rw [gI_mul hz1842 bz1443'' bp1421' (by decide) (by decide) (by decide)]
                have bz1842 : gB z1842 0 468 := gB_mul hz1842 bz1443'' bp1421' (by decide) (by decide) (by decide) (by decide)
                refine G_iload 1 d_cX5_enterBehind_92 rfl ?_
                refine G_iadd d_cX5_enterBehind_94 (G_nam fun z1843 hz1843 => ?_)
                have ez1843 : z1843.toInt = z1842.toInt + g1805.toInt := by rw [gI_add hz1843 bz1842 bg1805' (by decide) (by decide)]
                have bz1843 : gB z1843 0 479 := gB_add (gI_add hz1843 bz1842 bg1805' (by decide) (by decide)) bz1842 bg1805' (by decide) (by decide)
                refine G_lald 2 2 d_cX5_enterBehind_95 rfl rfl (gB_in bz1843 (by decide) (by decide)) (G_namL fun u1844 hu1844 => ?_)
                have qu1844 : lb_Q u1844 (p1420.toInt - 64 * g1805.toInt) := lb_Wld hu1844 x1439 (by omega) (lb_Lt1 ez1843 ez1842 (by omega) (by omega) (by omega)) (lb_Mod1 ez1843 ez1842 (by omega) (by omega))
                refine G_lor d_cX5_enterBehind_96 (G_namL fun u1845 hu1845 => ?_)
                have qu1845 : lb_Q u1845 (p1420.toInt - 64 * g1805.toInt) := lb_Qor hu1845 lb_Q0 qu1844
                refine G_goto 102 d_cX5_enterBehind_97 (by decide +kernel) ?_
                refine G_lastN 5 2 d_cX5_enterBehind_102 rfl rfl (gB_in bg1805' (by decide) (by decide)) (fun f1846 hf1846 => ?_)
                refine G_ws (ws' := [(q1404, .inr (10, [.ref q1406, .ref q1407, .ref q1408, .ref q1409, .int p1420, .int p1421, .int p1422])), (q1405, .inr (5, [.ref q1410, .ref q1411, .ref q1412, .ref q1413, .ref q1414, .ref q1415, .ref q1416, .ref q1417, .ref q1418, .int p1423, .int p1424, .int p1425])), (q1406, .inl (I .long, 480, .inr (.inl f1426))), (q1407, .inl (I .long, 480, .inr (.inl f1427))), (q1408, .inl (I .long, 480, .inr (.inl f1428))), (q1409, .inl (I .long, 12, .inr (.inl f1846))), (q1410, .inl (I .int, 40, .inl f1430)), (q1411, .inl (I .int, 40, .inl f1431)), (q1412, .inl (I .int, 40, .inl f1432)), (q1413, .inl (I .int, 200, .inl f1433)), (q1414, .inl (I .int, 200, .inl f1434)), (q1415, .inl (I .int, 200, .inl f1435)), (q1416, .inl (I .int, 200, .inl f1436)), (q1417, .inl (I .int, 200, .inl f1437)), (q1418, .inl (I .int, 200, .inl f1438))]) (cs' := 0) (sl' := 0) rfl rfl rfl ?_
                have wf1846 : lb_W f1846 (g1805.toInt + 1) (p1421.toInt) (p1420.toInt) := lb_Wext hf1846 x1807 (by omega) (lb_Mod0 (by omega) (by omega)) qu1845
                obtain ⟨z1847, hz1847⟩ : ∃ z : Int32, z = g1805 + Int32.ofInt 1 := ⟨_, rfl⟩
                have ez1847 : z1847.toInt = g1805.toInt + 1 := gI_inc hz1847 (by decide) bg1805' (by decide) (by decide)
                have bz1847 : gB z1847 1 12 := ⟨by omega, by omega⟩
                refine G_iinc (L' := [(5, .int z1847), (6, .long 0), (4, .int z1443), (3, .int z1442), (0, .ref q1404), (1, .ref q1405), (2, .int p1419)]) z1847 1 d_cX5_enterBehind_103 rfl hz1847.symm (Nat.le_of_ble_eq_true rfl) rfl ?_
                refine G_goto 18 d_cX5_enterBehind_106 (by decide +kernel) ?_
                refine G_lv (L' := [(5, .int z1847), (4, .int z1443), (3, .int z1442), (0, .ref q1404), (1, .ref q1405), (2, .int p1419)]) [0, 2, 3, 4, 5, 6] rfl ?_
                exact ih18_1807 z1847 f1846 (gB_w bz1847 (by decide) (by decide)) (lb_Wle wf1846 (by omega)) (by omega)
          · have r1848 : z1442.toInt < p1423.toInt := gC_nle hc1830
            have bz1442'' : gB z1442 0 39 := ⟨by omega, by omega⟩
            have bp1423' : gB p1423 1 40 := ⟨by omega, by omega⟩
            refine G_aload_n 3 d_cX5_enterBehind_39 rfl ?_
            refine G_getf 0 0 d_cX5_enterBehind_40 rfl (gk_X5 D I) (Nat.le_of_ble_eq_true rfl) w_2_22 rfl ?_
            refine G_iload_n 2 d_cX5_enterBehind_43 rfl ?_
            refine G_aload_n 3 d_cX5_enterBehind_44 rfl ?_
            refine G_getf 0 5 d_cX5_enterBehind_45 rfl (gk_X5 D I) (Nat.le_of_ble_eq_true rfl) w_2_29 rfl ?_
            refine G_imul d_cX5_enterBehind_48 (G_nam fun z1849 hz1849 => ?_)
            have ez1849 : z1849.toInt = z1442.toInt * p1421.toInt := by rw [gI_mul hz1849 bz1442'' bp1421' (by decide) (by decide) (by decide)]
            have bz1849 : gB z1849 0 468 := gB_mul hz1849 bz1442'' bp1421' (by decide) (by decide) (by decide) (by decide)
            refine G_iload 0 d_cX5_enterBehind_49 rfl ?_
            refine G_iadd d_cX5_enterBehind_51 (G_nam fun z1850 hz1850 => ?_)
            have ez1850 : z1850.toInt = z1849.toInt + g1805.toInt := by rw [gI_add hz1850 bz1849 bg1805' (by decide) (by decide)]
            have bz1850 : gB z1850 0 479 := gB_add (gI_add hz1850 bz1849 bg1805' (by decide) (by decide)) bz1849 bg1805' (by decide) (by decide)
            refine G_lald 2 2 d_cX5_enterBehind_52 rfl rfl (gB_in bz1850 (by decide) (by decide)) (G_namL fun u1851 hu1851 => ?_)
            have qu1851 : lb_Q u1851 (p1420.toInt - 64 * g1805.toInt) := lb_Wld hu1851 x1439 (by omega) (lb_Lt1 ez1850 ez1849 (by omega) (by omega) (by omega)) (lb_Mod1 ez1850 ez1849 (by omega) (by omega))
            refine G_goto 57 d_cX5_enterBehind_53 (by decide +kernel) ?_
            refine G_lstore (L' := [(6, .long u1851), (5, .int g1805), (4, .int z1443), (3, .int z1442), (0, .ref q1404), (1, .ref q1405), (2, .int p1419)]) d_cX5_enterBehind_57 (Nat.le_of_ble_eq_true rfl) rfl ?_
            refine G_aload_n 4 d_cX5_enterBehind_59 rfl ?_
            refine G_getf 0 3 d_cX5_enterBehind_60 rfl (gk_X5 D I) (Nat.le_of_ble_eq_true rfl) w_2_25 rfl ?_
            refine G_iload 1 d_cX5_enterBehind_63 rfl ?_
            refine G_iload 2 d_cX5_enterBehind_65 rfl ?_
            refine G_if_lt 100 d_cX5_enterBehind_67 (by decide +kernel) (fun hc1852 => ?_) (fun hc1852 => ?_)
            · have r1853 : z1443.toInt < 0 := gj_lt hc1852 (show Int32.toInt 0 = 0 by decide)
              have bz1443' : gB z1443 (-2147483648) (-1) := ⟨by omega, by omega⟩
              refine G_lload 0 d_cX5_enterBehind_100 rfl ?_
              refine G_lastN 5 2 d_cX5_enterBehind_102 rfl rfl (gB_in bg1805' (by decide) (by decide)) (fun f1854 hf1854 => ?_)
              refine G_ws (ws' := [(q1404, .inr (10, [.ref q1406, .ref q1407, .ref q1408, .ref q1409, .int p1420, .int p1421, .int p1422])), (q1405, .inr (5, [.ref q1410, .ref q1411, .ref q1412, .ref q1413, .ref q1414, .ref q1415, .ref q1416, .ref q1417, .ref q1418, .int p1423, .int p1424, .int p1425])), (q1406, .inl (I .long, 480, .inr (.inl f1426))), (q1407, .inl (I .long, 480, .inr (.inl f1427))), (q1408, .inl (I .long, 480, .inr (.inl f1428))), (q1409, .inl (I .long, 12, .inr (.inl f1854))), (q1410, .inl (I .int, 40, .inl f1430)), (q1411, .inl (I .int, 40, .inl f1431)), (q1412, .inl (I .int, 40, .inl f1432)), (q1413, .inl (I .int, 200, .inl f1433)), (q1414, .inl (I .int, 200, .inl f1434)), (q1415, .inl (I .int, 200, .inl f1435)), (q1416, .inl (I .int, 200, .inl f1436)), (q1417, .inl (I .int, 200, .inl f1437)), (q1418, .inl (I .int, 200, .inl f1438))]) (cs' := 0) (sl' := 0) rfl rfl rfl ?_
              have wf1854 : lb_W f1854 (g1805.toInt + 1) (p1421.toInt) (p1420.toInt) := lb_Wext hf1854 x1807 (by omega) (lb_Mod0 (by omega) (by omega)) qu1851
              obtain ⟨z1855, hz1855⟩ : ∃ z : Int32, z = g1805 + Int32.ofInt 1 := ⟨_, rfl⟩
              have ez1855 : z1855.toInt = g1805.toInt + 1 := gI_inc hz1855 (by decide) bg1805' (by decide) (by decide)
              have bz1855 : gB z1855 1 12 := ⟨by omega, by omega⟩
              refine G_iinc (L' := [(5, .int z1855), (6, .long u1851), (4, .int z1443), (3, .int z1442), (0, .ref q1404), (1, .ref q1405), (2, .int p1419)]) z1855 1 d_cX5_enterBehind_103 rfl hz1855.symm (Nat.le_of_ble_eq_true rfl) rfl ?_
              refine G_goto 18 d_cX5_enterBehind_106 (by decide +kernel) ?_
              refine G_lv (L' := [(5, .int z1855), (4, .int z1443), (3, .int z1442), (0, .ref q1404), (1, .ref q1405), (2, .int p1419)]) [0, 2, 3, 4, 5, 6] rfl ?_
              exact ih18_1807 z1855 f1854 (gB_w bz1855 (by decide) (by decide)) (lb_Wle wf1854 (by omega)) (by omega)
            · have r1856 : 0 ≤ z1443.toInt := gj_nlt hc1852 (show Int32.toInt 0 = 0 by decide)
              have bz1443' : gB z1443 0 2147483647 := ⟨by omega, by omega⟩
              refine G_iload 2 d_cX5_enterBehind_70 rfl ?_
              refine G_aload_n 5 d_cX5_enterBehind_72 rfl ?_
              refine G_getfN 1 9 d_cX5_enterBehind_73 rfl (gk_X0 D I) (Nat.le_of_ble_eq_true rfl) (fun _ _ _ h => gn_w 37 rfl h) rfl ?_
              refine G_icmp_ge 100 d_cX5_enterBehind_76 (by decide +kernel) (fun hc1857 => ?_) (fun hc1857 => ?_)
              · have r1858 : p1423.toInt ≤ z1443.toInt := gC_le hc1857
                have bz1443'' : gB z1443 1 2147483647 := ⟨by omega, by omega⟩
                refine G_lload 0 d_cX5_enterBehind_100 rfl ?_
                refine G_lastN 5 2 d_cX5_enterBehind_102 rfl rfl (gB_in bg1805' (by decide) (by decide)) (fun f1859 hf1859 => ?_)
                refine G_ws (ws' := [(q1404, .inr (10, [.ref q1406, .ref q1407, .ref q1408, .ref q1409, .int p1420, .int p1421, .int p1422])), (q1405, .inr (5, [.ref q1410, .ref q1411, .ref q1412, .ref q1413, .ref q1414, .ref q1415, .ref q1416, .ref q1417, .ref q1418, .int p1423, .int p1424, .int p1425])), (q1406, .inl (I .long, 480, .inr (.inl f1426))), (q1407, .inl (I .long, 480, .inr (.inl f1427))), (q1408, .inl (I .long, 480, .inr (.inl f1428))), (q1409, .inl (I .long, 12, .inr (.inl f1859))), (q1410, .inl (I .int, 40, .inl f1430)), (q1411, .inl (I .int, 40, .inl f1431)), (q1412, .inl (I .int, 40, .inl f1432)), (q1413, .inl (I .int, 200, .inl f1433)), (q1414, .inl (I .int, 200, .inl f1434)), (q1415, .inl (I .int, 200, .inl f1435)), (q1416, .inl (I .int, 200, .inl f1436)), (q1417, .inl (I .int, 200, .inl f1437)), (q1418, .inl (I .int, 200, .inl f1438))]) (cs' := 0) (sl' := 0) rfl rfl rfl ?_
                have wf1859 : lb_W f1859 (g1805.toInt + 1) (p1421.toInt) (p1420.toInt) := lb_Wext hf1859 x1807 (by omega) (lb_Mod0 (by omega) (by omega)) qu1851
                obtain ⟨z1860, hz1860⟩ : ∃ z : Int32, z = g1805 + Int32.ofInt 1 := ⟨_, rfl⟩
                have ez1860 : z1860.toInt = g1805.toInt + 1 := gI_inc hz1860 (by decide) bg1805' (by decide) (by decide)
                have bz1860 : gB z1860 1 12 := ⟨by omega, by omega⟩
                refine G_iinc (L' := [(5, .int z1860), (6, .long u1851), (4, .int z1443), (3, .int z1442), (0, .ref q1404), (1, .ref q1405), (2, .int p1419)]) z1860 1 d_cX5_enterBehind_103 rfl hz1860.symm (Nat.le_of_ble_eq_true rfl) rfl ?_
                refine G_goto 18 d_cX5_enterBehind_106 (by decide +kernel) ?_
                refine G_lv (L' := [(5, .int z1860), (4, .int z1443), (3, .int z1442), (0, .ref q1404), (1, .ref q1405), (2, .int p1419)]) [0, 2, 3, 4, 5, 6] rfl ?_
                exact ih18_1807 z1860 f1859 (gB_w bz1860 (by decide) (by decide)) (lb_Wle wf1859 (by omega)) (by omega)
              · have r1861 : z1443.toInt < p1423.toInt := gC_nle hc1857
                have bz1443'' : gB z1443 0 39 := ⟨by omega, by omega⟩
                refine G_lload 0 d_cX5_enterBehind_79 rfl ?_
                refine G_aload_n 4 d_cX5_enterBehind_81 rfl ?_
                refine G_getf 0 0 d_cX5_enterBehind_82 rfl (gk_X5 D I) (Nat.le_of_ble_eq_true rfl) w_2_22 rfl ?_
                refine G_iload 2 d_cX5_enterBehind_85 rfl ?_
                refine G_aload_n 4 d_cX5_enterBehind_87 rfl ?_
                refine G_getf 0 5 d_cX5_enterBehind_88 rfl (gk_X5 D I) (Nat.le_of_ble_eq_true rfl) w_2_29 rfl ?_
                refine G_imul d_cX5_enterBehind_91 (G_nam fun z1862 hz1862 => ?_)
                have ez1862 : z1862.toInt = z1443.toInt * p1421.toInt := by rw [gI_mul hz1862 bz1443'' bp1421' (by decide) (by decide) (by decide)]
                have bz1862 : gB z1862 0 468 := gB_mul hz1862 bz1443'' bp1421' (by decide) (by decide) (by decide) (by decide)
                refine G_iload 1 d_cX5_enterBehind_92 rfl ?_
                refine G_iadd d_cX5_enterBehind_94 (G_nam fun z1863 hz1863 => ?_)
                have ez1863 : z1863.toInt = z1862.toInt + g1805.toInt := by rw [gI_add hz1863 bz1862 bg1805' (by decide) (by decide)]
                have bz1863 : gB z1863 0 479 := gB_add (gI_add hz1863 bz1862 bg1805' (by decide) (by decide)) bz1862 bg1805' (by decide) (by decide)
                refine G_lald 2 2 d_cX5_enterBehind_95 rfl rfl (gB_in bz1863 (by decide) (by decide)) (G_namL fun u1864 hu1864 => ?_)
                have qu1864 : lb_Q u1864 (p1420.toInt - 64 * g1805.toInt) := lb_Wld hu1864 x1439 (by omega) (lb_Lt1 ez1863 ez1862 (by omega) (by omega) (by omega)) (lb_Mod1 ez1863 ez1862 (by omega) (by omega))
                refine G_lor d_cX5_enterBehind_96 (G_namL fun u1865 hu1865 => ?_)
                have qu1865 : lb_Q u1865 (p1420.toInt - 64 * g1805.toInt) := lb_Qor hu1865 qu1851 qu1864
                refine G_goto 102 d_cX5_enterBehind_97 (by decide +kernel) ?_
                refine G_lastN 5 2 d_cX5_enterBehind_102 rfl rfl (gB_in bg1805' (by decide) (by decide)) (fun f1866 hf1866 => ?_)
                refine G_ws (ws' := [(q1404, .inr (10, [.ref q1406, .ref q1407, .ref q1408, .ref q1409, .int p1420, .int p1421, .int p1422])), (q1405, .inr (5, [.ref q1410, .ref q1411, .ref q1412, .ref q1413, .ref q1414, .ref q1415, .ref q1416, .ref q1417, .ref q1418, .int p1423, .int p1424, .int p1425])), (q1406, .inl (I .long, 480, .inr (.inl f1426))), (q1407, .inl (I .long, 480, .inr (.inl f1427))), (q1408, .inl (I .long, 480, .inr (.inl f1428))), (q1409, .inl (I .long, 12, .inr (.inl f1866))), (q1410, .inl (I .int, 40, .inl f1430)), (q1411, .inl (I .int, 40, .inl f1431)), (q1412, .inl (I .int, 40, .inl f1432)), (q1413, .inl (I .int, 200, .inl f1433)), (q1414, .inl (I .int, 200, .inl f1434)), (q1415, .inl (I .int, 200, .inl f1435)), (q1416, .inl (I .int, 200, .inl f1436)), (q1417, .inl (I .int, 200, .inl f1437)), (q1418, .inl (I .int, 200, .inl f1438))]) (cs' := 0) (sl' := 0) rfl rfl rfl ?_
                have wf1866 : lb_W f1866 (g1805.toInt + 1) (p1421.toInt) (p1420.toInt) := lb_Wext hf1866 x1807 (by omega) (lb_Mod0 (by omega) (by omega)) qu1865
                obtain ⟨z1867, hz1867⟩ : ∃ z : Int32, z = g1805 + Int32.ofInt 1 := ⟨_, rfl⟩
                have ez1867 : z1867.toInt = g1805.toInt + 1 := gI_inc hz1867 (by decide) bg1805' (by decide) (by decide)
                have bz1867 : gB z1867 1 12 := ⟨by omega, by omega⟩
                refine G_iinc (L' := [(5, .int z1867), (6, .long u1851), (4, .int z1443), (3, .int z1442), (0, .ref q1404), (1, .ref q1405), (2, .int p1419)]) z1867 1 d_cX5_enterBehind_103 rfl hz1867.symm (Nat.le_of_ble_eq_true rfl) rfl ?_
                refine G_goto 18 d_cX5_enterBehind_106 (by decide +kernel) ?_
                refine G_lv (L' := [(5, .int z1867), (4, .int z1443), (3, .int z1442), (0, .ref q1404), (1, .ref q1405), (2, .int p1419)]) [0, 2, 3, 4, 5, 6] rfl ?_
                exact ih18_1807 z1867 f1866 (gB_w bz1867 (by decide) (by decide)) (lb_Wle wf1866 (by omega)) (by omega)
  exact hlp18_1807 (((13 : Int) - 0).toNat + 1) 0 f1429 (gB_w (gBl (show Int32.toInt 0 = 0 by decide)) (by decide) (by decide)) lb_W0 (Nat.lt_succ_self _)
abbrev ky_1906_Live_sweep : gKey := (cX5_sweep, 8, yX5_sweep.cls, (some FieldType.boolean), [], yX5_sweep.name, fun _ _ => True)
abbrev po_1906_Live_sweep (I : FieldType → ClassId) (q1869 : Nat) (q1870 : Nat) (q1871 : Nat) (q1872 : Nat) (q1873 : Nat) (q1874 : Nat) (q1875 : Nat) (q1876 : Nat) (q1877 : Nat) (q1878 : Nat) (q1879 : Nat) (q1880 : Nat) (q1881 : Nat) (q1882 : Nat) (q1883 : Nat) (p1884 : Int32) (p1885 : Int32) (p1886 : Int32) (p1887 : Int32) (p1888 : Int32) (p1889 : Int32) (f1890 : Nat → Int64) (f1891 : Nat → Int64) (f1892 : Nat → Int64) (f1893 : Nat → Int64) (f1894 : Nat → Int32) (f1895 : Nat → Int32) (f1896 : Nat → Int32) (f1897 : Nat → Int32) (f1898 : Nat → Int32) (f1899 : Nat → Int32) (f1900 : Nat → Int32) (f1901 : Nat → Int32) (f1902 : Nat → Int32) : Option Value → va_W → Prop := fun r w => ∃ (o2525 : Int32) (f2523 : Nat → Int64) (f2524 : Nat → Int64), r = some (.int o2525) ∧ w = [(q1869, .inr (10, [.ref q1871, .ref q1872, .ref q1873, .ref q1874, .int p1884, .int p1885, .int p1886])), (q1870, .inr (5, [.ref q1875, .ref q1876, .ref q1877, .ref q1878, .ref q1879, .ref q1880, .ref q1881, .ref q1882, .ref q1883, .int p1887, .int p1888, .int p1889])), (q1871, .inl (I .long, 480, .inr (.inl f2523))), (q1872, .inl (I .long, 480, .inr (.inl f1891))), (q1873, .inl (I .long, 480, .inr (.inl f1892))), (q1874, .inl (I .long, 12, .inr (.inl f2524))), (q1875, .inl (I .int, 40, .inl f1894)), (q1876, .inl (I .int, 40, .inl f1895)), (q1877, .inl (I .int, 40, .inl f1896)), (q1878, .inl (I .int, 200, .inl f1897)), (q1879, .inl (I .int, 200, .inl f1898)), (q1880, .inl (I .int, 200, .inl f1899)), (q1881, .inl (I .int, 200, .inl f1900)), (q1882, .inl (I .int, 200, .inl f1901)), (q1883, .inl (I .int, 200, .inl f1902))] ∧ gB o2525 0 1 ∧ lb_W f2523 (p1887.toInt * p1885.toInt) (p1885.toInt) (p1884.toInt)
set_option maxRecDepth 100000 in
set_option maxHeartbeats 4000000 in
theorem ct_1906_Live_sweep (l : Launch) (hl0 : l.stackTraces = false) (D : va_G) (I : FieldType → ClassId) (q1869 : Nat) (q1870 : Nat) (q1871 : Nat) (q1872 : Nat) (q1873 : Nat) (q1874 : Nat) (q1875 : Nat) (q1876 : Nat) (q1877 : Nat) (q1878 : Nat) (q1879 : Nat) (q1880 : Nat) (q1881 : Nat) (q1882 : Nat) (q1883 : Nat) (p1884 : Int32) (p1885 : Int32) (p1886 : Int32) (p1887 : Int32) (p1888 : Int32) (p1889 : Int32) (f1890 : Nat → Int64) (f1891 : Nat → Int64) (f1892 : Nat → Int64) (f1893 : Nat → Int64) (f1894 : Nat → Int32) (f1895 : Nat → Int32) (f1896 : Nat → Int32) (f1897 : Nat → Int32) (f1898 : Nat → Int32) (f1899 : Nat → Int32) (f1900 : Nat → Int32) (f1901 : Nat → Int32) (f1902 : Nat → Int32) (bp1884 : gB p1884 0 720) (bp1885 : gB p1885 0 12) (bp1886 : gB p1886 0 1) (bp1887 : gB p1887 0 40) (bp1888 : gB p1888 0 200) (bp1889 : gB p1889 0 1) (bf1894 : gF f1894 0 200) (bf1897 : gF f1897 0 21) (x1903 : lb_W f1890 (p1887.toInt * p1885.toInt) (p1885.toInt) (p1884.toInt)) (x1904 : lb_W f1891 (p1887.toInt * p1885.toInt) (p1885.toInt) (p1884.toInt)) (x1905 : p1885.toInt = (p1884.toInt + 63) / 64) : Ct (gV D I) l yX5_sweep cX5_sweep 8 (some FieldType.boolean) 1 27 0 0 [.ref q1869, .ref q1870] [(q1869, .inr (10, [.ref q1871, .ref q1872, .ref q1873, .ref q1874, .int p1884, .int p1885, .int p1886])), (q1870, .inr (5, [.ref q1875, .ref q1876, .ref q1877, .ref q1878, .ref q1879, .ref q1880, .ref q1881, .ref q1882, .ref q1883, .int p1887, .int p1888, .int p1889])), (q1871, .inl (I .long, 480, .inr (.inl f1890))), (q1872, .inl (I .long, 480, .inr (.inl f1891))), (q1873, .inl (I .long, 480, .inr (.inl f1892))), (q1874, .inl (I .long, 12, .inr (.inl f1893))), (q1875, .inl (I .int, 40, .inl f1894)), (q1876, .inl (I .int, 40, .inl f1895)), (q1877, .inl (I .int, 40, .inl f1896)), (q1878, .inl (I .int, 200, .inl f1897)), (q1879, .inl (I .int, 200, .inl f1898)), (q1880, .inl (I .int, 200, .inl f1899)), (q1881, .inl (I .int, 200, .inl f1900)), (q1882, .inl (I .int, 200, .inl f1901)), (q1883, .inl (I .int, 200, .inl f1902))] (po_1906_Live_sweep I q1869 q1870 q1871 q1872 q1873 q1874 q1875 q1876 q1877 q1878 q1879 q1880 q1881 q1882 q1883 p1884 p1885 p1886 p1887 p1888 p1889 f1890 f1891 f1892 f1893 f1894 f1895 f1896 f1897 f1898 f1899 f1900 f1901 f1902) gN := by
  refine Ct_of hl0 (by decide) (Nat.le_of_ble_eq_true rfl) ?_
  refine G_iconst 0 d_cX5_sweep_0 (by decide +kernel) ?_
  refine G_istore_n (L' := [(2, .int 0), (0, .ref q1869), (1, .ref q1870)]) d_cX5_sweep_1 (Nat.le_of_ble_eq_true rfl) rfl ?_
  refine G_aload_n 2 d_cX5_sweep_2 rfl ?_
  refine G_getfN 1 9 d_cX5_sweep_3 rfl (gk_X0 D I) (Nat.le_of_ble_eq_true rfl) (fun _ _ _ h => gn_w 37 rfl h) rfl ?_
  refine G_iconst 1 d_cX5_sweep_6 (by decide +kernel) ?_
  refine G_isub d_cX5_sweep_7 (G_nam fun z1907 hz1907 => ?_)
  have ez1907 : z1907.toInt = p1887.toInt - 1 := by rw [gI_sub hz1907 bp1887 (gBl (show Int32.toInt 1 = 1 by decide)) (by decide) (by decide), show Int32.toInt 1 = 1 from by decide]
  have bz1907 : gB z1907 (-1) 39 := gB_sub (gI_sub hz1907 bp1887 (gBl (show Int32.toInt 1 = 1 by decide)) (by decide) (by decide)) bp1887 (gBl (show Int32.toInt 1 = 1 by decide)) (by decide) (by decide)
  refine G_istore_n (L' := [(3, .int z1907), (2, .int 0), (0, .ref q1869), (1, .ref q1870)]) d_cX5_sweep_8 (Nat.le_of_ble_eq_true rfl) rfl ?_
  have hlp9_2319 : ∀ (n9_2319 : Nat) (g2314 : Int32) (f2315 : Nat → Int64) (g2316 : Int32) (f2317 : Nat → Int64), gB g2314 (-1) 39 → gB g2316 0 1 → g2314.toInt < p1887.toInt → lb_W f2317 (p1887.toInt * p1885.toInt) (p1885.toInt) (p1884.toInt) → ((g2314.toInt : Int) - (-2)).toNat < n9_2319 → G (gV D I) l (gRm 1 27 0 0) (gM (gV D I) (po_1906_Live_sweep I q1869 q1870 q1871 q1872 q1873 q1874 q1875 q1876 q1877 q1878 q1879 q1880 q1881 q1882 q1883 p1884 p1885 p1886 p1887 p1888 p1889 f1890 f1891 f1892 f1893 f1894 f1895 f1896 f1897 f1898 f1899 f1900 f1901 f1902) gN 0 0) ky_1906_Live_sweep 9 [(3, .int g2314), (2, .int g2316), (0, .ref q1869), (1, .ref q1870)] [] [(q1869, .inr (10, [.ref q1871, .ref q1872, .ref q1873, .ref q1874, .int p1884, .int p1885, .int p1886])), (q1870, .inr (5, [.ref q1875, .ref q1876, .ref q1877, .ref q1878, .ref q1879, .ref q1880, .ref q1881, .ref q1882, .ref q1883, .int p1887, .int p1888, .int p1889])), (q1871, .inl (I .long, 480, .inr (.inl f2317))), (q1872, .inl (I .long, 480, .inr (.inl f1891))), (q1873, .inl (I .long, 480, .inr (.inl f1892))), (q1874, .inl (I .long, 12, .inr (.inl f2315))), (q1875, .inl (I .int, 40, .inl f1894)), (q1876, .inl (I .int, 40, .inl f1895)), (q1877, .inl (I .int, 40, .inl f1896)), (q1878, .inl (I .int, 200, .inl f1897)), (q1879, .inl (I .int, 200, .inl f1898)), (q1880, .inl (I .int, 200, .inl f1899)), (q1881, .inl (I .int, 200, .inl f1900)), (q1882, .inl (I .int, 200, .inl f1901)), (q1883, .inl (I .int, 200, .inl f1902))] 0 0 := by
    intro n9_2319
    induction n9_2319 with
    | zero => intro g2314 f2315 g2316 f2317 bg2314 bg2316 x2318 x2319 hm9_2319; exact absurd hm9_2319 (Nat.not_lt_zero _)
    | succ n9_2319 ih9_2319 =>
      intro g2314 f2315 g2316 f2317 bg2314 bg2316 x2318 x2319 hm9_2319
      refine G_iload_n 0 d_cX5_sweep_9 rfl ?_
      refine G_if_lt 115 d_cX5_sweep_10 (by decide +kernel) (fun hc2320 => ?_) (fun hc2320 => ?_)
      · have r2321 : g2314.toInt < 0 := gj_lt hc2320 (show Int32.toInt 0 = 0 by decide)
        have bg2314' : gB g2314 (-1) (-1) := ⟨by omega, by omega⟩
        refine G_iload_n 1 d_cX5_sweep_115 rfl ?_
        exact G_zret FieldType.boolean d_cX5_sweep_116 rfl (gN_bool bg2316) (Nat.le_of_ble_eq_true rfl) (Nat.le_of_ble_eq_true rfl) ⟨g2316, f2317, f2315, rfl, rfl, bg2316, x2319⟩
      · have r2322 : 0 ≤ g2314.toInt := gj_nlt hc2320 (show Int32.toInt 0 = 0 by decide)
        have bg2314' : gB g2314 0 39 := ⟨by omega, by omega⟩
        refine G_aload_n 2 d_cX5_sweep_13 rfl ?_
        refine G_aload_n 3 d_cX5_sweep_14 rfl ?_
        refine G_iload_n 0 d_cX5_sweep_15 rfl ?_
        refine G_callV (As := [.ref q1870, .int g2314]) (wr := []) (gV_ok D I) (ct_1441_Live_enterBehind l hl0 D I q1869 q1870 q1871 q1872 q1873 q1874 q1875 q1876 q1877 q1878 q1879 q1880 q1881 q1882 q1883 g2314 p1884 p1885 p1886 p1887 p1888 p1889 f2317 f1891 f1892 f2315 f1894 f1895 f1896 f1897 f1898 f1899 f1900 f1901 f1902 bg2314' bp1884 bp1885 bp1886 bp1887 bp1888 bp1889 bf1894 bf1897 x2319 (by omega)) d_cX5_sweep_16 ⟨w_4_64, w_1_10, w_4_67, by decide, rfl, (Nat.le_of_ble_eq_true rfl), (Nat.le_of_ble_eq_true rfl)⟩ w_4_65 w_4_66 0 rfl rfl [0, 1, 2, 3, 4, 5, 6, 7, 8, 9, 10, 11, 12, 13, 14] [] rfl rfl rfl rfl (by decide) (Nat.le_of_ble_eq_true rfl) (Nat.le_of_ble_eq_true rfl) (Nat.le_of_ble_eq_true rfl) (fun r w hp => ?_) (fun _ _ _ z => z.elim)
        obtain ⟨f2323, rfl, rfl, x2324⟩ := hp
        change G _ _ _ _ _ _ _ _ _ _ _
        refine G_ws (ws' := [(q1869, .inr (10, [.ref q1871, .ref q1872, .ref q1873, .ref q1874, .int p1884, .int p1885, .int p1886])), (q1870, .inr (5, [.ref q1875, .ref q1876, .ref q1877, .ref q1878, .ref q1879, .ref q1880, .ref q1881, .ref q1882, .ref q1883, .int p1887, .int p1888, .int p1889])), (q1871, .inl (I .long, 480, .inr (.inl f2317))), (q1872, .inl (I .long, 480, .inr (.inl f1891))), (q1873, .inl (I .long, 480, .inr (.inl f1892))), (q1874, .inl (I .long, 12, .inr (.inl f2323))), (q1875, .inl (I .int, 40, .inl f1894)), (q1876, .inl (I .int, 40, .inl f1895)), (q1877, .inl (I .int, 40, .inl f1896)), (q1878, .inl (I .int, 200, .inl f1897)), (q1879, .inl (I .int, 200, .inl f1898)), (q1880, .inl (I .int, 200, .inl f1899)), (q1881, .inl (I .int, 200, .inl f1900)), (q1882, .inl (I .int, 200, .inl f1901)), (q1883, .inl (I .int, 200, .inl f1902))]) (cs' := 0) (sl' := 0) rfl rfl rfl ?_
        refine G_iconst 0 d_cX5_sweep_19 (by decide +kernel) ?_
        refine G_istore (L' := [(4, .int 0), (3, .int g2314), (2, .int g2316), (0, .ref q1869), (1, .ref q1870)]) d_cX5_sweep_20 (Nat.le_of_ble_eq_true rfl) rfl ?_
        have hlp22_2496 : ∀ (n22_2496 : Nat) (g2493 : Int32) (g2494 : Int32) (f2495 : Nat → Int64), gB g2493 0 12 → gB g2494 0 1 → lb_W f2495 (p1887.toInt * p1885.toInt) (p1885.toInt) (p1884.toInt) → ((13 : Int) - g2493.toInt).toNat < n22_2496 → G (gV D I) l (gRm 1 27 0 0) (gM (gV D I) (po_1906_Live_sweep I q1869 q1870 q1871 q1872 q1873 q1874 q1875 q1876 q1877 q1878 q1879 q1880 q1881 q1882 q1883 p1884 p1885 p1886 p1887 p1888 p1889 f1890 f1891 f1892 f1893 f1894 f1895 f1896 f1897 f1898 f1899 f1900 f1901 f1902) gN 0 0) ky_1906_Live_sweep 22 [(4, .int g2493), (3, .int g2314), (2, .int g2494), (0, .ref q1869), (1, .ref q1870)] [] [(q1869, .inr (10, [.ref q1871, .ref q1872, .ref q1873, .ref q1874, .int p1884, .int p1885, .int p1886])), (q1870, .inr (5, [.ref q1875, .ref q1876, .ref q1877, .ref q1878, .ref q1879, .ref q1880, .ref q1881, .ref q1882, .ref q1883, .int p1887, .int p1888, .int p1889])), (q1871, .inl (I .long, 480, .inr (.inl f2495))), (q1872, .inl (I .long, 480, .inr (.inl f1891))), (q1873, .inl (I .long, 480, .inr (.inl f1892))), (q1874, .inl (I .long, 12, .inr (.inl f2323))), (q1875, .inl (I .int, 40, .inl f1894)), (q1876, .inl (I .int, 40, .inl f1895)), (q1877, .inl (I .int, 40, .inl f1896)), (q1878, .inl (I .int, 200, .inl f1897)), (q1879, .inl (I .int, 200, .inl f1898)), (q1880, .inl (I .int, 200, .inl f1899)), (q1881, .inl (I .int, 200, .inl f1900)), (q1882, .inl (I .int, 200, .inl f1901)), (q1883, .inl (I .int, 200, .inl f1902))] 0 0 := by
          intro n22_2496
          induction n22_2496 with
          | zero => intro g2493 g2494 f2495 bg2493 bg2494 x2496 hm22_2496; exact absurd hm22_2496 (Nat.not_lt_zero _)
          | succ n22_2496 ih22_2496 =>
            intro g2493 g2494 f2495 bg2493 bg2494 x2496 hm22_2496
            refine G_iload 0 d_cX5_sweep_22 rfl ?_
            refine G_aload_n 3 d_cX5_sweep_24 rfl ?_
            refine G_getf 0 5 d_cX5_sweep_25 rfl (gk_X5 D I) (Nat.le_of_ble_eq_true rfl) w_2_29 rfl ?_
            refine G_icmp_ge 109 d_cX5_sweep_28 (by decide +kernel) (fun hc2497 => ?_) (fun hc2497 => ?_)
            · have r2498 : p1885.toInt ≤ g2493.toInt := gC_le hc2497
              obtain ⟨z2499, hz2499⟩ : ∃ z : Int32, z = g2314 + Int32.ofInt (-1) := ⟨_, rfl⟩
              have ez2499 : z2499.toInt = g2314.toInt + (-1) := gI_inc hz2499 (by decide) bg2314' (by decide) (by decide)
              have bz2499 : gB z2499 (-1) 38 := ⟨by omega, by omega⟩
              refine G_iinc (L' := [(3, .int z2499), (4, .int g2493), (2, .int g2494), (0, .ref q1869), (1, .ref q1870)]) z2499 1 d_cX5_sweep_109 rfl hz2499.symm (Nat.le_of_ble_eq_true rfl) rfl ?_
              refine G_goto 9 d_cX5_sweep_112 (by decide +kernel) ?_
              refine G_lv (L' := [(3, .int z2499), (2, .int g2494), (0, .ref q1869), (1, .ref q1870)]) [0, 2, 3, 4] rfl ?_
              exact ih9_2319 z2499 f2323 g2494 f2495 (gB_w bz2499 (by decide) (by decide)) bg2494 (by omega) x2496 (by omega)
            · have r2500 : g2493.toInt < p1885.toInt := gC_nle hc2497
              have bg2493' : gB g2493 0 11 := ⟨by omega, by omega⟩
              have bp1885' : gB p1885 1 12 := ⟨by omega, by omega⟩
              refine G_iload_n 1 d_cX5_sweep_31 rfl ?_
              refine G_aload_n 3 d_cX5_sweep_32 rfl ?_
              refine G_getf 0 5 d_cX5_sweep_33 rfl (gk_X5 D I) (Nat.le_of_ble_eq_true rfl) w_2_29 rfl ?_
              refine G_imul d_cX5_sweep_36 (G_nam fun z2501 hz2501 => ?_)
              have ez2501 : z2501.toInt = g2314.toInt * p1885.toInt := by rw [gI_mul hz2501 bg2314' bp1885' (by decide) (by decide) (by decide)]
              have bz2501 : gB z2501 0 468 := gB_mul hz2501 bg2314' bp1885' (by decide) (by decide) (by decide) (by decide)
              refine G_iload 0 d_cX5_sweep_37 rfl ?_
              refine G_iadd d_cX5_sweep_39 (G_nam fun z2502 hz2502 => ?_)
              have ez2502 : z2502.toInt = z2501.toInt + g2493.toInt := by rw [gI_add hz2502 bz2501 bg2493' (by decide) (by decide)]
              have bz2502 : gB z2502 0 479 := gB_add (gI_add hz2502 bz2501 bg2493' (by decide) (by decide)) bz2501 bg2493' (by decide) (by decide)
              refine G_istore (L' := [(5, .int z2502), (4, .int g2493), (3, .int g2314), (2, .int g2494), (0, .ref q1869), (1, .ref q1870)]) d_cX5_sweep_40 (Nat.le_of_ble_eq_true rfl) rfl ?_
              refine G_aload_n 4 d_cX5_sweep_42 rfl ?_
              refine G_getf 0 1 d_cX5_sweep_43 rfl (gk_X5 D I) (Nat.le_of_ble_eq_true rfl) w_2_23 rfl ?_
              refine G_iload 0 d_cX5_sweep_46 rfl ?_
              refine G_lald 3 2 d_cX5_sweep_48 rfl rfl (gB_in bz2502 (by decide) (by decide)) (G_namL fun u2503 hu2503 => ?_)
              have qu2503 : lb_Q u2503 (p1884.toInt - 64 * g2493.toInt) := lb_Wld hu2503 x1904 (by omega) (lb_Lt1 ez2502 ez2501 (by omega) (by omega) (by omega)) (lb_Mod1 ez2502 ez2501 (by omega) (by omega))
              refine G_aload_n 4 d_cX5_sweep_49 rfl ?_
              refine G_getf 0 3 d_cX5_sweep_50 rfl (gk_X5 D I) (Nat.le_of_ble_eq_true rfl) w_2_25 rfl ?_
              refine G_iload 1 d_cX5_sweep_53 rfl ?_
              refine G_lald 5 2 d_cX5_sweep_55 rfl rfl (gB_in bg2493' (by decide) (by decide)) (G_namL fun u2504 hu2504 => ?_)
              have qu2504 : lb_Q u2504 (p1884.toInt - 64 * g2493.toInt) := lb_Wld hu2504 x2324 (by omega) (by omega) (lb_Mod0 (by omega) (by omega))
              refine G_aload_n 4 d_cX5_sweep_56 rfl ?_
              refine G_getf 0 2 d_cX5_sweep_57 rfl (gk_X5 D I) (Nat.le_of_ble_eq_true rfl) w_2_24 rfl ?_
              refine G_iload 0 d_cX5_sweep_60 rfl ?_
              refine G_lald 4 2 d_cX5_sweep_62 rfl rfl (gB_in bz2502 (by decide) (by decide)) (G_namL fun u2505 hu2505 => ?_)
              refine G_ldc2 (-1) d_cX5_sweep_63 w_4_47 ?_
              refine G_lxor d_cX5_sweep_66 (G_namL fun u2506 hu2506 => ?_)
              refine G_land d_cX5_sweep_67 (G_namL fun u2507 hu2507 => ?_)
              have qu2507 : lb_Q u2507 (p1884.toInt - 64 * g2493.toInt) := lb_QandL hu2507 qu2504
              refine G_lor d_cX5_sweep_68 (G_namL fun u2508 hu2508 => ?_)
              have qu2508 : lb_Q u2508 (p1884.toInt - 64 * g2493.toInt) := lb_Qor hu2508 qu2503 qu2507
              refine G_lstore (L' := [(6, .long u2508), (5, .int z2502), (4, .int g2493), (3, .int g2314), (2, .int g2494), (0, .ref q1869), (1, .ref q1870)]) d_cX5_sweep_69 (Nat.le_of_ble_eq_true rfl) rfl ?_
              refine G_iload_n 4 d_cX5_sweep_71 rfl ?_
              refine G_if_ne 88 d_cX5_sweep_72 (by decide +kernel) (fun hc2509 => ?_) (fun hc2509 => ?_)
              · have r2510 : g2494.toInt ≠ 0 := gj_neq hc2509 (show Int32.toInt 0 = 0 by decide)
                have bg2494' : gB g2494 1 1 := ⟨by omega, by omega⟩
                refine G_iconst 1 d_cX5_sweep_88 (by decide +kernel) ?_
                refine G_goto 93 d_cX5_sweep_89 (by decide +kernel) ?_
                refine G_istore_n (L' := [(2, .int 1), (6, .long u2508), (5, .int z2502), (4, .int g2493), (3, .int g2314), (0, .ref q1869), (1, .ref q1870)]) d_cX5_sweep_93 (Nat.le_of_ble_eq_true rfl) rfl ?_
                refine G_aload_n 5 d_cX5_sweep_94 rfl ?_
                refine G_getf 0 0 d_cX5_sweep_95 rfl (gk_X5 D I) (Nat.le_of_ble_eq_true rfl) w_2_22 rfl ?_
                refine G_iload 2 d_cX5_sweep_98 rfl ?_
                refine G_lload 1 d_cX5_sweep_100 rfl ?_
                refine G_lastN 2 2 d_cX5_sweep_102 rfl rfl (gB_in bz2502 (by decide) (by decide)) (fun f2511 hf2511 => ?_)
                refine G_ws (ws' := [(q1869, .inr (10, [.ref q1871, .ref q1872, .ref q1873, .ref q1874, .int p1884, .int p1885, .int p1886])), (q1870, .inr (5, [.ref q1875, .ref q1876, .ref q1877, .ref q1878, .ref q1879, .ref q1880, .ref q1881, .ref q1882, .ref q1883, .int p1887, .int p1888, .int p1889])), (q1871, .inl (I .long, 480, .inr (.inl f2511))), (q1872, .inl (I .long, 480, .inr (.inl f1891))), (q1873, .inl (I .long, 480, .inr (.inl f1892))), (q1874, .inl (I .long, 12, .inr (.inl f2323))), (q1875, .inl (I .int, 40, .inl f1894)), (q1876, .inl (I .int, 40, .inl f1895)), (q1877, .inl (I .int, 40, .inl f1896)), (q1878, .inl (I .int, 200, .inl f1897)), (q1879, .inl (I .int, 200, .inl f1898)), (q1880, .inl (I .int, 200, .inl f1899)), (q1881, .inl (I .int, 200, .inl f1900)), (q1882, .inl (I .int, 200, .inl f1901)), (q1883, .inl (I .int, 200, .inl f1902))]) (cs' := 0) (sl' := 0) rfl rfl rfl ?_
                have wf2511 : lb_W f2511 (p1887.toInt * p1885.toInt) (p1885.toInt) (p1884.toInt) := lb_Wst hf2511 x2496 (by omega) (lb_Mod1 ez2502 ez2501 (by omega) (by omega)) qu2508
                obtain ⟨z2512, hz2512⟩ : ∃ z : Int32, z = g2493 + Int32.ofInt 1 := ⟨_, rfl⟩
                have ez2512 : z2512.toInt = g2493.toInt + 1 := gI_inc hz2512 (by decide) bg2493' (by decide) (by decide)
                have bz2512 : gB z2512 1 12 := ⟨by omega, by omega⟩
                refine G_iinc (L' := [(4, .int z2512), (2, .int 1), (6, .long u2508), (5, .int z2502), (3, .int g2314), (0, .ref q1869), (1, .ref q1870)]) z2512 3 d_cX5_sweep_103 rfl hz2512.symm (Nat.le_of_ble_eq_true rfl) rfl ?_
                refine G_goto 22 d_cX5_sweep_106 (by decide +kernel) ?_
                refine G_lv (L' := [(4, .int z2512), (3, .int g2314), (2, .int 1), (0, .ref q1869), (1, .ref q1870)]) [0, 4, 1, 5, 6] rfl ?_
                exact ih22_2496 z2512 1 f2511 (gB_w bz2512 (by decide) (by decide)) (gB_w (gBl (show Int32.toInt 1 = 1 by decide)) (by decide) (by decide)) wf2511 (by have qa0 : Int32.toInt 1 = 1 := (by decide); omega)
              · have r2513 : g2494.toInt = 0 := gj_eq hc2509 (show Int32.toInt 0 = 0 by decide)
                have bg2494' : gB g2494 0 0 := ⟨by omega, by omega⟩
                refine G_lload 0 d_cX5_sweep_75 rfl ?_
                refine G_aload_n 5 d_cX5_sweep_77 rfl ?_
                refine G_getf 0 0 d_cX5_sweep_78 rfl (gk_X5 D I) (Nat.le_of_ble_eq_true rfl) w_2_22 rfl ?_
                refine G_iload 1 d_cX5_sweep_81 rfl ?_
                refine G_lald 2 2 d_cX5_sweep_83 rfl rfl (gB_in bz2502 (by decide) (by decide)) (G_namL fun u2514 hu2514 => ?_)
                have qu2514 : lb_Q u2514 (p1884.toInt - 64 * g2493.toInt) := lb_Wld hu2514 x2496 (by omega) (lb_Lt1 ez2502 ez2501 (by omega) (by omega) (by omega)) (lb_Mod1 ez2502 ez2501 (by omega) (by omega))
                refine G_lcmp d_cX5_sweep_84 (G_nam fun z2515 hz2515 => ?_)
                have bz2515 : gB z2515 (-1) 1 := gB_cmp hz2515
                refine G_if_eq 92 d_cX5_sweep_85 (by decide +kernel) (fun hc2516 => ?_) (fun hc2516 => ?_)
                · have r2517 : z2515.toInt = 0 := gj_eq hc2516 (show Int32.toInt 0 = 0 by decide)
                  have bz2515' : gB z2515 0 0 := ⟨by omega, by omega⟩
                  have lhc2516 := gC_cmpE hz2515 hc2516
                  refine G_iconst 0 d_cX5_sweep_92 (by decide +kernel) ?_
                  refine G_istore_n (L' := [(2, .int 0), (6, .long u2508), (5, .int z2502), (4, .int g2493), (3, .int g2314), (0, .ref q1869), (1, .ref q1870)]) d_cX5_sweep_93 (Nat.le_of_ble_eq_true rfl) rfl ?_
                  refine G_aload_n 5 d_cX5_sweep_94 rfl ?_
                  refine G_getf 0 0 d_cX5_sweep_95 rfl (gk_X5 D I) (Nat.le_of_ble_eq_true rfl) w_2_22 rfl ?_
                  refine G_iload 2 d_cX5_sweep_98 rfl ?_
                  refine G_lload 1 d_cX5_sweep_100 rfl ?_
                  refine G_lastN 2 2 d_cX5_sweep_102 rfl rfl (gB_in bz2502 (by decide) (by decide)) (fun f2518 hf2518 => ?_)
                  refine G_ws (ws' := [(q1869, .inr (10, [.ref q1871, .ref q1872, .ref q1873, .ref q1874, .int p1884, .int p1885, .int p1886])), (q1870, .inr (5, [.ref q1875, .ref q1876, .ref q1877, .ref q1878, .ref q1879, .ref q1880, .ref q1881, .ref q1882, .ref q1883, .int p1887, .int p1888, .int p1889])), (q1871, .inl (I .long, 480, .inr (.inl f2518))), (q1872, .inl (I .long, 480, .inr (.inl f1891))), (q1873, .inl (I .long, 480, .inr (.inl f1892))), (q1874, .inl (I .long, 12, .inr (.inl f2323))), (q1875, .inl (I .int, 40, .inl f1894)), (q1876, .inl (I .int, 40, .inl f1895)), (q1877, .inl (I .int, 40, .inl f1896)), (q1878, .inl (I .int, 200, .inl f1897)), (q1879, .inl (I .int, 200, .inl f1898)), (q1880, .inl (I .int, 200, .inl f1899)), (q1881, .inl (I .int, 200, .inl f1900)), (q1882, .inl (I .int, 200, .inl f1901)), (q1883, .inl (I .int, 200, .inl f1902))]) (cs' := 0) (sl' := 0) rfl rfl rfl ?_
                  have wf2518 : lb_W f2518 (p1887.toInt * p1885.toInt) (p1885.toInt) (p1884.toInt) := lb_Wst hf2518 x2496 (by omega) (lb_Mod1 ez2502 ez2501 (by omega) (by omega)) qu2508
                  obtain ⟨z2519, hz2519⟩ : ∃ z : Int32, z = g2493 + Int32.ofInt 1 := ⟨_, rfl⟩
                  have ez2519 : z2519.toInt = g2493.toInt + 1 := gI_inc hz2519 (by decide) bg2493' (by decide) (by decide)
                  have bz2519 : gB z2519 1 12 := ⟨by omega, by omega⟩
                  refine G_iinc (L' := [(4, .int z2519), (2, .int 0), (6, .long u2508), (5, .int z2502), (3, .int g2314), (0, .ref q1869), (1, .ref q1870)]) z2519 3 d_cX5_sweep_103 rfl hz2519.symm (Nat.le_of_ble_eq_true rfl) rfl ?_
                  refine G_goto 22 d_cX5_sweep_106 (by decide +kernel) ?_
                  refine G_lv (L' := [(4, .int z2519), (3, .int g2314), (2, .int 0), (0, .ref q1869), (1, .ref q1870)]) [0, 4, 1, 5, 6] rfl ?_
                  exact ih22_2496 z2519 0 f2518 (gB_w bz2519 (by decide) (by decide)) (gB_w (gBl (show Int32.toInt 0 = 0 by decide)) (by decide) (by decide)) wf2518 (by have qa0 : Int32.toInt 0 = 0 := (by decide); omega)
                · have r2520 : z2515.toInt ≠ 0 := gj_neq hc2516 (show Int32.toInt 0 = 0 by decide)
                  have lhc2516 := gC_cmpN hz2515 hc2516
                  refine G_iconst 1 d_cX5_sweep_88 (by decide +kernel) ?_
                  refine G_goto 93 d_cX5_sweep_89 (by decide +kernel) ?_
                  refine G_istore_n (L' := [(2, .int 1), (6, .long u2508), (5, .int z2502), (4, .int g2493), (3, .int g2314), (0, .ref q1869), (1, .ref q1870)]) d_cX5_sweep_93 (Nat.le_of_ble_eq_true rfl) rfl ?_
                  refine G_aload_n 5 d_cX5_sweep_94 rfl ?_
                  refine G_getf 0 0 d_cX5_sweep_95 rfl (gk_X5 D I) (Nat.le_of_ble_eq_true rfl) w_2_22 rfl ?_
                  refine G_iload 2 d_cX5_sweep_98 rfl ?_
                  refine G_lload 1 d_cX5_sweep_100 rfl ?_
                  refine G_lastN 2 2 d_cX5_sweep_102 rfl rfl (gB_in bz2502 (by decide) (by decide)) (fun f2521 hf2521 => ?_)
                  refine G_ws (ws' := [(q1869, .inr (10, [.ref q1871, .ref q1872, .ref q1873, .ref q1874, .int p1884, .int p1885, .int p1886])), (q1870, .inr (5, [.ref q1875, .ref q1876, .ref q1877, .ref q1878, .ref q1879, .ref q1880, .ref q1881, .ref q1882, .ref q1883, .int p1887, .int p1888, .int p1889])), (q1871, .inl (I .long, 480, .inr (.inl f2521))), (q1872, .inl (I .long, 480, .inr (.inl f1891))), (q1873, .inl (I .long, 480, .inr (.inl f1892))), (q1874, .inl (I .long, 12, .inr (.inl f2323))), (q1875, .inl (I .int, 40, .inl f1894)), (q1876, .inl (I .int, 40, .inl f1895)), (q1877, .inl (I .int, 40, .inl f1896)), (q1878, .inl (I .int, 200, .inl f1897)), (q1879, .inl (I .int, 200, .inl f1898)), (q1880, .inl (I .int, 200, .inl f1899)), (q1881, .inl (I .int, 200, .inl f1900)), (q1882, .inl (I .int, 200, .inl f1901)), (q1883, .inl (I .int, 200, .inl f1902))]) (cs' := 0) (sl' := 0) rfl rfl rfl ?_
                  have wf2521 : lb_W f2521 (p1887.toInt * p1885.toInt) (p1885.toInt) (p1884.toInt) := lb_Wst hf2521 x2496 (by omega) (lb_Mod1 ez2502 ez2501 (by omega) (by omega)) qu2508
                  obtain ⟨z2522, hz2522⟩ : ∃ z : Int32, z = g2493 + Int32.ofInt 1 := ⟨_, rfl⟩
                  have ez2522 : z2522.toInt = g2493.toInt + 1 := gI_inc hz2522 (by decide) bg2493' (by decide) (by decide)
                  have bz2522 : gB z2522 1 12 := ⟨by omega, by omega⟩
                  refine G_iinc (L' := [(4, .int z2522), (2, .int 1), (6, .long u2508), (5, .int z2502), (3, .int g2314), (0, .ref q1869), (1, .ref q1870)]) z2522 3 d_cX5_sweep_103 rfl hz2522.symm (Nat.le_of_ble_eq_true rfl) rfl ?_
                  refine G_goto 22 d_cX5_sweep_106 (by decide +kernel) ?_
                  refine G_lv (L' := [(4, .int z2522), (3, .int g2314), (2, .int 1), (0, .ref q1869), (1, .ref q1870)]) [0, 4, 1, 5, 6] rfl ?_
                  exact ih22_2496 z2522 1 f2521 (gB_w bz2522 (by decide) (by decide)) (gB_w (gBl (show Int32.toInt 1 = 1 by decide)) (by decide) (by decide)) wf2521 (by have qa0 : Int32.toInt 1 = 1 := (by decide); omega)
        exact hlp22_2496 (((13 : Int) - 0).toNat + 1) 0 g2316 f2317 (gB_w (gBl (show Int32.toInt 0 = 0 by decide)) (by decide) (by decide)) bg2316 x2319 (Nat.lt_succ_self _)
  exact hlp9_2319 (((z1907.toInt : Int) - (-2)).toNat + 1) z1907 f1893 0 f1890 bz1907 (gB_w (gBl (show Int32.toInt 0 = 0 by decide)) (by decide) (by decide)) (by have qa0 : Int32.toInt 0 = 0 := (by decide); omega) x1903 (Nat.lt_succ_self _)
abbrev ky_2563_Live_solve : gKey := (cX5_solve, 6, yX5_solve.cls, none, [], yX5_solve.name, fun _ _ => True)
abbrev po_2563_Live_solve (I : FieldType → ClassId) (q2526 : Nat) (q2527 : Nat) (q2528 : Nat) (q2529 : Nat) (q2530 : Nat) (q2531 : Nat) (q2532 : Nat) (q2533 : Nat) (q2534 : Nat) (q2535 : Nat) (q2536 : Nat) (q2537 : Nat) (q2538 : Nat) (q2539 : Nat) (q2540 : Nat) (p2541 : Int32) (p2542 : Int32) (p2543 : Int32) (p2544 : Int32) (p2545 : Int32) (p2546 : Int32) (p2547 : Int32) (p2548 : Int32) (f2549 : Nat → Int64) (f2550 : Nat → Int64) (f2551 : Nat → Int64) (f2552 : Nat → Int64) (f2553 : Nat → Int32) (f2554 : Nat → Int32) (f2555 : Nat → Int32) (f2556 : Nat → Int32) (f2557 : Nat → Int32) (f2558 : Nat → Int32) (f2559 : Nat → Int32) (f2560 : Nat → Int32) (f2561 : Nat → Int32) : Option Value → va_W → Prop := fun r w => ∃ (o6885 : Int32) (o6886 : Int32) (o6887 : Int32) (f6888 : Nat → Int64) (f6889 : Nat → Int64) (f6890 : Nat → Int64) (f6891 : Nat → Int64), r = none ∧ w = [(q2526, .inr (10, [.ref q2528, .ref q2529, .ref q2530, .ref q2531, .int o6885, .int o6886, .int o6887])), (q2527, .inr (5, [.ref q2532, .ref q2533, .ref q2534, .ref q2535, .ref q2536, .ref q2537, .ref q2538, .ref q2539, .ref q2540, .int p2546, .int p2547, .int p2548])), (q2528, .inl (I .long, 480, .inr (.inl f6888))), (q2529, .inl (I .long, 480, .inr (.inl f6889))), (q2530, .inl (I .long, 480, .inr (.inl f6890))), (q2531, .inl (I .long, 12, .inr (.inl f6891))), (q2532, .inl (I .int, 40, .inl f2553)), (q2533, .inl (I .int, 40, .inl f2554)), (q2534, .inl (I .int, 40, .inl f2555)), (q2535, .inl (I .int, 200, .inl f2556)), (q2536, .inl (I .int, 200, .inl f2557)), (q2537, .inl (I .int, 200, .inl f2558)), (q2538, .inl (I .int, 200, .inl f2559)), (q2539, .inl (I .int, 200, .inl f2560)), (q2540, .inl (I .int, 200, .inl f2561))] ∧ gB o6885 0 720 ∧ gB o6886 0 12 ∧ gB o6887 0 1 ∧ lb_W f6888 (p2546.toInt * o6886.toInt) (o6886.toInt) (o6885.toInt) ∧ lb_W f6889 (p2546.toInt * o6886.toInt) (o6886.toInt) (o6885.toInt) ∧ lb_W f6890 (p2546.toInt * o6886.toInt) (o6886.toInt) (o6885.toInt) ∧ o6886.toInt = (o6885.toInt + 63) / 64
set_option maxRecDepth 100000 in
set_option maxHeartbeats 4000000 in
theorem ct_2563_Live_solve (l : Launch) (hl0 : l.stackTraces = false) (D : va_G) (I : FieldType → ClassId) (q2526 : Nat) (q2527 : Nat) (q2528 : Nat) (q2529 : Nat) (q2530 : Nat) (q2531 : Nat) (q2532 : Nat) (q2533 : Nat) (q2534 : Nat) (q2535 : Nat) (q2536 : Nat) (q2537 : Nat) (q2538 : Nat) (q2539 : Nat) (q2540 : Nat) (p2541 : Int32) (p2542 : Int32) (p2543 : Int32) (p2544 : Int32) (p2545 : Int32) (p2546 : Int32) (p2547 : Int32) (p2548 : Int32) (f2549 : Nat → Int64) (f2550 : Nat → Int64) (f2551 : Nat → Int64) (f2552 : Nat → Int64) (f2553 : Nat → Int32) (f2554 : Nat → Int32) (f2555 : Nat → Int32) (f2556 : Nat → Int32) (f2557 : Nat → Int32) (f2558 : Nat → Int32) (f2559 : Nat → Int32) (f2560 : Nat → Int32) (f2561 : Nat → Int32) (bp2542 : gB p2542 0 1) (bp2543 : gB p2543 0 720) (bp2544 : gB p2544 0 12) (bp2545 : gB p2545 0 1) (bp2546 : gB p2546 0 40) (bp2547 : gB p2547 0 200) (bp2548 : gB p2548 0 1) (bf2553 : gF f2553 0 200) (bf2556 : gF f2556 0 21) (x2562 : p2544.toInt = (p2543.toInt + 63) / 64) : Ct (gV D I) l yX5_solve cX5_solve 6 none 2 54 0 0 [.ref q2526, .ref q2527, .int p2541, .int p2542] [(q2526, .inr (10, [.ref q2528, .ref q2529, .ref q2530, .ref q2531, .int p2543, .int p2544, .int p2545])), (q2527, .inr (5, [.ref q2532, .ref q2533, .ref q2534, .ref q2535, .ref q2536, .ref q2537, .ref q2538, .ref q2539, .ref q2540, .int p2546, .int p2547, .int p2548])), (q2528, .inl (I .long, 480, .inr (.inl f2549))), (q2529, .inl (I .long, 480, .inr (.inl f2550))), (q2530, .inl (I .long, 480, .inr (.inl f2551))), (q2531, .inl (I .long, 12, .inr (.inl f2552))), (q2532, .inl (I .int, 40, .inl f2553)), (q2533, .inl (I .int, 40, .inl f2554)), (q2534, .inl (I .int, 40, .inl f2555)), (q2535, .inl (I .int, 200, .inl f2556)), (q2536, .inl (I .int, 200, .inl f2557)), (q2537, .inl (I .int, 200, .inl f2558)), (q2538, .inl (I .int, 200, .inl f2559)), (q2539, .inl (I .int, 200, .inl f2560)), (q2540, .inl (I .int, 200, .inl f2561))] (po_2563_Live_solve I q2526 q2527 q2528 q2529 q2530 q2531 q2532 q2533 q2534 q2535 q2536 q2537 q2538 q2539 q2540 p2541 p2542 p2543 p2544 p2545 p2546 p2547 p2548 f2549 f2550 f2551 f2552 f2553 f2554 f2555 f2556 f2557 f2558 f2559 f2560 f2561) gN := by
  refine Ct_of hl0 (by decide) (Nat.le_of_ble_eq_true rfl) ?_
  have bp2541 := gB_any p2541
  refine G_aload_n 0 d_cX5_solve_0 rfl ?_
  refine G_iconst 0 d_cX5_solve_1 (by decide +kernel) ?_
  refine G_iload_n 2 d_cX5_solve_2 rfl ?_
  refine G_sipush 720 d_cX5_solve_3 (by decide +kernel) ?_
  refine G_mmin d_cX5_solve_6 w_4_29 w_3_227 w_1_6 w_3_228 (Nat.le_of_ble_eq_true rfl) (Nat.le_of_ble_eq_true rfl) (Nat.le_of_ble_eq_true rfl) (Nat.le_of_ble_eq_true rfl) (G_nam fun z2564 hz2564 => ?_)
  have ez2564 : p2541.toInt ≥ z2564.toInt ∧ 720 ≥ z2564.toInt ∧ (z2564.toInt = p2541.toInt ∨ z2564.toInt = 720) := by have := gI_min hz2564; rw [show Int32.toInt 720 = 720 from by decide] at this; omega
  have bz2564 : gB z2564 (-2147483648) 720 := ⟨by omega, by omega⟩
  refine G_mmax d_cX5_solve_9 w_4_30 w_1_140 w_1_6 w_1_141 (Nat.le_of_ble_eq_true rfl) (Nat.le_of_ble_eq_true rfl) (Nat.le_of_ble_eq_true rfl) (Nat.le_of_ble_eq_true rfl) (G_nam fun z2565 hz2565 => ?_)
  have ez2565 : 0 ≤ z2565.toInt ∧ z2564.toInt ≤ z2565.toInt ∧ (z2565.toInt = 0 ∨ z2565.toInt = z2564.toInt) := by have := gI_max hz2565; rw [show Int32.toInt 0 = 0 from by decide] at this; omega
  have bz2565 : gB z2565 0 720 := ⟨by omega, by omega⟩
  refine G_putf (ws' := [(q2526, .inr (10, [.ref q2528, .ref q2529, .ref q2530, .ref q2531, .int z2565, .int p2544, .int p2545])), (q2527, .inr (5, [.ref q2532, .ref q2533, .ref q2534, .ref q2535, .ref q2536, .ref q2537, .ref q2538, .ref q2539, .ref q2540, .int p2546, .int p2547, .int p2548])), (q2528, .inl (I .long, 480, .inr (.inl f2549))), (q2529, .inl (I .long, 480, .inr (.inl f2550))), (q2530, .inl (I .long, 480, .inr (.inl f2551))), (q2531, .inl (I .long, 12, .inr (.inl f2552))), (q2532, .inl (I .int, 40, .inl f2553)), (q2533, .inl (I .int, 40, .inl f2554)), (q2534, .inl (I .int, 40, .inl f2555)), (q2535, .inl (I .int, 200, .inl f2556)), (q2536, .inl (I .int, 200, .inl f2557)), (q2537, .inl (I .int, 200, .inl f2558)), (q2538, .inl (I .int, 200, .inl f2559)), (q2539, .inl (I .int, 200, .inl f2560)), (q2540, .inl (I .int, 200, .inl f2561))]) 0 4 d_cX5_solve_12 rfl (gk_X5 D I) (Nat.le_of_ble_eq_true rfl) w_2_27 rfl rfl rfl (Nat.le_of_ble_eq_true rfl) rfl ?_
  refine G_aload_n 0 d_cX5_solve_15 rfl ?_
  refine G_aload_n 0 d_cX5_solve_16 rfl ?_
  refine G_getf 0 4 d_cX5_solve_17 rfl (gk_X5 D I) (Nat.le_of_ble_eq_true rfl) w_2_27 rfl ?_
  refine G_bipush 63 d_cX5_solve_20 (by decide +kernel) ?_
  refine G_iadd d_cX5_solve_22 (G_nam fun z2566 hz2566 => ?_)
  have ez2566 : z2566.toInt = z2565.toInt + 63 := by rw [gI_add hz2566 bz2565 (gBl (show Int32.toInt 63 = 63 by decide)) (by decide) (by decide), show Int32.toInt 63 = 63 from by decide]
  have bz2566 : gB z2566 63 783 := gB_add (gI_add hz2566 bz2565 (gBl (show Int32.toInt 63 = 63 by decide)) (by decide) (by decide)) bz2565 (gBl (show Int32.toInt 63 = 63 by decide)) (by decide) (by decide)
  refine G_bipush 6 d_cX5_solve_23 (by decide +kernel) ?_
  refine G_ishr d_cX5_solve_25 (G_nam fun z2567 hz2567 => ?_)
  have ez2567 : z2567.toInt = z2566.toInt / 64 := gI_shr (k := 6) hz2567 (by decide)
  have bz2567 : gB z2567 0 12 := ⟨by omega, by omega⟩
  refine G_putf (ws' := [(q2526, .inr (10, [.ref q2528, .ref q2529, .ref q2530, .ref q2531, .int z2565, .int z2567, .int p2545])), (q2527, .inr (5, [.ref q2532, .ref q2533, .ref q2534, .ref q2535, .ref q2536, .ref q2537, .ref q2538, .ref q2539, .ref q2540, .int p2546, .int p2547, .int p2548])), (q2528, .inl (I .long, 480, .inr (.inl f2549))), (q2529, .inl (I .long, 480, .inr (.inl f2550))), (q2530, .inl (I .long, 480, .inr (.inl f2551))), (q2531, .inl (I .long, 12, .inr (.inl f2552))), (q2532, .inl (I .int, 40, .inl f2553)), (q2533, .inl (I .int, 40, .inl f2554)), (q2534, .inl (I .int, 40, .inl f2555)), (q2535, .inl (I .int, 200, .inl f2556)), (q2536, .inl (I .int, 200, .inl f2557)), (q2537, .inl (I .int, 200, .inl f2558)), (q2538, .inl (I .int, 200, .inl f2559)), (q2539, .inl (I .int, 200, .inl f2560)), (q2540, .inl (I .int, 200, .inl f2561))]) 0 5 d_cX5_solve_26 rfl (gk_X5 D I) (Nat.le_of_ble_eq_true rfl) w_2_29 rfl rfl rfl (Nat.le_of_ble_eq_true rfl) rfl ?_
  refine G_aload_n 0 d_cX5_solve_29 rfl ?_
  refine G_iload_n 3 d_cX5_solve_30 rfl ?_
  refine G_putf (ws' := [(q2526, .inr (10, [.ref q2528, .ref q2529, .ref q2530, .ref q2531, .int z2565, .int z2567, .int p2542])), (q2527, .inr (5, [.ref q2532, .ref q2533, .ref q2534, .ref q2535, .ref q2536, .ref q2537, .ref q2538, .ref q2539, .ref q2540, .int p2546, .int p2547, .int p2548])), (q2528, .inl (I .long, 480, .inr (.inl f2549))), (q2529, .inl (I .long, 480, .inr (.inl f2550))), (q2530, .inl (I .long, 480, .inr (.inl f2551))), (q2531, .inl (I .long, 12, .inr (.inl f2552))), (q2532, .inl (I .int, 40, .inl f2553)), (q2533, .inl (I .int, 40, .inl f2554)), (q2534, .inl (I .int, 40, .inl f2555)), (q2535, .inl (I .int, 200, .inl f2556)), (q2536, .inl (I .int, 200, .inl f2557)), (q2537, .inl (I .int, 200, .inl f2558)), (q2538, .inl (I .int, 200, .inl f2559)), (q2539, .inl (I .int, 200, .inl f2560)), (q2540, .inl (I .int, 200, .inl f2561))]) 0 6 d_cX5_solve_31 rfl (gk_X5 D I) (Nat.le_of_ble_eq_true rfl) w_2_31 rfl (gN_bool bp2542) (gT_bool bp2542) (Nat.le_of_ble_eq_true rfl) rfl ?_
  refine G_iconst 0 d_cX5_solve_34 (by decide +kernel) ?_
  refine G_istore (L' := [(4, .int 0), (0, .ref q2526), (1, .ref q2527), (2, .int p2541), (3, .int p2542)]) d_cX5_solve_35 (Nat.le_of_ble_eq_true rfl) rfl ?_
  have hlp37_6271 : ∀ (n37_6271 : Nat) (g6265 : Int32) (f6266 : Nat → Int64) (f6267 : Nat → Int64) (f6268 : Nat → Int64), gB g6265 0 480 → lb_Z f6266 (g6265.toInt) → lb_Z f6267 (g6265.toInt) → lb_Z f6268 (g6265.toInt) → ((481 : Int) - g6265.toInt).toNat < n37_6271 → G (gV D I) l (gRm 2 54 0 0) (gM (gV D I) (po_2563_Live_solve I q2526 q2527 q2528 q2529 q2530 q2531 q2532 q2533 q2534 q2535 q2536 q2537 q2538 q2539 q2540 p2541 p2542 p2543 p2544 p2545 p2546 p2547 p2548 f2549 f2550 f2551 f2552 f2553 f2554 f2555 f2556 f2557 f2558 f2559 f2560 f2561) gN 0 0) ky_2563_Live_solve 37 [(4, .int g6265), (0, .ref q2526), (1, .ref q2527), (2, .int p2541), (3, .int p2542)] [] [(q2526, .inr (10, [.ref q2528, .ref q2529, .ref q2530, .ref q2531, .int z2565, .int z2567, .int p2542])), (q2527, .inr (5, [.ref q2532, .ref q2533, .ref q2534, .ref q2535, .ref q2536, .ref q2537, .ref q2538, .ref q2539, .ref q2540, .int p2546, .int p2547, .int p2548])), (q2528, .inl (I .long, 480, .inr (.inl f6266))), (q2529, .inl (I .long, 480, .inr (.inl f6267))), (q2530, .inl (I .long, 480, .inr (.inl f6268))), (q2531, .inl (I .long, 12, .inr (.inl f2552))), (q2532, .inl (I .int, 40, .inl f2553)), (q2533, .inl (I .int, 40, .inl f2554)), (q2534, .inl (I .int, 40, .inl f2555)), (q2535, .inl (I .int, 200, .inl f2556)), (q2536, .inl (I .int, 200, .inl f2557)), (q2537, .inl (I .int, 200, .inl f2558)), (q2538, .inl (I .int, 200, .inl f2559)), (q2539, .inl (I .int, 200, .inl f2560)), (q2540, .inl (I .int, 200, .inl f2561))] 0 0 := by
    intro n37_6271
    induction n37_6271 with
    | zero => intro g6265 f6266 f6267 f6268 bg6265 x6269 x6270 x6271 hm37_6271; exact absurd hm37_6271 (Nat.not_lt_zero _)
    | succ n37_6271 ih37_6271 =>
      intro g6265 f6266 f6267 f6268 bg6265 x6269 x6270 x6271 hm37_6271
      refine G_iload 0 d_cX5_solve_37 rfl ?_
      refine G_aload_n 2 d_cX5_solve_39 rfl ?_
      refine G_getfN 1 9 d_cX5_solve_40 rfl (gk_X0 D I) (Nat.le_of_ble_eq_true rfl) (fun _ _ _ h => gn_w 37 rfl h) rfl ?_
      refine G_aload_n 1 d_cX5_solve_43 rfl ?_
      refine G_getf 0 5 d_cX5_solve_44 rfl (gk_X5 D I) (Nat.le_of_ble_eq_true rfl) w_2_29 rfl ?_
      refine G_imul d_cX5_solve_47 (G_nam fun z6272 hz6272 => ?_)
      have ez6272 : z6272.toInt = p2546.toInt * z2567.toInt := by rw [gI_mul hz6272 bp2546 bz2567 (by decide) (by decide) (by decide)]
      have bz6272 : gB z6272 0 480 := gB_mul hz6272 bp2546 bz2567 (by decide) (by decide) (by decide) (by decide)
      refine G_icmp_ge 81 d_cX5_solve_48 (by decide +kernel) (fun hc6273 => ?_) (fun hc6273 => ?_)
      · have r6274 : z6272.toInt ≤ g6265.toInt := gC_le hc6273
        refine G_iconst 0 d_cX5_solve_81 (by decide +kernel) ?_
        refine G_istore (L' := [(4, .int 0), (0, .ref q2526), (1, .ref q2527), (2, .int p2541), (3, .int p2542)]) d_cX5_solve_82 (Nat.le_of_ble_eq_true rfl) rfl ?_
        have hlp84_6776 : ∀ (n84_6776 : Nat) (g6772 : Int32) (f6773 : Nat → Int64) (f6774 : Nat → Int64), gB g6772 0 40 → lb_W f6773 (p2546.toInt * z2567.toInt) (z2567.toInt) (z2565.toInt) → lb_W f6774 (p2546.toInt * z2567.toInt) (z2567.toInt) (z2565.toInt) → ((41 : Int) - g6772.toInt).toNat < n84_6776 → G (gV D I) l (gRm 2 54 0 0) (gM (gV D I) (po_2563_Live_solve I q2526 q2527 q2528 q2529 q2530 q2531 q2532 q2533 q2534 q2535 q2536 q2537 q2538 q2539 q2540 p2541 p2542 p2543 p2544 p2545 p2546 p2547 p2548 f2549 f2550 f2551 f2552 f2553 f2554 f2555 f2556 f2557 f2558 f2559 f2560 f2561) gN 0 0) ky_2563_Live_solve 84 [(4, .int g6772), (0, .ref q2526), (1, .ref q2527), (2, .int p2541), (3, .int p2542)] [] [(q2526, .inr (10, [.ref q2528, .ref q2529, .ref q2530, .ref q2531, .int z2565, .int z2567, .int p2542])), (q2527, .inr (5, [.ref q2532, .ref q2533, .ref q2534, .ref q2535, .ref q2536, .ref q2537, .ref q2538, .ref q2539, .ref q2540, .int p2546, .int p2547, .int p2548])), (q2528, .inl (I .long, 480, .inr (.inl f6266))), (q2529, .inl (I .long, 480, .inr (.inl f6773))), (q2530, .inl (I .long, 480, .inr (.inl f6774))), (q2531, .inl (I .long, 12, .inr (.inl f2552))), (q2532, .inl (I .int, 40, .inl f2553)), (q2533, .inl (I .int, 40, .inl f2554)), (q2534, .inl (I .int, 40, .inl f2555)), (q2535, .inl (I .int, 200, .inl f2556)), (q2536, .inl (I .int, 200, .inl f2557)), (q2537, .inl (I .int, 200, .inl f2558)), (q2538, .inl (I .int, 200, .inl f2559)), (q2539, .inl (I .int, 200, .inl f2560)), (q2540, .inl (I .int, 200, .inl f2561))] 0 0 := by
          intro n84_6776
          induction n84_6776 with
          | zero => intro g6772 f6773 f6774 bg6772 x6775 x6776 hm84_6776; exact absurd hm84_6776 (Nat.not_lt_zero _)
          | succ n84_6776 ih84_6776 =>
            intro g6772 f6773 f6774 bg6772 x6775 x6776 hm84_6776
            refine G_iload 0 d_cX5_solve_84 rfl ?_
            refine G_aload_n 2 d_cX5_solve_86 rfl ?_
            refine G_getfN 1 9 d_cX5_solve_87 rfl (gk_X0 D I) (Nat.le_of_ble_eq_true rfl) (fun _ _ _ h => gn_w 37 rfl h) rfl ?_
            refine G_icmp_ge 106 d_cX5_solve_90 (by decide +kernel) (fun hc6777 => ?_) (fun hc6777 => ?_)
            · have r6778 : p2546.toInt ≤ g6772.toInt := gC_le hc6777
              refine G_iconst 1 d_cX5_solve_106 (by decide +kernel) ?_
              refine G_istore (L' := [(4, .int 1), (0, .ref q2526), (1, .ref q2527), (2, .int p2541), (3, .int p2542)]) d_cX5_solve_107 (Nat.le_of_ble_eq_true rfl) rfl ?_
              refine G_iconst 0 d_cX5_solve_109 (by decide +kernel) ?_
              refine G_istore (L' := [(5, .int 0), (4, .int 1), (0, .ref q2526), (1, .ref q2527), (2, .int p2541), (3, .int p2542)]) d_cX5_solve_110 (Nat.le_of_ble_eq_true rfl) rfl ?_
              have hlp112_6862 : ∀ (n112_6862 : Nat) (g6858 : Int32) (g6859 : Int32) (f6860 : Nat → Int64) (f6861 : Nat → Int64), gB g6858 0 41 → gB g6859 0 1 → lb_W f6860 (p2546.toInt * z2567.toInt) (z2567.toInt) (z2565.toInt) → ((42 : Int) - g6858.toInt).toNat < n112_6862 → G (gV D I) l (gRm 2 54 0 0) (gM (gV D I) (po_2563_Live_solve I q2526 q2527 q2528 q2529 q2530 q2531 q2532 q2533 q2534 q2535 q2536 q2537 q2538 q2539 q2540 p2541 p2542 p2543 p2544 p2545 p2546 p2547 p2548 f2549 f2550 f2551 f2552 f2553 f2554 f2555 f2556 f2557 f2558 f2559 f2560 f2561) gN 0 0) ky_2563_Live_solve 112 [(5, .int g6858), (4, .int g6859), (0, .ref q2526), (1, .ref q2527), (2, .int p2541), (3, .int p2542)] [] [(q2526, .inr (10, [.ref q2528, .ref q2529, .ref q2530, .ref q2531, .int z2565, .int z2567, .int p2542])), (q2527, .inr (5, [.ref q2532, .ref q2533, .ref q2534, .ref q2535, .ref q2536, .ref q2537, .ref q2538, .ref q2539, .ref q2540, .int p2546, .int p2547, .int p2548])), (q2528, .inl (I .long, 480, .inr (.inl f6860))), (q2529, .inl (I .long, 480, .inr (.inl f6773))), (q2530, .inl (I .long, 480, .inr (.inl f6774))), (q2531, .inl (I .long, 12, .inr (.inl f6861))), (q2532, .inl (I .int, 40, .inl f2553)), (q2533, .inl (I .int, 40, .inl f2554)), (q2534, .inl (I .int, 40, .inl f2555)), (q2535, .inl (I .int, 200, .inl f2556)), (q2536, .inl (I .int, 200, .inl f2557)), (q2537, .inl (I .int, 200, .inl f2558)), (q2538, .inl (I .int, 200, .inl f2559)), (q2539, .inl (I .int, 200, .inl f2560)), (q2540, .inl (I .int, 200, .inl f2561))] 0 0 := by
                intro n112_6862
                induction n112_6862 with
                | zero => intro g6858 g6859 f6860 f6861 bg6858 bg6859 x6862 hm112_6862; exact absurd hm112_6862 (Nat.not_lt_zero _)
                | succ n112_6862 ih112_6862 =>
                  intro g6858 g6859 f6860 f6861 bg6858 bg6859 x6862 hm112_6862
                  refine G_iload 0 d_cX5_solve_112 rfl ?_
                  refine G_aload_n 3 d_cX5_solve_114 rfl ?_
                  refine G_getfN 1 9 d_cX5_solve_115 rfl (gk_X0 D I) (Nat.le_of_ble_eq_true rfl) (fun _ _ _ h => gn_w 37 rfl h) rfl ?_
                  refine G_icmp_gt 139 d_cX5_solve_118 (by decide +kernel) (fun hc6863 => ?_) (fun hc6863 => ?_)
                  · have r6864 : p2546.toInt < g6858.toInt := gC_lt hc6863
                    have bg6858' : gB g6858 1 41 := ⟨by omega, by omega⟩
                    exact G_vret d_cX5_solve_139 rfl (Nat.le_of_ble_eq_true rfl) (Nat.le_of_ble_eq_true rfl) ⟨z2565, z2567, p2542, f6860, f6773, f6774, f6861, rfl, rfl, bz2565, bz2567, bp2542, x6862, x6775, x6776, (by omega)⟩
                  · have r6865 : g6858.toInt ≤ p2546.toInt := gC_nlt hc6863
                    have bg6858' : gB g6858 0 40 := ⟨by omega, by omega⟩
                    refine G_iload 1 d_cX5_solve_121 rfl ?_
                    refine G_if_eq 139 d_cX5_solve_123 (by decide +kernel) (fun hc6866 => ?_) (fun hc6866 => ?_)
                    · have r6867 : g6859.toInt = 0 := gj_eq hc6866 (show Int32.toInt 0 = 0 by decide)
                      have bg6859' : gB g6859 0 0 := ⟨by omega, by omega⟩
                      exact G_vret d_cX5_solve_139 rfl (Nat.le_of_ble_eq_true rfl) (Nat.le_of_ble_eq_true rfl) ⟨z2565, z2567, p2542, f6860, f6773, f6774, f6861, rfl, rfl, bz2565, bz2567, bp2542, x6862, x6775, x6776, (by omega)⟩
                    · have r6868 : g6859.toInt ≠ 0 := gj_neq hc6866 (show Int32.toInt 0 = 0 by decide)
                      have bg6859' : gB g6859 1 1 := ⟨by omega, by omega⟩
                      refine G_aload_n 2 d_cX5_solve_126 rfl ?_
                      refine G_aload_n 3 d_cX5_solve_127 rfl ?_
                      refine G_callV (As := [.ref q2527]) (wr := []) (gV_ok D I) (ct_1906_Live_sweep l hl0 D I q2526 q2527 q2528 q2529 q2530 q2531 q2532 q2533 q2534 q2535 q2536 q2537 q2538 q2539 q2540 z2565 z2567 p2542 p2546 p2547 p2548 f6860 f6773 f6774 f6861 f2553 f2554 f2555 f2556 f2557 f2558 f2559 f2560 f2561 bz2565 bz2567 bp2542 bp2546 bp2547 bp2548 bf2553 bf2556 x6862 x6775 (by omega)) d_cX5_solve_128 ⟨w_4_60, w_1_10, w_4_63, by decide, rfl, (Nat.le_of_ble_eq_true rfl), (Nat.le_of_ble_eq_true rfl)⟩ w_4_62 w_p_32 0 rfl rfl [0, 1, 2, 3, 4, 5, 6, 7, 8, 9, 10, 11, 12, 13, 14] [] rfl rfl rfl rfl (by decide) (Nat.le_of_ble_eq_true rfl) (Nat.le_of_ble_eq_true rfl) (Nat.le_of_ble_eq_true rfl) (fun r w hp => ?_) (fun _ _ _ z => z.elim)
                      obtain ⟨o6869, f6870, f6871, rfl, rfl, bo6869, x6872⟩ := hp
                      change G _ _ _ _ _ _ _ (.int o6869 :: _) _ _ _
                      refine G_ws (ws' := [(q2526, .inr (10, [.ref q2528, .ref q2529, .ref q2530, .ref q2531, .int z2565, .int z2567, .int p2542])), (q2527, .inr (5, [.ref q2532, .ref q2533, .ref q2534, .ref q2535, .ref q2536, .ref q2537, .ref q2538, .ref q2539, .ref q2540, .int p2546, .int p2547, .int p2548])), (q2528, .inl (I .long, 480, .inr (.inl f6870))), (q2529, .inl (I .long, 480, .inr (.inl f6773))), (q2530, .inl (I .long, 480, .inr (.inl f6774))), (q2531, .inl (I .long, 12, .inr (.inl f6871))), (q2532, .inl (I .int, 40, .inl f2553)), (q2533, .inl (I .int, 40, .inl f2554)), (q2534, .inl (I .int, 40, .inl f2555)), (q2535, .inl (I .int, 200, .inl f2556)), (q2536, .inl (I .int, 200, .inl f2557)), (q2537, .inl (I .int, 200, .inl f2558)), (q2538, .inl (I .int, 200, .inl f2559)), (q2539, .inl (I .int, 200, .inl f2560)), (q2540, .inl (I .int, 200, .inl f2561))]) (cs' := 0) (sl' := 0) rfl rfl rfl ?_
                      refine G_istore (L' := [(4, .int o6869), (5, .int g6858), (0, .ref q2526), (1, .ref q2527), (2, .int p2541), (3, .int p2542)]) d_cX5_solve_131 (Nat.le_of_ble_eq_true rfl) rfl ?_
                      obtain ⟨z6873, hz6873⟩ : ∃ z : Int32, z = g6858 + Int32.ofInt 1 := ⟨_, rfl⟩
                      have ez6873 : z6873.toInt = g6858.toInt + 1 := gI_inc hz6873 (by decide) bg6858' (by decide) (by decide)
                      have bz6873 : gB z6873 1 41 := ⟨by omega, by omega⟩
                      refine G_iinc (L' := [(5, .int z6873), (4, .int o6869), (0, .ref q2526), (1, .ref q2527), (2, .int p2541), (3, .int p2542)]) z6873 1 d_cX5_solve_133 rfl hz6873.symm (Nat.le_of_ble_eq_true rfl) rfl ?_
                      refine G_goto 112 d_cX5_solve_136 (by decide +kernel) ?_
                      exact ih112_6862 z6873 o6869 f6870 f6871 (gB_w bz6873 (by decide) (by decide)) bo6869 x6872 (by omega)
              exact hlp112_6862 (((42 : Int) - 0).toNat + 1) 0 1 f6266 f2552 (gB_w (gBl (show Int32.toInt 0 = 0 by decide)) (by decide) (by decide)) (gB_w (gBl (show Int32.toInt 1 = 1 by decide)) (by decide) (by decide)) (lb_Wz (lb_Zle x6269 (by omega))) (Nat.lt_succ_self _)
            · have r6874 : g6772.toInt < p2546.toInt := gC_nle hc6777
              have bg6772' : gB g6772 0 39 := ⟨by omega, by omega⟩
              have bp2546' : gB p2546 1 40 := ⟨by omega, by omega⟩
              refine G_aload_n 1 d_cX5_solve_93 rfl ?_
              refine G_aload_n 2 d_cX5_solve_94 rfl ?_
              refine G_iload 0 d_cX5_solve_95 rfl ?_
              refine G_callV (As := [.ref q2527, .int g6772]) (wr := []) (gV_ok D I) (ct_97_Live_gather l hl0 D I q2526 q2527 q2528 q2529 q2530 q2531 q2532 q2533 q2534 q2535 q2536 q2537 q2538 q2539 q2540 g6772 z2565 z2567 p2542 p2546 p2547 p2548 f6266 f6773 f6774 f2552 f2553 f2554 f2555 f2556 f2557 f2558 f2559 f2560 f2561 bg6772' bz2565 bz2567 bp2542 (gB_w bp2546' (by decide) (by decide)) bp2547 bp2548 bf2553 bf2556 (by omega) x6775 x6776 (by omega)) d_cX5_solve_97 ⟨w_4_31, w_1_10, w_4_34, by decide, rfl, (Nat.le_of_ble_eq_true rfl), (Nat.le_of_ble_eq_true rfl)⟩ w_4_33 w_p_30 0 rfl rfl [0, 1, 2, 3, 4, 5, 6, 7, 8, 9, 10, 11, 12, 13, 14] [] rfl rfl rfl rfl (by decide) (Nat.le_of_ble_eq_true rfl) (Nat.le_of_ble_eq_true rfl) (Nat.le_of_ble_eq_true rfl) (fun r w hp => ?_) (fun _ _ _ z => z.elim)
              obtain ⟨f6875, f6876, rfl, rfl, x6877, x6878⟩ := hp
              change G _ _ _ _ _ _ _ _ _ _ _
              refine G_ws (ws' := [(q2526, .inr (10, [.ref q2528, .ref q2529, .ref q2530, .ref q2531, .int z2565, .int z2567, .int p2542])), (q2527, .inr (5, [.ref q2532, .ref q2533, .ref q2534, .ref q2535, .ref q2536, .ref q2537, .ref q2538, .ref q2539, .ref q2540, .int p2546, .int p2547, .int p2548])), (q2528, .inl (I .long, 480, .inr (.inl f6266))), (q2529, .inl (I .long, 480, .inr (.inl f6875))), (q2530, .inl (I .long, 480, .inr (.inl f6876))), (q2531, .inl (I .long, 12, .inr (.inl f2552))), (q2532, .inl (I .int, 40, .inl f2553)), (q2533, .inl (I .int, 40, .inl f2554)), (q2534, .inl (I .int, 40, .inl f2555)), (q2535, .inl (I .int, 200, .inl f2556)), (q2536, .inl (I .int, 200, .inl f2557)), (q2537, .inl (I .int, 200, .inl f2558)), (q2538, .inl (I .int, 200, .inl f2559)), (q2539, .inl (I .int, 200, .inl f2560)), (q2540, .inl (I .int, 200, .inl f2561))]) (cs' := 0) (sl' := 0) rfl rfl rfl ?_
              obtain ⟨z6879, hz6879⟩ : ∃ z : Int32, z = g6772 + Int32.ofInt 1 := ⟨_, rfl⟩
              have ez6879 : z6879.toInt = g6772.toInt + 1 := gI_inc hz6879 (by decide) bg6772' (by decide) (by decide)
              have bz6879 : gB z6879 1 40 := ⟨by omega, by omega⟩
              refine G_iinc (L' := [(4, .int z6879), (0, .ref q2526), (1, .ref q2527), (2, .int p2541), (3, .int p2542)]) z6879 0 d_cX5_solve_100 rfl hz6879.symm (Nat.le_of_ble_eq_true rfl) rfl ?_
              refine G_goto 84 d_cX5_solve_103 (by decide +kernel) ?_
              exact ih84_6776 z6879 f6875 f6876 (gB_w bz6879 (by decide) (by decide)) x6877 x6878 (by omega)
        exact hlp84_6776 (((41 : Int) - 0).toNat + 1) 0 f6267 f6268 (gB_w (gBl (show Int32.toInt 0 = 0 by decide)) (by decide) (by decide)) (lb_Wz (lb_Zle x6270 (by omega))) (lb_Wz (lb_Zle x6271 (by omega))) (Nat.lt_succ_self _)
      · have r6880 : g6265.toInt < z6272.toInt := gC_nle hc6273
        have bg6265' : gB g6265 0 479 := ⟨by omega, by omega⟩
        have bz6272' : gB z6272 1 480 := ⟨by omega, by omega⟩
        refine G_aload_n 1 d_cX5_solve_51 rfl ?_
        refine G_getf 0 0 d_cX5_solve_52 rfl (gk_X5 D I) (Nat.le_of_ble_eq_true rfl) w_2_22 rfl ?_
        refine G_iload 0 d_cX5_solve_55 rfl ?_
        refine G_lconst 0 d_cX5_solve_57 rfl ?_
        refine G_lastN 2 2 d_cX5_solve_58 rfl rfl (gB_in bg6265' (by decide) (by decide)) (fun f6881 hf6881 => ?_)
        refine G_ws (ws' := [(q2526, .inr (10, [.ref q2528, .ref q2529, .ref q2530, .ref q2531, .int z2565, .int z2567, .int p2542])), (q2527, .inr (5, [.ref q2532, .ref q2533, .ref q2534, .ref q2535, .ref q2536, .ref q2537, .ref q2538, .ref q2539, .ref q2540, .int p2546, .int p2547, .int p2548])), (q2528, .inl (I .long, 480, .inr (.inl f6881))), (q2529, .inl (I .long, 480, .inr (.inl f6267))), (q2530, .inl (I .long, 480, .inr (.inl f6268))), (q2531, .inl (I .long, 12, .inr (.inl f2552))), (q2532, .inl (I .int, 40, .inl f2553)), (q2533, .inl (I .int, 40, .inl f2554)), (q2534, .inl (I .int, 40, .inl f2555)), (q2535, .inl (I .int, 200, .inl f2556)), (q2536, .inl (I .int, 200, .inl f2557)), (q2537, .inl (I .int, 200, .inl f2558)), (q2538, .inl (I .int, 200, .inl f2559)), (q2539, .inl (I .int, 200, .inl f2560)), (q2540, .inl (I .int, 200, .inl f2561))]) (cs' := 0) (sl' := 0) rfl rfl rfl ?_
        refine G_aload_n 1 d_cX5_solve_59 rfl ?_
        refine G_getf 0 1 d_cX5_solve_60 rfl (gk_X5 D I) (Nat.le_of_ble_eq_true rfl) w_2_23 rfl ?_
        refine G_iload 0 d_cX5_solve_63 rfl ?_
        refine G_lconst 0 d_cX5_solve_65 rfl ?_
        refine G_lastN 3 2 d_cX5_solve_66 rfl rfl (gB_in bg6265' (by decide) (by decide)) (fun f6882 hf6882 => ?_)
        refine G_ws (ws' := [(q2526, .inr (10, [.ref q2528, .ref q2529, .ref q2530, .ref q2531, .int z2565, .int z2567, .int p2542])), (q2527, .inr (5, [.ref q2532, .ref q2533, .ref q2534, .ref q2535, .ref q2536, .ref q2537, .ref q2538, .ref q2539, .ref q2540, .int p2546, .int p2547, .int p2548])), (q2528, .inl (I .long, 480, .inr (.inl f6881))), (q2529, .inl (I .long, 480, .inr (.inl f6882))), (q2530, .inl (I .long, 480, .inr (.inl f6268))), (q2531, .inl (I .long, 12, .inr (.inl f2552))), (q2532, .inl (I .int, 40, .inl f2553)), (q2533, .inl (I .int, 40, .inl f2554)), (q2534, .inl (I .int, 40, .inl f2555)), (q2535, .inl (I .int, 200, .inl f2556)), (q2536, .inl (I .int, 200, .inl f2557)), (q2537, .inl (I .int, 200, .inl f2558)), (q2538, .inl (I .int, 200, .inl f2559)), (q2539, .inl (I .int, 200, .inl f2560)), (q2540, .inl (I .int, 200, .inl f2561))]) (cs' := 0) (sl' := 0) rfl rfl rfl ?_
        refine G_aload_n 1 d_cX5_solve_67 rfl ?_
        refine G_getf 0 2 d_cX5_solve_68 rfl (gk_X5 D I) (Nat.le_of_ble_eq_true rfl) w_2_24 rfl ?_
        refine G_iload 0 d_cX5_solve_71 rfl ?_
        refine G_lconst 0 d_cX5_solve_73 rfl ?_
        refine G_lastN 4 2 d_cX5_solve_74 rfl rfl (gB_in bg6265' (by decide) (by decide)) (fun f6883 hf6883 => ?_)
        refine G_ws (ws' := [(q2526, .inr (10, [.ref q2528, .ref q2529, .ref q2530, .ref q2531, .int z2565, .int z2567, .int p2542])), (q2527, .inr (5, [.ref q2532, .ref q2533, .ref q2534, .ref q2535, .ref q2536, .ref q2537, .ref q2538, .ref q2539, .ref q2540, .int p2546, .int p2547, .int p2548])), (q2528, .inl (I .long, 480, .inr (.inl f6881))), (q2529, .inl (I .long, 480, .inr (.inl f6882))), (q2530, .inl (I .long, 480, .inr (.inl f6883))), (q2531, .inl (I .long, 12, .inr (.inl f2552))), (q2532, .inl (I .int, 40, .inl f2553)), (q2533, .inl (I .int, 40, .inl f2554)), (q2534, .inl (I .int, 40, .inl f2555)), (q2535, .inl (I .int, 200, .inl f2556)), (q2536, .inl (I .int, 200, .inl f2557)), (q2537, .inl (I .int, 200, .inl f2558)), (q2538, .inl (I .int, 200, .inl f2559)), (q2539, .inl (I .int, 200, .inl f2560)), (q2540, .inl (I .int, 200, .inl f2561))]) (cs' := 0) (sl' := 0) rfl rfl rfl ?_
        obtain ⟨z6884, hz6884⟩ : ∃ z : Int32, z = g6265 + Int32.ofInt 1 := ⟨_, rfl⟩
        have ez6884 : z6884.toInt = g6265.toInt + 1 := gI_inc hz6884 (by decide) bg6265' (by decide) (by decide)
        have bz6884 : gB z6884 1 480 := ⟨by omega, by omega⟩
        refine G_iinc (L' := [(4, .int z6884), (0, .ref q2526), (1, .ref q2527), (2, .int p2541), (3, .int p2542)]) z6884 0 d_cX5_solve_75 rfl hz6884.symm (Nat.le_of_ble_eq_true rfl) rfl ?_
        refine G_goto 37 d_cX5_solve_78 (by decide +kernel) ?_
        exact ih37_6271 z6884 f6881 f6882 f6883 (gB_w bz6884 (by decide) (by decide)) (lb_Zst hf6881 (by omega) x6269 (by omega)) (lb_Zst hf6882 (by omega) x6270 (by omega)) (lb_Zst hf6883 (by omega) x6271 (by omega)) (by omega)
  exact hlp37_6271 (((481 : Int) - 0).toNat + 1) 0 f2549 f2550 f2551 (gB_w (gBl (show Int32.toInt 0 = 0 by decide)) (by decide) (by decide)) lb_Z0 lb_Z0 lb_Z0 (Nat.lt_succ_self _)
abbrev ky_6976_Live_revive : gKey := (cX5_revive, 2, yX5_revive.cls, none, [], yX5_revive.name, fun _ _ => True)
abbrev po_6976_Live_revive (I : FieldType → ClassId) (q6961 : Nat) (q6962 : Nat) (q6963 : Nat) (q6964 : Nat) (q6965 : Nat) (p6966 : Int32) (p6967 : Int32) (p6968 : Int32) (p6969 : Int32) (f6970 : Nat → Int64) (f6971 : Nat → Int64) (f6972 : Nat → Int64) (f6973 : Nat → Int64) : Option Value → va_W → Prop := fun r w => ∃ (f6988 : Nat → Int64), r = none ∧ w = [(q6961, .inr (10, [.ref q6962, .ref q6963, .ref q6964, .ref q6965, .int p6967, .int p6968, .int p6969])), (q6962, .inl (I .long, 480, .inr (.inl f6970))), (q6963, .inl (I .long, 480, .inr (.inl f6971))), (q6964, .inl (I .long, 480, .inr (.inl f6972))), (q6965, .inl (I .long, 12, .inr (.inl f6988)))] ∧ lb_W f6988 (p6968.toInt) (p6968.toInt) (p6967.toInt)
set_option maxRecDepth 100000 in
set_option maxHeartbeats 4000000 in
theorem ct_6976_Live_revive (l : Launch) (hl0 : l.stackTraces = false) (D : va_G) (I : FieldType → ClassId) (q6961 : Nat) (q6962 : Nat) (q6963 : Nat) (q6964 : Nat) (q6965 : Nat) (p6966 : Int32) (p6967 : Int32) (p6968 : Int32) (p6969 : Int32) (f6970 : Nat → Int64) (f6971 : Nat → Int64) (f6972 : Nat → Int64) (f6973 : Nat → Int64) (bp6967 : gB p6967 0 720) (bp6968 : gB p6968 0 12) (bp6969 : gB p6969 0 1) (x6974 : lb_W f6973 (p6968.toInt) (p6968.toInt) (p6967.toInt)) (x6975 : p6968.toInt = (p6967.toInt + 63) / 64) : Ct (gV D I) l yX5_revive cX5_revive 2 none 0 0 0 0 [.ref q6961, .int p6966] [(q6961, .inr (10, [.ref q6962, .ref q6963, .ref q6964, .ref q6965, .int p6967, .int p6968, .int p6969])), (q6962, .inl (I .long, 480, .inr (.inl f6970))), (q6963, .inl (I .long, 480, .inr (.inl f6971))), (q6964, .inl (I .long, 480, .inr (.inl f6972))), (q6965, .inl (I .long, 12, .inr (.inl f6973)))] (po_6976_Live_revive I q6961 q6962 q6963 q6964 q6965 p6966 p6967 p6968 p6969 f6970 f6971 f6972 f6973) gN := by
  refine Ct_of hl0 (by decide) (Nat.le_of_ble_eq_true rfl) ?_
  have bp6966 := gB_any p6966
  refine G_iload_n 1 d_cX5_revive_0 rfl ?_
  refine G_if_lt 27 d_cX5_revive_1 (by decide +kernel) (fun hc6977 => ?_) (fun hc6977 => ?_)
  · have r6978 : p6966.toInt < 0 := gj_lt hc6977 (show Int32.toInt 0 = 0 by decide)
    have bp6966' : gB p6966 (-2147483648) (-1) := ⟨by omega, by omega⟩
    exact G_vret d_cX5_revive_27 rfl (Nat.le_of_ble_eq_true rfl) (Nat.le_of_ble_eq_true rfl) ⟨f6973, rfl, rfl, x6974⟩
  · have r6979 : 0 ≤ p6966.toInt := gj_nlt hc6977 (show Int32.toInt 0 = 0 by decide)
    have bp6966' : gB p6966 0 2147483647 := ⟨by omega, by omega⟩
    refine G_iload_n 1 d_cX5_revive_4 rfl ?_
    refine G_aload_n 0 d_cX5_revive_5 rfl ?_
    refine G_getf 0 4 d_cX5_revive_6 rfl (gk_X5 D I) (Nat.le_of_ble_eq_true rfl) w_2_27 rfl ?_
    refine G_icmp_ge 27 d_cX5_revive_9 (by decide +kernel) (fun hc6980 => ?_) (fun hc6980 => ?_)
    · have r6981 : p6967.toInt ≤ p6966.toInt := gC_le hc6980
      exact G_vret d_cX5_revive_27 rfl (Nat.le_of_ble_eq_true rfl) (Nat.le_of_ble_eq_true rfl) ⟨f6973, rfl, rfl, x6974⟩
    · have r6982 : p6966.toInt < p6967.toInt := gC_nle hc6980
      have bp6966'' : gB p6966 0 719 := ⟨by omega, by omega⟩
      have bp6967' : gB p6967 1 720 := ⟨by omega, by omega⟩
      refine G_aload_n 0 d_cX5_revive_12 rfl ?_
      refine G_getf 0 3 d_cX5_revive_13 rfl (gk_X5 D I) (Nat.le_of_ble_eq_true rfl) w_2_25 rfl ?_
      refine G_iload_n 1 d_cX5_revive_16 rfl ?_
      refine G_bipush 6 d_cX5_revive_17 (by decide +kernel) ?_
      refine G_ishr d_cX5_revive_19 (G_nam fun z6983 hz6983 => ?_)
      have ez6983 : z6983.toInt = p6966.toInt / 64 := gI_shr (k := 6) hz6983 (by decide)
      have bz6983 : gB z6983 0 11 := ⟨by omega, by omega⟩
      refine G_dup2_11 d_cX5_revive_20 rfl rfl ?_
      refine G_lald 4 2 d_cX5_revive_21 rfl rfl (gB_in bz6983 (by decide) (by decide)) (G_namL fun u6984 hu6984 => ?_)
      have qu6984 : lb_Q u6984 (p6967.toInt - 64 * z6983.toInt) := lb_Wld hu6984 x6974 (by omega) (by omega) (lb_Mod0 (by omega) (by omega))
      refine G_lconst 1 d_cX5_revive_22 rfl ?_
      refine G_iload_n 1 d_cX5_revive_23 rfl ?_
      refine G_lshl d_cX5_revive_24 (G_namL fun u6985 hu6985 => ?_)
      have qu6985 : lb_Q u6985 (p6966.toInt % 64 + 1) := lb_Qshl hu6985 (by omega)
      refine G_lor d_cX5_revive_25 (G_namL fun u6986 hu6986 => ?_)
      have qu6986 : lb_Q u6986 (p6967.toInt - 64 * z6983.toInt) := lb_Qor hu6986 qu6984 (lb_Qw qu6985 (by omega))
      refine G_lastN 4 2 d_cX5_revive_26 rfl rfl (gB_in bz6983 (by decide) (by decide)) (fun f6987 hf6987 => ?_)
      refine G_ws (ws' := [(q6961, .inr (10, [.ref q6962, .ref q6963, .ref q6964, .ref q6965, .int p6967, .int p6968, .int p6969])), (q6962, .inl (I .long, 480, .inr (.inl f6970))), (q6963, .inl (I .long, 480, .inr (.inl f6971))), (q6964, .inl (I .long, 480, .inr (.inl f6972))), (q6965, .inl (I .long, 12, .inr (.inl f6987)))]) (cs' := 0) (sl' := 0) rfl rfl rfl ?_
      have wf6987 : lb_W f6987 (p6968.toInt) (p6968.toInt) (p6967.toInt) := lb_Wst hf6987 x6974 (by omega) (lb_Mod0 (by omega) (by omega)) qu6986
      exact G_vret d_cX5_revive_27 rfl (Nat.le_of_ble_eq_true rfl) (Nat.le_of_ble_eq_true rfl) ⟨f6987, rfl, rfl, wf6987⟩
