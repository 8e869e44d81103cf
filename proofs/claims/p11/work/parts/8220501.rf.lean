theorem dr_cX17_text_71 : decode cX17_text 71 = .ok (.aload_n 0, 1) := by decide +kernel
theorem dr_cX17_text_72 : decode cX17_text 72 = .ok (.iconst 0, 1) := by decide +kernel
theorem dr_cX17_text_73 : decode cX17_text 73 = .ok (.putfield 383, 3) := by decide +kernel
theorem dr_cX17_text_86 : decode cX17_text 86 = .ok (.putfield 414, 3) := by decide +kernel
theorem dr_cX17_text_89 : decode cX17_text 89 = .ok (.aload_n 0, 1) := by decide +kernel
theorem dr_cX17_text_90 : decode cX17_text 90 = .ok (.getfield 414, 3) := by decide +kernel
theorem dr_cX17_text_93 : decode cX17_text 93 = .ok (.ifCond .eq 8, 3) := by decide +kernel
theorem dr_cX17_text_101 : decode cX17_text 101 = .ok (.iload_n 1, 1) := by decide +kernel
theorem dr_cX17_text_102 : decode cX17_text 102 = .ok (.ireturn, 1) := by decide +kernel
theorem dr_cX17_text_96 : decode cX17_text 96 = .ok (.aload_n 0, 1) := by decide +kernel
theorem dr_cX17_text_97 : decode cX17_text 97 = .ok (.iconst 0, 1) := by decide +kernel
theorem dr_cX17_text_98 : decode cX17_text 98 = .ok (.putfield 416, 3) := by decide +kernel
theorem dr_cX17_text_76 : decode cX17_text 76 = .ok (.aload_n 0, 1) := by decide +kernel
theorem dr_cX17_text_77 : decode cX17_text 77 = .ok (.iload_n 1, 1) := by decide +kernel
theorem dr_cX17_text_78 : decode cX17_text 78 = .ok (.ifCond .ge 7, 3) := by decide +kernel
theorem dr_cX17_text_85 : decode cX17_text 85 = .ok (.iconst 0, 1) := by decide +kernel
theorem dr_cX17_text_81 : decode cX17_text 81 = .ok (.iconst 1, 1) := by decide +kernel
theorem dr_cX17_text_82 : decode cX17_text 82 = .ok (.goto 4, 3) := by decide +kernel
theorem dr_cX17_text_0 : decode cX17_text 0 = .ok (.aload_n 0, 1) := by decide +kernel
theorem dr_cX17_text_1 : decode cX17_text 1 = .ok (.iconst 0, 1) := by decide +kernel
theorem dr_cX17_text_2 : decode cX17_text 2 = .ok (.putfield 380, 3) := by decide +kernel
theorem dr_cX17_text_5 : decode cX17_text 5 = .ok (.iconst (-1), 1) := by decide +kernel
theorem dr_cX17_text_6 : decode cX17_text 6 = .ok (.istore_n 1, 1) := by decide +kernel
theorem dr_cX17_text_7 : decode cX17_text 7 = .ok (.aload_n 0, 1) := by decide +kernel
theorem dr_cX17_text_8 : decode cX17_text 8 = .ok (.iconst 0, 1) := by decide +kernel
theorem dr_cX17_text_9 : decode cX17_text 9 = .ok (.putfield 392, 3) := by decide +kernel
theorem dr_cX17_text_12 : decode cX17_text 12 = .ok (.new 395, 3) := by decide +kernel
theorem wr_7_208 : (Jvm.Cond.classLink "SpillForgeModel" (395 : Nat) "SpillForgeModel$Reader") ∈ gw := gw_7 208 rfl rfl
theorem wr_7_209 : (Jvm.Cond.instantiable "SpillForgeModel$Reader" (14 : Nat)) ∈ gw := gw_7 209 rfl rfl
theorem dr_cX17_text_15 : decode cX17_text 15 = .ok (.dup, 1) := by decide +kernel
theorem dr_cX17_text_16 : decode cX17_text 16 = .ok (.aload_n 0, 1) := by decide +kernel
theorem dr_cX17_text_17 : decode cX17_text 17 = .ok (.getfield 374, 3) := by decide +kernel
theorem dr_cX17_text_20 : decode cX17_text 20 = .ok (.aload_n 0, 1) := by decide +kernel
theorem dr_cX17_text_21 : decode cX17_text 21 = .ok (.getfield 383, 3) := by decide +kernel
theorem dr_cX17_text_24 : decode cX17_text 24 = .ok (.invokespecial 397, 3) := by decide +kernel
theorem wr_7_210 : (Jvm.Cond.methodLink "SpillForgeModel" (397 : Nat) ({ cls := "SpillForgeModel$Reader", name := "<init>", desc := "([BI)V" } : Jvm.MethodName)) ∈ gw := gw_7 210 rfl rfl
theorem wr_7_212 : (Jvm.Cond.code ({ cls := "SpillForgeModel$Reader", name := "<init>", desc := "([BI)V" } : Jvm.MethodName) prog_17_method_1_code (3 : Nat) (Option.none : Option Jvm.ClassFile.FieldType)) ∈ gw := gw_7 212 rfl rfl
theorem wr_7_211 : (Jvm.Cond.instanceMethod ({ cls := "SpillForgeModel$Reader", name := "<init>", desc := "([BI)V" } : Jvm.MethodName)) ∈ gw := gw_7 211 rfl rfl
theorem dr_cX17_text_27 : decode cX17_text 27 = .ok (.astore_n 2, 1) := by decide +kernel
theorem dr_cX17_text_28 : decode cX17_text 28 = .ok (.aload_n 2, 1) := by decide +kernel
theorem dr_cX17_text_29 : decode cX17_text 29 = .ok (.aload_n 0, 1) := by decide +kernel
theorem dr_cX17_text_30 : decode cX17_text 30 = .ok (.getfield 361, 3) := by decide +kernel
theorem dr_cX17_text_33 : decode cX17_text 33 = .ok (.invokevirtual 400, 3) := by decide +kernel
theorem wr_9_81 : (Jvm.Cond.methodLink "SpillForgeModel" (400 : Nat) ({ cls := "SpillForgeModel$Reader", name := "program", desc := "(LSpillForgeModel$Code;)V" } : Jvm.MethodName)) ∈ gw := gw_9 81 rfl rfl
theorem wr_9_84 : (Jvm.Cond.code ({ cls := "SpillForgeModel$Reader", name := "program", desc := "(LSpillForgeModel$Code;)V" } : Jvm.MethodName) prog_17_method_14_code (3 : Nat) (Option.none : Option Jvm.ClassFile.FieldType)) ∈ gw := gw_9 84 rfl rfl
theorem wr_9_82 : (Jvm.Cond.instanceMethod ({ cls := "SpillForgeModel$Reader", name := "program", desc := "(LSpillForgeModel$Code;)V" } : Jvm.MethodName)) ∈ gw := gw_9 82 rfl rfl
theorem wr_9_83 : (Jvm.Cond.selects "SpillForgeModel$Reader" ({ cls := "SpillForgeModel$Reader", name := "program", desc := "(LSpillForgeModel$Code;)V" } : Jvm.MethodName) ({ cls := "SpillForgeModel$Reader", name := "program", desc := "(LSpillForgeModel$Code;)V" } : Jvm.MethodName)) ∈ gw := gw_9 83 rfl rfl
theorem dr_cX17_text_54 : decode cX17_text 54 = .ok (.putfield 392, 3) := by decide +kernel
theorem dr_cX17_text_57 : decode cX17_text 57 = .ok (.goto 14, 3) := by decide +kernel
theorem dr_cX17_text_36 : decode cX17_text 36 = .ok (.aload_n 2, 1) := by decide +kernel
theorem dr_cX17_text_37 : decode cX17_text 37 = .ok (.getfield 403, 3) := by decide +kernel
theorem wr_9_45 : (Jvm.Cond.fieldLink "SpillForgeModel" (403 : Nat) "SpillForgeModel$Reader" "rulePlace" "I") ∈ gw := gw_9 45 rfl rfl
theorem dr_cX17_text_40 : decode cX17_text 40 = .ok (.istore_n 1, 1) := by decide +kernel
theorem dr_cX17_text_41 : decode cX17_text 41 = .ok (.aload_n 0, 1) := by decide +kernel
theorem dr_cX17_text_42 : decode cX17_text 42 = .ok (.iload_n 1, 1) := by decide +kernel
theorem dr_cX17_text_43 : decode cX17_text 43 = .ok (.ifCond .ge 7, 3) := by decide +kernel
theorem dr_cX17_text_50 : decode cX17_text 50 = .ok (.aload_n 2, 1) := by decide +kernel
theorem dr_cX17_text_51 : decode cX17_text 51 = .ok (.getfield 406, 3) := by decide +kernel
theorem wr_9_47 : (Jvm.Cond.fieldLink "SpillForgeModel" (406 : Nat) "SpillForgeModel$Reader" "rule" "I") ∈ gw := gw_9 47 rfl rfl
theorem dr_cX17_text_46 : decode cX17_text 46 = .ok (.iconst 0, 1) := by decide +kernel
theorem dr_cX17_text_47 : decode cX17_text 47 = .ok (.goto 7, 3) := by decide +kernel
theorem wr_7_207 : (Jvm.Cond.classLink "SpillForgeModel" (409 : Nat) "SpillForgeModel$Wrong") ∈ gw := gw_7 207 rfl rfl
theorem dr_cX17_text_60 : decode cX17_text 60 = .ok (.astore_n 2, 1) := by decide +kernel
theorem dr_cX17_text_61 : decode cX17_text 61 = .ok (.aload_n 2, 1) := by decide +kernel
theorem dr_cX17_text_62 : decode cX17_text 62 = .ok (.getfield 411, 3) := by decide +kernel
theorem wr_9_123 : (Jvm.Cond.fieldLink "SpillForgeModel" (411 : Nat) "SpillForgeModel$Wrong" "place" "I") ∈ gw := gw_9 123 rfl rfl
theorem dr_cX17_text_65 : decode cX17_text 65 = .ok (.istore_n 1, 1) := by decide +kernel
theorem dr_cX17_text_66 : decode cX17_text 66 = .ok (.aload_n 0, 1) := by decide +kernel
theorem dr_cX17_text_67 : decode cX17_text 67 = .ok (.iconst 1, 1) := by decide +kernel
theorem dr_cX17_text_68 : decode cX17_text 68 = .ok (.putfield 392, 3) := by decide +kernel
abbrev ky_txt : gKey := (cX17_text, 3, "SpillForgeModel", (some FieldType.int), tableOf [(12, 57, 60, 409)], "text", fun _ _ => True)
theorem txKF : ∀ j, j ∈ pgK → j ∈ 10 :: pgF := by decide
set_option maxRecDepth 100000 in
set_option maxHeartbeats 4000000 in
theorem tx_end {l : Launch} (hl0 : l.stackTraces = false) {D : va_G} {I : FieldType → ClassId} {P P0 : List Nat} {F F0 : Nat → va_E} {γ el γ0 el0 : Nat → Nat → Nat} {m z cs sl mc ms : Nat} {pl : Int32} {ft : Nat → Int32} (g96 : γ 9 = γ0 9) (c9 : γ 0 (γ0 9 6) = 9) (cf : γ 1 (γ0 9 6) = 0) (hft : F0 (γ0 9 31) = .inl (I .byte, 8192, .inl ft)) (hft2 : gF ft (-128) 127) (hQ : okQ γ el F (γ0 9 6) (bA ft (fI (F0 m) 32).toInt) (fI (F0 m) 32).toInt pl) (hk : rSk 0 pgK (10 :: pgF) D I P0 F0 γ0 el0 P F γ el) (hm : γ 0 m = 10) (h7 : γ 7 0 = 0) (hv : pl.toInt < 0 → 0 < γ 6 0 ∧ γ 16 0 ≤ 160) (h10 : fI (F m) 10 = fI (F0 m) 10) (h35 : fR (F m) 35 = fR (F0 m) 35) (hO : mO (F m) = mO (F0 m)) (hcs : cs ≤ mc) (hsl : sl ≤ ms)
    (c1 : 18 * (cs : Int) + (rPh γ0 el0 0 : Int) ≤ (rPh γ el 0 : Int) + 360 * (fI (F0 m) 32).toInt + 1100) (c2 : (sl : Int) + (rPh γ0 el0 0 : Int) ≤ (rPh γ el 0 : Int) + 232 * (fI (F0 m) 32).toInt + 1100) (c3 : (rM γ el 0 : Int) ≤ (rM γ0 el0 0 : Int) + 41 * (fI (F0 m) 32).toInt + 300) :
    G (gV D I) l (gRm 13 340 mc ms) (gMA (gV D I) (txP D I P0 F0 γ0 el0 m) gNA mc ms) ky_txt 71 [(1, .int pl), (2, .ref z), (0, .ref m)] [] (va_pl P F) cs sl := by
  have hT := hk.1
  obtain ⟨r28, r35, v9, v10, v11, v12, v13, v14, v23, v24, v25, v26, v27, v30, v32, v33, v34, he, hM1, hK, hM2⟩ := rk10_m (show rk_10 γ (F m) from RS_o hT hm)
  obtain ⟨q9, q10, q11, q14, q25, q26, q27, q32, q34⟩ := hM1
  have mm : m ∈ P := hT.1 m (by omega)
  have z0 : gB 0 0 8192 := ⟨by decide, by decide⟩
  have e10 : fI (F m) 10 = v10 := by rw [he]; rfl
  have e35 : fR (F m) 35 = r35 := by rw [he]; rfl
  refine G_aload_n 2 dr_cX17_text_71 rfl ?_
  refine G_iconst 0 dr_cX17_text_72 (by decide +kernel) ?_
  refine Gp_put 32 mm he dr_cX17_text_73 (gk_X17 D I) (Nat.le_of_ble_eq_true rfl) wr_7_106 rfl rfl rfl (Nat.le_of_ble_eq_true rfl) (fun F1 e1 n1 => ?_)
  have e1' : F1 m = mdE γ r28 r35 v9 v10 v11 v12 v13 v14 v23 v24 v25 v26 v27 v30 0 v33 v34 := e1
  have hT1 := RS_md hT hm n1 e1' ⟨q9, q10, q11, q14, q25, q26, q27, z0, q34⟩ hK hM2
  have hk1 := rSk_put hk hT1 n1 (show rKd γ m 10 from hm) (by decide) txKF
  have k0 : 0 ≤ pl.toInt → G (gV D I) l (gRm 13 340 mc ms) (gMA (gV D I) (txP D I P0 F0 γ0 el0 m) gNA mc ms) ky_txt 86 [(1, .int pl), (2, .ref z), (0, .ref m)] [.int 0, .ref m] (va_pl P F1) cs sl := fun hpl => by
    refine Gp_put 9 mm e1' dr_cX17_text_86 (gk_X17 D I) (Nat.le_of_ble_eq_true rfl) wr_7_83 rfl rfl rfl (Nat.le_of_ble_eq_true rfl) (fun F2 e2 n2 => ?_)
    have e2' : F2 m = mdE γ r28 r35 0 v10 v11 v12 v13 v14 v23 v24 v25 v26 v27 v30 0 v33 v34 := e2
    have hT2 := RS_md hT1 hm n2 e2' ⟨⟨by decide, by decide⟩, q10, q11, q14, q25, q26, q27, z0, q34⟩ hK ⟨Or.inl (by decide), hM2.2.1, hM2.2.2⟩
    have hk2 := rSk_put hk1 hT2 n2 (show rKd γ m 10 from hm) (by decide) txKF
    refine G_aload_n 2 dr_cX17_text_89 rfl ?_
    refine Gp_get 9 mm e2' dr_cX17_text_90 (gk_X17 D I) (Nat.le_of_ble_eq_true rfl) wr_7_83 rfl ?_
    refine G_if_eq 101 dr_cX17_text_93 (by decide +kernel) (fun _ => ?_) (fun hc => absurd rfl hc)
    refine G_iload_n 0 dr_cX17_text_101 rfl ?_
    exact G_iretA dr_cX17_text_102 rfl hcs hsl ⟨P, F2, γ, el, pl, rfl, rfl, hk2, h7, Or.inl (by rw [e2']; rfl), Or.inr (by rw [e2', ← h10, e10]; rfl), by rw [e2']; rfl, c1, c2, c3, by rw [e2', ← h35, e35]; rfl, ft, hft, hft2, Or.inr ⟨by rw [e2']; rfl, hQ.2 hpl⟩, by rw [← hO, e2', he]; rfl, Or.inl ⟨by rw [e2']; rfl, by rw [e2', ← h10, e10]; rfl⟩⟩
  have k1 : pl.toInt < 0 → G (gV D I) l (gRm 13 340 mc ms) (gMA (gV D I) (txP D I P0 F0 γ0 el0 m) gNA mc ms) ky_txt 86 [(1, .int pl), (2, .ref z), (0, .ref m)] [.int 1, .ref m] (va_pl P F1) cs sl := fun hpl => by
    have hvv := hv hpl
    obtain ⟨qQ, q1, q2⟩ := hQ.1 hpl
    refine Gp_put 9 mm e1' dr_cX17_text_86 (gk_X17 D I) (Nat.le_of_ble_eq_true rfl) wr_7_83 rfl rfl rfl (Nat.le_of_ble_eq_true rfl) (fun F2 e2 n2 => ?_)
    have e2' : F2 m = mdE γ r28 r35 1 v10 v11 v12 v13 v14 v23 v24 v25 v26 v27 v30 0 v33 v34 := e2
    have hT2 := RS_md hT1 hm n2 e2' ⟨⟨by decide, by decide⟩, q10, q11, q14, q25, q26, q27, z0, q34⟩ hK ⟨Or.inr (Or.inl hvv.1), hM2.2.1, hM2.2.2⟩
    have hk2 := rSk_put hk1 hT2 n2 (show rKd γ m 10 from hm) (by decide) txKF
    refine G_aload_n 2 dr_cX17_text_89 rfl ?_
    refine Gp_get 9 mm e2' dr_cX17_text_90 (gk_X17 D I) (Nat.le_of_ble_eq_true rfl) wr_7_83 rfl ?_
    refine G_if_eq 101 dr_cX17_text_93 (by decide +kernel) (fun hc => absurd hc (by decide)) (fun _ => ?_)
    refine G_aload_n 2 dr_cX17_text_96 rfl ?_
    refine G_iconst 0 dr_cX17_text_97 (by decide +kernel) ?_
    refine Gp_put 10 mm e2' dr_cX17_text_98 (gk_X17 D I) (Nat.le_of_ble_eq_true rfl) wr_7_84 rfl rfl rfl (Nat.le_of_ble_eq_true rfl) (fun F3 e3 n3 => ?_)
    have e3' : F3 m = mdE γ r28 r35 1 0 v11 v12 v13 v14 v23 v24 v25 v26 v27 v30 0 v33 v34 := e3
    have hT3 := RS_md hT2 hm n3 e3' ⟨⟨by decide, by decide⟩, ⟨by decide, by decide⟩, q11, q14, q25, q26, q27, z0, q34⟩ hK ⟨Or.inr (Or.inl hvv.1), Or.inl (by decide), hM2.2.2⟩
    have hk3 := rSk_put hk2 hT3 n3 (show rKd γ m 10 from hm) (by decide) txKF
    refine G_iload_n 0 dr_cX17_text_101 rfl ?_
    exact G_iretA dr_cX17_text_102 rfl hcs hsl ⟨P, F3, γ, el, pl, rfl, rfl, hk3, h7, Or.inr hvv, Or.inl (by rw [e3']; rfl), by rw [e3']; rfl, c1, c2, c3, by rw [e3', ← h35, e35]; rfl, ft, hft, hft2, Or.inl ⟨by rw [e3']; rfl, qQ, q1, rfP_ow hT q2 c9 cf hvv.1 (W := [m]) (fun b _ hb => (n3 b (fun e => hb (e ▸ List.mem_cons_self))).trans ((n2 b (fun e => hb (e ▸ List.mem_cons_self))).trans (n1 b (fun e => hb (e ▸ List.mem_cons_self))))) (wm_c (by rw [hm]; decide) wm_n)⟩, by rw [← hO, e3', he]; rfl, Or.inr ⟨by rw [e3']; rfl, by rw [e3']; rfl⟩⟩
  refine G_aload_n 2 dr_cX17_text_76 rfl ?_
  refine G_iload_n 0 dr_cX17_text_77 rfl ?_
  refine G_if_ge 85 dr_cX17_text_78 (by decide +kernel) (fun hc => ?_) (fun hc => ?_)
  · exact G_iconst 0 dr_cX17_text_85 (by decide +kernel) (k0 (gj_le hc rfl))
  · refine G_iconst 1 dr_cX17_text_81 (by decide +kernel) ?_
    exact G_goto 86 dr_cX17_text_82 (by decide +kernel) (k1 (gj_nle hc rfl))
set_option maxRecDepth 100000 in
set_option maxHeartbeats 4000000 in
theorem cp_text (l : Launch) (hl0 : l.stackTraces = false) (D : va_G) (I : FieldType → ClassId) {P : List Nat} {F : Nat → va_E} {γ el : Nat → Nat → Nat} {m M mc ms : Nat} (hT : RS D I P F γ el) (hm : γ 0 m = 10)
    (hM : (rM γ el 0 : Int) + 41 * (fI (F m) 32).toInt + 600 ≤ M) (hM9 : M ≤ 2000000) (hMC : (M : Int) + 360 * (fI (F m) 32).toInt + 1200 ≤ 18 * (mc : Int) + (rPh γ el 0 : Int)) (hMS : (M : Int) + 232 * (fI (F m) 32).toInt + 1400 ≤ (ms : Int) + (rPh γ el 0 : Int)) :
    CtWA (gV D I) l yX17_text cX17_text 3 (some FieldType.int) [(12, 57, 60, 409)] 13 340 mc ms [.ref m] (va_pl P F) (txP D I P F γ el m) gNA := by
  refine CtWA_of hl0 (by decide) (Nat.le_of_ble_eq_true rfl) ?_
  obtain ⟨r28, r35, v9, v10, v11, v12, v13, v14, v23, v24, v25, v26, v27, v30, v32, v33, v34, he, hM1, hK, hM2⟩ := rk10_m (show rk_10 γ (F m) from RS_o hT hm)
  have hM1' := hM1
  obtain ⟨q9, q10, q11, q14, q25, q26, q27, q32, q34⟩ := hM1
  have mm : m ∈ P := hT.1 m (by omega)
  have e32 : fI (F m) 32 = v32 := by rw [he]; rfl
  have e10 : fI (F m) 10 = v10 := by rw [he]; rfl
  have e35 : fR (F m) 35 = r35 := by rw [he]; rfl
  have c9 : γ 0 (γ 9 6) = 9 := hK.2.2.2.2.2.2.2.2.1
  have cf : γ 1 (γ 9 6) = 0 := hK.2.2.2.2.2.2.2.2.2.2.2.2.2.2.2.2.2.2.2.2.2.1
  have t25 : γ 0 (γ 9 31) = 99 := hK.2.2.2.2.2.2.2.2.2.2.2.2.2.2.2.2.2.2.2.2.1
  obtain ⟨sz1, -⟩ := rsz hT c9 cf
  have sz1' : (rPh γ el 0 : Int) + 100 ≤ (rM γ el 0 : Int) := by clear hMC hMS hM; omega
  have n0 : 0 ≤ v32.toInt := q32.1
  have big1 : 100 ≤ mc := by rw [e32] at hMC hM; clear hMS; omega
  have big2 : 100 ≤ ms := by rw [e32] at hMS hM; clear hMC; omega
  refine G_aload_n 0 dr_cX17_text_0 rfl ?_
  refine G_iconst 0 dr_cX17_text_1 (by decide +kernel) ?_
  refine Gp_put 30 mm he dr_cX17_text_2 (gk_X17 D I) (Nat.le_of_ble_eq_true rfl) wr_7_104 rfl rfl rfl (Nat.le_of_ble_eq_true rfl) (fun F1 e1 n1 => ?_)
  have e1' : F1 m = mdE γ r28 r35 v9 v10 v11 v12 v13 v14 v23 v24 v25 v26 v27 0 v32 v33 v34 := e1
  have hT1 := RS_md hT hm n1 e1' hM1' hK hM2
  have hk1 := rSk_put (rSk_rf (f := 0) (K := pgK) (KF := 10 :: pgF) hT) hT1 n1 (show rKd γ m 10 from hm) (by decide) txKF
  refine G_iconst (-1) dr_cX17_text_5 (by decide +kernel) ?_
  refine G_istore_n (L' := [(1, .int (-1)), (0, .ref m)]) dr_cX17_text_6 (Nat.le_of_ble_eq_true rfl) rfl ?_
  refine G_aload_n 1 dr_cX17_text_7 rfl ?_
  refine G_iconst 0 dr_cX17_text_8 (by decide +kernel) ?_
  refine Gp_put 33 mm e1' dr_cX17_text_9 (gk_X17 D I) (Nat.le_of_ble_eq_true rfl) wr_7_107 rfl rfl rfl (Nat.le_of_ble_eq_true rfl) (fun F2 e2 n2 => ?_)
  have e2' : F2 m = mdE γ r28 r35 v9 v10 v11 v12 v13 v14 v23 v24 v25 v26 v27 0 v32 0 v34 := e2
  have hT2 := RS_md hT1 hm n2 e2' hM1' hK hM2
  have hk2 := rSk_put hk1 hT2 n2 (show rKd γ m 10 from hm) (by decide) txKF
  refine G_new [.null, .int 0, .int 0, .int 0, .int 0, .int 0, .int 0, .null, .int 0, .int 0, .int 0, .null, .null, .int 0] dr_cX17_text_12 (gk_X14 D I) wr_7_208 wr_7_209 wr_1_32 (gfs_X14) (show 0 + 1 ≤ mc by omega) (show 0 + 14 ≤ ms by omega) (fun R => Gp_in (fun P3 F3 hq hP e3 n3 => ?_))
  have hs3 : rSub P P3 := rSub_new (rSub_rf (P := P)) hP
  have R0 : γ 0 R = 0 := RS_new hT hq
  have mR3 : R ∈ P3 := (hP R).mpr (Or.inr rfl)
  have hfr3 : rFr [R] P F2 F3 := fun b _ hb => n3 b (fun e => hb (e ▸ List.mem_cons_self))
  have hk3 := rSk_ow hk2 hs3 hfr3 (wm_c (Or.inl R0) wm_n) (wm_c (Or.inl R0) wm_n) txKF
  have hmR : m ≠ R := fun e => by rw [e, R0] at hm; cases hm
  have e3m : F3 m = mdE γ r28 r35 v9 v10 v11 v12 v13 v14 v23 v24 v25 v26 v27 0 v32 0 v34 := (n3 m hmR).trans e2'
  have mm3 := hs3 m mm
  obtain ⟨ft, f1, f2⟩ := show rk_99 I (F3 (γ 9 31)) from RS_o hk3.1 t25
  refine G_dup dr_cX17_text_15 rfl ?_
  refine G_aload_n 1 dr_cX17_text_16 rfl ?_
  refine Gp_get 31 mm3 e3m dr_cX17_text_17 (gk_X17 D I) (Nat.le_of_ble_eq_true rfl) wr_7_105 rfl ?_
  refine G_aload_n 1 dr_cX17_text_20 rfl ?_
  refine Gp_get 32 mm3 e3m dr_cX17_text_21 (gk_X17 D I) (Nat.le_of_ble_eq_true rfl) wr_7_106 rfl ?_
  rw [e32] at hM hMC hMS
  refine Gw_callI (As := [.ref (γ 9 31), .int v32]) (gV_ok D I) (cp_677081_Reader_init l hl0 D I P3 F3 R (γ 9 31) v32 ft mR3 (hk3.1.1 _ (by rw [t25]; decide)) e3 f1 q32 f2) dr_cX17_text_24 ⟨wr_7_210, wr_1_32, wr_7_212, by decide, rfl, (Nat.le_of_ble_eq_true rfl), (Nat.le_of_ble_eq_true rfl)⟩ wr_7_211 rfl (show _ ≤ mc by clear hMS; omega) (show _ ≤ ms by clear hMC; omega) (Nat.le_of_ble_eq_true rfl) (fun r w dc1 ds1 hp => ?_)
  obtain ⟨P4, F4, a, k, pl, v, tx, gp, g, xt, rfl, rfl, hs4, hfr4, eg1, eg2, eR, eT4, mgp, ngp, mg, ng, hdc, hds, ba, bk, bpl, h0a, han, -, htP, hvP, hne, -, -, hglp, -, -, -, htr⟩ := hp
  change G _ _ _ _ _ _ _ [.ref R] _ _ _
  refine G_widen (cs' := dc1 + 1) (sl' := ds1 + 14) (by omega) (by omega) ?_
  have hk4 := rSk_ow hk3 hs4 hfr4 (wm_c (Or.inl R0) wm_n) (wm_c (Or.inl R0) wm_n) txKF
  have e4m : F4 m = mdE γ r28 r35 v9 v10 v11 v12 v13 v14 v23 v24 v25 v26 v27 0 v32 0 v34 := (hfr4 m mm3 (nm_c hmR nm_n)).trans e3m
  have mm4 := hs4 m mm3
  have mR4 := hs4 R mR3
  have hd : rdI I P4 F4 γ R (γ 9 31) g gp (tx, xt) v32 a k pl v 0 (-1) 0 0 0 16 (fun _ => 0) (fun _ => 0) := ⟨⟨mR4, eR, R0⟩, ⟨mg, eg2, RS_new hk3.1 ng⟩, ⟨mgp, eg1, RS_new hk3.1 ngp⟩, ⟨t25, hne⟩, ⟨q32, ba, bk, bpl, ⟨by decide, by decide⟩, ⟨by decide, by decide⟩, ⟨by decide, by decide⟩, ⟨by decide, by decide⟩, ⟨by decide, by decide⟩⟩, ⟨han, htP, hvP, hglp⟩, ⟨by decide, by decide, by decide, h0a, h0a⟩⟩
  have hr0 := rdT_0 f2 q32.1 q32.2 htr
  have hft0 : F (γ 9 31) = .inl (I .byte, 8192, .inl ft) := by
    rw [← f1]
    exact ((n3 _ (fun e => by rw [e, R0] at t25; cases t25)).trans ((n2 _ (fun e => by rw [e, hm] at t25; cases t25)).trans (n1 _ (fun e => by rw [e, hm] at t25; cases t25)))).symm
  have u1 : ((dc1 + 1 : Nat) : Int) ≤ 16 * a.toInt + 3 := by clear hMC hMS hM hd; omega
  have u2 : ((ds1 + 14 : Nat) : Int) ≤ 160 * a.toInt + 46 := by clear hMC hMS hM hd; omega
  obtain ⟨A1, A2, A3, A4, A5⟩ := txA hM hMC hMS h0a han u1 u2 sz1'
  have hcm : dc1 + 1 ≤ mc := Int.ofNat_le.mp A4
  have hsm : ds1 + 14 ≤ ms := Int.ofNat_le.mp A5
  have emc : ((mc - (dc1 + 1) : Nat) : Int) = (mc : Int) - ((dc1 + 1 : Nat) : Int) := Int.ofNat_sub hcm
  have ems : ((ms - (ds1 + 14) : Nat) : Int) = (ms : Int) - ((ds1 + 14 : Nat) : Int) := Int.ofNat_sub hsm
  refine G_astore_n (L' := [(2, .ref R), (1, .int (-1)), (0, .ref m)]) dr_cX17_text_27 (Nat.le_of_ble_eq_true rfl) rfl ?_
  refine G_aload_n 0 dr_cX17_text_28 rfl ?_
  refine G_aload_n 2 dr_cX17_text_29 rfl ?_
  refine Gp_get 6 mm4 e4m dr_cX17_text_30 (gk_X17 D I) (Nat.le_of_ble_eq_true rfl) wr_7_80 rfl ?_
  refine Gw_callV (As := [.ref (γ 9 6)]) (gV_ok D I) (cp_rdp l hl0 D I (f := 0) (c := γ 9 6) (M := M) (mc := mc - (dc1 + 1)) (ms := ms - (ds1 + 14)) eT4 f2 hr0 (by decide) hk4.1 hd c9 cf (by decide) (by decide) A1 hM9 (by rw [emc]; exact A2) (by rw [ems]; exact A3)) dr_cX17_text_33 ⟨wr_9_81, wr_1_32, wr_9_84, by decide, rfl, (Nat.le_of_ble_eq_true rfl), (Nat.le_of_ble_eq_true rfl)⟩ wr_9_82 wr_9_83 mR4 eR rfl (show dc1 + 1 + (mc - (dc1 + 1)) ≤ mc from Nat.le_of_eq (Nat.add_sub_cancel' hcm)) (show ds1 + 14 + (ms - (ds1 + 14)) ≤ ms from Nat.le_of_eq (Nat.add_sub_cancel' hsm)) (Nat.le_of_ble_eq_true rfl) (fun r w dc ds hp => ?_) (fun E q w dc ds hx => ?_)
  · obtain ⟨P5, F5, γ5, el5, w0, w1, w2, w3, w4, w5, w6, w7, w10, w11, w12, w13, rp, ru, rfl, rfl, hk5, ⟨mR5, eR5, brp, bru⟩, h7, hv, e1, e2, e3, hoq⟩ := hp
    have hkk := rSk_tr hk4 hk5 (by decide) (by decide) txKF
    have m5 : γ5 0 m = 10 := rSk_k hk5 (show rKd γ m 10 from hm) (by decide) (by decide)
    have F5m : F5 m = F4 m := rSk_F hk5 (show rKd γ m 10 from hm) (by decide) (by decide)
    have c95 : γ5 0 (γ 9 6) = 9 := rSk_k hk5 (show rKd γ (γ 9 6) 9 from c9) (by decide) (by decide)
    obtain ⟨sy1, -⟩ := rsz hk5.1 c95 (rSk_1 hk5 (show rKd γ (γ 9 6) 9 from c9) (by decide) cf)
    have sy1' : (rPh γ5 el5 0 : Int) + 100 ≤ (rM γ5 el5 0 : Int) := by clear hMC hMS hM hd hkk hk5 A1 A2 A3 A4 A5 e1 e2 e3; omega
    have e1'' : 18 * (dc : Int) + (rPh γ el 0 : Int) ≤ (rPh γ5 el5 0 : Int) + 360 * (v32.toInt - a.toInt) + 900 := by clear hMC hMS hM hd hkk hk5 A1 A2 A3 A4 A5 e2 e3; omega
    obtain ⟨B1, B2, B3, B4, B5⟩ := txB hM hMC hMS h0a han u1 u2 e1'' e2 e3 sy1'
    have mm5 := hk5.2.1 m mm4
    have e5m : F5 m = .inr (22, [.ref (γ 9 0), .ref (γ 9 1), .ref (γ 9 2), .ref (γ 9 3), .ref (γ 9 4), .ref (γ 9 5), .ref (γ 9 6), .ref (γ 9 7), .ref (γ 9 8), .int v9, .int v10, .int v11, .int v12, .int v13, .int v14, .ref (γ 9 15), .ref (γ 9 16), .ref (γ 9 17), .ref (γ 9 18), .ref (γ 9 19), .ref (γ 9 20), .ref (γ 9 21), .ref (γ 9 22), .int v23, .int v24, .int v25, .int v26, .int v27, .ref r28, .ref (γ 9 29), .int 0, .ref (γ 9 31), .int v32, .int 0, .int v34, .ref r35]) := F5m.trans e4m
    have k54 : ∀ x : Int32, G (gV D I) l (gRm 13 340 mc ms) (gMA (gV D I) (txP D I P F γ el m) gNA mc ms) ky_txt 54 [(1, .int rp), (2, .ref R), (0, .ref m)] [.int x, .ref m] (va_pl P5 F5) (dc1 + 1 + dc) (ds1 + 14 + ds) := fun x => by
      obtain ⟨s28, s35, x9, x10, x11, x12, x13, x14, x23, x24, x25, x26, x27, x30, x32, x33, x34, he5, hM15, hK5, hM25⟩ := rk10_m (show rk_10 γ5 (F5 m) from RS_o hk5.1 m5)
      refine Gp_put 33 mm5 he5 dr_cX17_text_54 (gk_X17 D I) (Nat.le_of_ble_eq_true rfl) wr_7_107 rfl rfl rfl (Nat.le_of_ble_eq_true rfl) (fun F6 e6 n6 => ?_)
      have e6' : F6 m = mdE γ5 s28 s35 x9 x10 x11 x12 x13 x14 x23 x24 x25 x26 x27 x30 x32 x x34 := e6
      have hT6 := RS_md hk5.1 m5 n6 e6' hM15 hK5 hM25
      have hk6 := rSk_put hkk hT6 n6 (show rKd γ5 m 10 from m5) (by decide) txKF
      refine G_goto 71 dr_cX17_text_57 (by decide +kernel) ?_
      have h10 : fI (F6 m) 10 = fI (F m) 10 := by
        have y1 : fI (F6 m) 10 = x10 := by rw [e6']; rfl
        have y2 : fI (F5 m) 10 = x10 := by rw [he5]; rfl
        rw [y1, ← y2, e5m, e10]
        rfl
      have h35 : fR (F6 m) 35 = fR (F m) 35 := by
        have y1 : fR (F6 m) 35 = s35 := by rw [e6']; rfl
        have y2 : fR (F5 m) 35 = s35 := by rw [he5]; rfl
        rw [y1, ← y2, e5m, e35]
        rfl
      have hO6 : mO (F6 m) = mO (F m) := by
        have y1 : mO (F6 m) = mO (F5 m) := by rw [e6', he5]; rfl
        rw [y1, e5m, he]
        rfl
      have hoq6 : okQ γ5 el5 F6 (γ 9 6) (bA ft (fI (F m) 32).toInt) (fI (F m) 32).toInt rp := by
        rw [e32]
        exact ⟨fun z => by obtain ⟨Q, y1, y2⟩ := hoq.1 z; exact ⟨Q, y1, rfP_ow hk5.1 y2 c95 (rSk_1 hk5 (show rKd γ (γ 9 6) 9 from c9) (by decide) cf) (hv z).1 (W := [m]) (fun b _ hb => n6 b (fun e => hb (e ▸ List.mem_cons_self))) (wm_c (by rw [m5]; decide) wm_n)⟩, hoq.2⟩
      exact tx_end hl0 ((rSk_9 hk5)) c95 (rSk_1 hk5 (show rKd γ (γ 9 6) 9 from c9) (by decide) cf) hft0 f2 hoq6 hk6 m5 h7 hv h10 h35 hO6 (Int.ofNat_le.mp B1) (Int.ofNat_le.mp B2) (by rw [e32]; exact B3) (by rw [e32]; exact B4) (by rw [e32]; exact B5)
    refine G_aload_n 0 dr_cX17_text_36 rfl ?_
    refine Gp_get 8 mR5 eR5 dr_cX17_text_37 (gk_X14 D I) (Nat.le_of_ble_eq_true rfl) wr_9_45 rfl ?_
    refine G_istore_n (L' := [(1, .int rp), (2, .ref R), (0, .ref m)]) dr_cX17_text_40 (Nat.le_of_ble_eq_true rfl) rfl ?_
    refine G_aload_n 2 dr_cX17_text_41 rfl ?_
    refine G_iload_n 0 dr_cX17_text_42 rfl ?_
    refine G_if_ge 50 dr_cX17_text_43 (by decide +kernel) (fun hc => ?_) (fun hc => ?_)
    · refine G_aload_n 1 dr_cX17_text_50 rfl ?_
      exact Gp_get 9 mR5 eR5 dr_cX17_text_51 (gk_X14 D I) (Nat.le_of_ble_eq_true rfl) wr_9_47 rfl (k54 ru)
    · refine G_iconst 0 dr_cX17_text_46 (by decide +kernel) ?_
      exact G_goto 54 dr_cX17_text_47 (by decide +kernel) (k54 0)
  · obtain ⟨P5, F5, γ5, el5, rfl, rfl, hk5, h7, hq5, ⟨y0, y1, y2, y3, y4, d5, z5, ez, hz⟩, e1, e2, e3, hrj⟩ := hx
    have hkk := rSk_tr hk4 hk5 (by decide) (by decide) txKF
    have m5 : γ5 0 m = 10 := rSk_k hk5 (show rKd γ m 10 from hm) (by decide) (by decide)
    have F5m : F5 m = F4 m := rSk_F hk5 (show rKd γ m 10 from hm) (by decide) (by decide)
    have c95 : γ5 0 (γ 9 6) = 9 := rSk_k hk5 (show rKd γ (γ 9 6) 9 from c9) (by decide) (by decide)
    obtain ⟨sy1, -⟩ := rsz hk5.1 c95 (rSk_1 hk5 (show rKd γ (γ 9 6) 9 from c9) (by decide) cf)
    have sy1' : (rPh γ5 el5 0 : Int) + 100 ≤ (rM γ5 el5 0 : Int) := by clear hMC hMS hM hd hkk hk5 A1 A2 A3 A4 A5 e1 e2 e3; omega
    obtain ⟨B1, B2, B3, B4, B5⟩ := txB hM hMC hMS h0a han u1 u2 e1 e2 e3 sy1'
    have mm5 := hk5.2.1 m mm4
    refine GT_catch (pre := []) (suf := []) (x := ⟨12, 57, 60, 409⟩) rfl rfl (by decide) wr_7_207 (fun _ _ _ hE => ⟨gn_w 77 rfl hE, fun z hz => nomatch hz⟩) ?_
    refine G_astore_n (L' := [(2, .ref q), (1, .int (-1)), (0, .ref m)]) dr_cX17_text_60 (Nat.le_of_ble_eq_true rfl) rfl ?_
    refine G_aload_n 0 dr_cX17_text_61 rfl ?_
    refine Gp_get 6 hq5 ez dr_cX17_text_62 (gk_X16 D I) (Nat.le_of_ble_eq_true rfl) wr_9_123 rfl ?_
    refine G_istore_n (L' := [(1, .int z5), (2, .ref q), (0, .ref m)]) dr_cX17_text_65 (Nat.le_of_ble_eq_true rfl) rfl ?_
    refine G_aload_n 2 dr_cX17_text_66 rfl ?_
    refine G_iconst 1 dr_cX17_text_67 (by decide +kernel) ?_
    obtain ⟨s28, s35, x9, x10, x11, x12, x13, x14, x23, x24, x25, x26, x27, x30, x32, x33, x34, he5, hM15, hK5, hM25⟩ := rk10_m (show rk_10 γ5 (F5 m) from RS_o hk5.1 m5)
    refine Gp_put 33 mm5 he5 dr_cX17_text_68 (gk_X17 D I) (Nat.le_of_ble_eq_true rfl) wr_7_107 rfl rfl rfl (Nat.le_of_ble_eq_true rfl) (fun F6 e6 n6 => ?_)
    have e6' : F6 m = mdE γ5 s28 s35 x9 x10 x11 x12 x13 x14 x23 x24 x25 x26 x27 x30 x32 1 x34 := e6
    have hT6 := RS_md hk5.1 m5 n6 e6' hM15 hK5 hM25
    have hk6 := rSk_put hkk hT6 n6 (show rKd γ5 m 10 from m5) (by decide) txKF
    have h10 : fI (F6 m) 10 = fI (F m) 10 := by
      have y1 : fI (F6 m) 10 = x10 := by rw [e6']; rfl
      have y2 : fI (F5 m) 10 = x10 := by rw [he5]; rfl
      rw [y1, ← y2, F5m, e4m, e10]
      rfl
    have h35 : fR (F6 m) 35 = fR (F m) 35 := by
      have y1 : fR (F6 m) 35 = s35 := by rw [e6']; rfl
      have y2 : fR (F5 m) 35 = s35 := by rw [he5]; rfl
      rw [y1, ← y2, F5m, e4m, e35]
      rfl
    have hO6 : mO (F6 m) = mO (F m) := by
      have y1 : mO (F6 m) = mO (F5 m) := by rw [e6', he5]; rfl
      rw [y1, F5m, e4m, he]
      rfl
    exact tx_end hl0 (rSk_9 hk5) c95 (rSk_1 hk5 (show rKd γ (γ 9 6) 9 from c9) (by decide) cf) hft0 f2 (by rw [e32]; exact ⟨fun h => absurd hz (Int.not_le.mpr h), fun _ => rjt_no hrj⟩) hk6 m5 h7 (fun h => absurd hz (Int.not_le.mpr h)) h10 h35 hO6 (Int.ofNat_le.mp B1) (Int.ofNat_le.mp B2) (by rw [e32]; exact B3) (by rw [e32]; exact B4) (by rw [e32]; exact B5)
