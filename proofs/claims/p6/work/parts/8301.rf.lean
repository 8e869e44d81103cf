theorem dr_cX17_input_30 : decode cX17_input 30 = .ok (.iload_n 2, 1) := by decide +kernel
theorem dr_cX17_input_31 : decode cX17_input 31 = .ok (.iconst 4, 1) := by decide +kernel
theorem dr_cX17_input_32 : decode cX17_input 32 = .ok (.if_icmp .ge 39, 3) := by decide +kernel
theorem dr_cX17_input_35 : decode cX17_input 35 = .ok (.aload_n 0, 1) := by decide +kernel
theorem dr_cX17_input_36 : decode cX17_input 36 = .ok (.getfield 303, 3) := by decide +kernel
theorem dr_cX17_input_39 : decode cX17_input 39 = .ok (.iload_n 1, 1) := by decide +kernel
theorem dr_cX17_input_40 : decode cX17_input 40 = .ok (.aload_n 0, 1) := by decide +kernel
theorem dr_cX17_input_41 : decode cX17_input 41 = .ok (.getfield 303, 3) := by decide +kernel
theorem dr_cX17_input_44 : decode cX17_input 44 = .ok (.iload_n 1, 1) := by decide +kernel
theorem dr_cX17_input_45 : decode cX17_input 45 = .ok (.iaload, 1) := by decide +kernel
theorem dr_cX17_input_46 : decode cX17_input 46 = .ok (.bipush 8, 2) := by decide +kernel
theorem dr_cX17_input_48 : decode cX17_input 48 = .ok (.ishl, 1) := by decide +kernel
theorem dr_cX17_input_49 : decode cX17_input 49 = .ok (.aload_n 0, 1) := by decide +kernel
theorem dr_cX17_input_50 : decode cX17_input 50 = .ok (.getfield 374, 3) := by decide +kernel
theorem dr_cX17_input_53 : decode cX17_input 53 = .ok (.iconst 4, 1) := by decide +kernel
theorem dr_cX17_input_54 : decode cX17_input 54 = .ok (.iload_n 1, 1) := by decide +kernel
theorem dr_cX17_input_55 : decode cX17_input 55 = .ok (.imul, 1) := by decide +kernel
theorem dr_cX17_input_56 : decode cX17_input 56 = .ok (.iload_n 2, 1) := by decide +kernel
theorem dr_cX17_input_57 : decode cX17_input 57 = .ok (.iadd, 1) := by decide +kernel
theorem dr_cX17_input_58 : decode cX17_input 58 = .ok (.baload, 1) := by decide +kernel
theorem dr_cX17_input_59 : decode cX17_input 59 = .ok (.sipush 255, 3) := by decide +kernel
theorem dr_cX17_input_62 : decode cX17_input 62 = .ok (.iand, 1) := by decide +kernel
theorem dr_cX17_input_63 : decode cX17_input 63 = .ok (.ior, 1) := by decide +kernel
theorem dr_cX17_input_64 : decode cX17_input 64 = .ok (.iastore, 1) := by decide +kernel
theorem dr_cX17_input_65 : decode cX17_input 65 = .ok (.iinc 2 1, 3) := by decide +kernel
theorem dr_cX17_input_68 : decode cX17_input 68 = .ok (.goto (-38), 3) := by decide +kernel
theorem dr_cX17_input_19 : decode cX17_input 19 = .ok (.iload_n 1, 1) := by decide +kernel
theorem dr_cX17_input_20 : decode cX17_input 20 = .ok (.aload_n 0, 1) := by decide +kernel
theorem dr_cX17_input_21 : decode cX17_input 21 = .ok (.getfield 303, 3) := by decide +kernel
theorem dr_cX17_input_24 : decode cX17_input 24 = .ok (.arraylength, 1) := by decide +kernel
theorem dr_cX17_input_25 : decode cX17_input 25 = .ok (.if_icmp .ge 52, 3) := by decide +kernel
theorem dr_cX17_input_28 : decode cX17_input 28 = .ok (.iconst 0, 1) := by decide +kernel
theorem dr_cX17_input_29 : decode cX17_input 29 = .ok (.istore_n 2, 1) := by decide +kernel
theorem dr_cX17_input_71 : decode cX17_input 71 = .ok (.iinc 1 1, 3) := by decide +kernel
theorem dr_cX17_input_74 : decode cX17_input 74 = .ok (.goto (-55), 3) := by decide +kernel
theorem dr_cX17_input_0 : decode cX17_input 0 = .ok (.aload_n 0, 1) := by decide +kernel
theorem dr_cX17_input_1 : decode cX17_input 1 = .ok (.iconst 0, 1) := by decide +kernel
theorem dr_cX17_input_2 : decode cX17_input 2 = .ok (.putfield 380, 3) := by decide +kernel
theorem dr_cX17_input_5 : decode cX17_input 5 = .ok (.aload_n 0, 1) := by decide +kernel
theorem dr_cX17_input_6 : decode cX17_input 6 = .ok (.aload_n 0, 1) := by decide +kernel
theorem dr_cX17_input_7 : decode cX17_input 7 = .ok (.getfield 383, 3) := by decide +kernel
theorem dr_cX17_input_10 : decode cX17_input 10 = .ok (.iconst 4, 1) := by decide +kernel
theorem dr_cX17_input_11 : decode cX17_input 11 = .ok (.idiv, 1) := by decide +kernel
theorem dr_cX17_input_12 : decode cX17_input 12 = .ok (.newarray .int, 2) := by decide +kernel
theorem dr_cX17_input_14 : decode cX17_input 14 = .ok (.putfield 303, 3) := by decide +kernel
theorem dr_cX17_input_17 : decode cX17_input 17 = .ok (.iconst 0, 1) := by decide +kernel
theorem dr_cX17_input_18 : decode cX17_input 18 = .ok (.istore_n 1, 1) := by decide +kernel
theorem dr_cX17_input_77 : decode cX17_input 77 = .ok (.aload_n 0, 1) := by decide +kernel
theorem dr_cX17_input_78 : decode cX17_input 78 = .ok (.iconst 0, 1) := by decide +kernel
theorem dr_cX17_input_79 : decode cX17_input 79 = .ok (.putfield 383, 3) := by decide +kernel
theorem dr_cX17_input_82 : decode cX17_input 82 = .ok (.aload_n 0, 1) := by decide +kernel
theorem dr_cX17_input_83 : decode cX17_input 83 = .ok (.getfield 303, 3) := by decide +kernel
theorem dr_cX17_input_86 : decode cX17_input 86 = .ok (.arraylength, 1) := by decide +kernel
theorem dr_cX17_input_87 : decode cX17_input 87 = .ok (.ireturn, 1) := by decide +kernel
abbrev ky_inp : gKey := (cX17_input, 3, "SpillForgeModel", (some FieldType.int), [], "input", fun _ _ => True)
def inS (D : va_G) (I : FieldType → ClassId) (P0 : List Nat) (F0 : Nat → va_E) (γ0 el : Nat → Nat → Nat) (P : List Nat) (γ : Nat → Nat → Nat) (m A N : Nat) (e : va_E) (F : Nat → va_E) : Prop := rSk 0 [] [10, 26] D I P0 F0 γ0 el P F γ el ∧ F m = e ∧ A ∈ P ∧ γ 0 A = 26 ∧ ∃ f : Nat → Int32, F A = .inl (I .int, N, .inl f)
theorem inS_a {D : va_G} {I : FieldType → ClassId} {P0 P : List Nat} {F0 F F1 : Nat → va_E} {γ0 γ el : Nat → Nat → Nat} {m A N : Nat} {e : va_E} {f1 : Nat → Int32} (h : inS D I P0 F0 γ0 el P γ m A N e F) (hm : γ 0 m = 10) (hN : N ≤ 2048) (e1 : F1 A = .inl (I .int, N, .inl f1)) (n : ∀ b, b ≠ A → F1 b = F b) : inS D I P0 F0 γ0 el P γ m A N e F1 := by
  obtain ⟨h1, h2, h3, h4, -⟩ := h
  have hmA : m ≠ A := fun q => by rw [q, h4] at hm; cases hm
  exact ⟨rSk_put h1 (RS_set h1.1 n (show rKd γ A 26 from h4) (by decide) ⟨N, f1, e1, by omega⟩) n (show rKd γ A 26 from h4) (by decide) (fun _ z => nomatch z), (n m hmA).trans h2, h3, h4, f1, e1⟩
set_option maxRecDepth 100000 in
set_option maxHeartbeats 4000000 in
theorem in_l2 {l : Launch} {D : va_G} {I : FieldType → ClassId} {P0 P : List Nat} {F0 : Nat → va_E} {γ0 γ el : Nat → Nat → Nat} {m A N cs sl mc ms : Nat} {Qf : gFin} {r35 : Nat} {v9 v10 v11 v12 v13 v14 v23 v24 v25 v26 v27 v30 v32 v33 v34 i : Int32} (hm : γ 0 m = 10) (t25 : γ 0 (γ 9 31) = 99) (hN : N ≤ 2048) (hi0 : 0 ≤ i.toInt) (hiN : i.toInt < (N : Int))
    (kk : ∀ (F : Nat → va_E) (jj : Int32), inS D I P0 F0 γ0 el P γ m A N (mdE γ A r35 v9 v10 v11 v12 v13 v14 v23 v24 v25 v26 v27 v30 v32 v33 v34) F → G (gV D I) l (gRm 1 20 mc ms) Qf ky_inp 71 [(2, .int jj), (1, .int i), (0, .ref m)] [] (va_pl P F) cs sl) :
    ∀ (μ : Nat) (F : Nat → va_E) (jj : Int32), 4 - jj.toInt < (μ : Int) → 0 ≤ jj.toInt → jj.toInt ≤ 4 → inS D I P0 F0 γ0 el P γ m A N (mdE γ A r35 v9 v10 v11 v12 v13 v14 v23 v24 v25 v26 v27 v30 v32 v33 v34) F →
    G (gV D I) l (gRm 1 20 mc ms) Qf ky_inp 30 [(2, .int jj), (1, .int i), (0, .ref m)] [] (va_pl P F) cs sl := by
  intro μ
  induction μ with
  | zero => intro F jj h h0 h4 _; exact absurd h (by omega)
  | succ μ ih =>
  intro F jj hμ h0 h4 hS
  obtain ⟨hk, he, mA, kA, fA, eA⟩ := id hS
  have mm : m ∈ P := hk.1.1 m (by omega)
  obtain ⟨ft, f1, f2⟩ := show rk_99 I (F (γ 9 31)) from RS_o hk.1 t25
  have mt : γ 9 31 ∈ P := hk.1.1 _ (by omega)
  refine G_iload_n 0 dr_cX17_input_30 rfl ?_
  refine G_iconst 4 dr_cX17_input_31 (by decide +kernel) ?_
  have z4 : Int32.toInt 4 = 4 := by decide
  refine G_icmp_ge 71 dr_cX17_input_32 (by decide +kernel) (fun _ => kk F jj hS) (fun hc => ?_)
  have hlt : jj.toInt < 4 := gj_nle hc rfl
  refine G_aload_n 2 dr_cX17_input_35 rfl ?_
  refine Gp_get 28 mm he dr_cX17_input_36 (gk_X17 D I) (Nat.le_of_ble_eq_true rfl) wr_7_102 rfl ?_
  refine G_iload_n 1 dr_cX17_input_39 rfl ?_
  refine G_aload_n 2 dr_cX17_input_40 rfl ?_
  refine Gp_get 28 mm he dr_cX17_input_41 (gk_X17 D I) (Nat.le_of_ble_eq_true rfl) wr_7_102 rfl ?_
  refine G_iload_n 1 dr_cX17_input_44 rfl ?_
  refine Gp_iald 0 mA eA dr_cX17_input_45 rfl (gB_inr hi0 hiN) (G_nam fun z1 _ => ?_)
  refine G_bipush 8 dr_cX17_input_46 (by decide +kernel) ?_
  refine G_ishl dr_cX17_input_48 (G_nam fun z2 _ => ?_)
  refine G_aload_n 2 dr_cX17_input_49 rfl ?_
  refine Gp_get 31 mm he dr_cX17_input_50 (gk_X17 D I) (Nat.le_of_ble_eq_true rfl) wr_7_105 rfl ?_
  refine G_iconst 4 dr_cX17_input_53 (by decide +kernel) ?_
  refine G_iload_n 1 dr_cX17_input_54 rfl ?_
  refine G_imul dr_cX17_input_55 (G_nam fun z3 hz3 => ?_)
  have bi : gB i 0 2048 := ⟨hi0, by omega⟩
  have e3 : z3.toInt = 4 * i.toInt := by rw [gI_mul hz3 (gBl z4) bi (by decide) (by decide) (by decide), z4]
  refine G_iload_n 0 dr_cX17_input_56 rfl ?_
  refine G_iadd dr_cX17_input_57 (G_nam fun z5 hz5 => ?_)
  have e5 : z5.toInt = z3.toInt + jj.toInt := gI_add hz5 (⟨by omega, by omega⟩ : gB z3 0 8192) (⟨h0, h4⟩ : gB jj 0 4) (by decide) (by decide)
  refine Gp_bald 1 mt f1 dr_cX17_input_58 rfl (gB_inr (by omega) (by omega)) (G_nam fun z6 _ => ?_)
  refine G_sipush 255 dr_cX17_input_59 (by decide +kernel) ?_
  refine G_iand dr_cX17_input_62 (G_nam fun z7 _ => ?_)
  refine G_ior dr_cX17_input_63 (G_nam fun z8 _ => ?_)
  refine Gp_iast 0 mA eA dr_cX17_input_64 rfl (gB_inr hi0 hiN) (fun F1 e1 n1 => ?_)
  have hS1 := inS_a hS hm hN e1 n1
  obtain ⟨j1, hj1⟩ : ∃ z, z = jj + 1 := ⟨_, rfl⟩
  have ej : j1.toInt = jj.toInt + 1 := by rw [gI_add hj1 (⟨h0, h4⟩ : gB jj 0 4) (gBl (show Int32.toInt 1 = 1 by decide)) (by decide) (by decide), show Int32.toInt 1 = 1 from by decide]
  refine G_iinc (L' := [(2, .int j1), (1, .int i), (0, .ref m)]) j1 0 dr_cX17_input_65 rfl (by rw [hj1]; rfl) (Nat.le_of_ble_eq_true rfl) rfl ?_
  refine G_goto 30 dr_cX17_input_68 (by decide +kernel) ?_
  exact ih F1 j1 (by omega) (by omega) (by omega) hS1
set_option maxRecDepth 100000 in
set_option maxHeartbeats 4000000 in
theorem in_l1 {l : Launch} {D : va_G} {I : FieldType → ClassId} {P0 P : List Nat} {F0 : Nat → va_E} {γ0 γ el : Nat → Nat → Nat} {m A N cs sl mc ms : Nat} {Qf : gFin} {r35 : Nat} {v9 v10 v11 v12 v13 v14 v23 v24 v25 v26 v27 v30 v32 v33 v34 : Int32} (hm : γ 0 m = 10) (t25 : γ 0 (γ 9 31) = 99) (hN : N ≤ 2048)
    (kk : ∀ (F : Nat → va_E) (i : Int32), inS D I P0 F0 γ0 el P γ m A N (mdE γ A r35 v9 v10 v11 v12 v13 v14 v23 v24 v25 v26 v27 v30 v32 v33 v34) F → G (gV D I) l (gRm 1 20 mc ms) Qf ky_inp 77 [(1, .int i), (0, .ref m)] [] (va_pl P F) cs sl) :
    ∀ (μ : Nat) (F : Nat → va_E) (i : Int32), (N : Int) - i.toInt < (μ : Int) → 0 ≤ i.toInt → i.toInt ≤ (N : Int) → inS D I P0 F0 γ0 el P γ m A N (mdE γ A r35 v9 v10 v11 v12 v13 v14 v23 v24 v25 v26 v27 v30 v32 v33 v34) F →
    G (gV D I) l (gRm 1 20 mc ms) Qf ky_inp 19 [(1, .int i), (0, .ref m)] [] (va_pl P F) cs sl := by
  intro μ
  induction μ with
  | zero => intro F i h h0 h4 _; exact absurd h (by omega)
  | succ μ ih =>
  intro F i hμ h0 h4 hS
  obtain ⟨hk, he, mA, kA, fA, eA⟩ := id hS
  have mm : m ∈ P := hk.1.1 m (by omega)
  refine G_iload_n 0 dr_cX17_input_19 rfl ?_
  refine G_aload_n 1 dr_cX17_input_20 rfl ?_
  refine Gp_get 28 mm he dr_cX17_input_21 (gk_X17 D I) (Nat.le_of_ble_eq_true rfl) wr_7_102 rfl ?_
  refine Gp_alen (Int32.ofNat N) 0 mA eA dr_cX17_input_24 rfl rfl (G_nam fun z hz => ?_)
  have ez : z.toInt = (N : Nat) := gI_ofM hz (by omega)
  refine G_icmp_ge 77 dr_cX17_input_25 (by decide +kernel) (fun _ => kk F i hS) (fun hc => ?_)
  have hlt : i.toInt < z.toInt := gj_nle hc rfl
  refine G_iconst 0 dr_cX17_input_28 (by decide +kernel) ?_
  refine G_istore_n (L' := [(2, .int 0), (1, .int i), (0, .ref m)]) dr_cX17_input_29 (Nat.le_of_ble_eq_true rfl) rfl ?_
  have z0 : Int32.toInt 0 = 0 := by decide
  refine in_l2 hm t25 hN h0 (by omega) (fun F1 jj hS1 => ?_) 5 F 0 (by rw [z0]; decide) (by rw [z0]; decide) (by rw [z0]; decide) hS
  obtain ⟨i1, hi1⟩ : ∃ z, z = i + 1 := ⟨_, rfl⟩
  have ei : i1.toInt = i.toInt + 1 := by rw [gI_add hi1 (⟨h0, by omega⟩ : gB i 0 2048) (gBl (show Int32.toInt 1 = 1 by decide)) (by decide) (by decide), show Int32.toInt 1 = 1 from by decide]
  refine G_iinc (L' := [(1, .int i1), (2, .int jj), (0, .ref m)]) i1 1 dr_cX17_input_71 rfl (by rw [hi1]; rfl) (Nat.le_of_ble_eq_true rfl) rfl ?_
  refine G_goto 19 dr_cX17_input_74 (by decide +kernel) ?_
  refine G_lv [0, 2] rfl ?_
  exact ih F1 i1 (by omega) (by omega) (by omega) hS1
set_option maxRecDepth 100000 in
set_option maxHeartbeats 4000000 in
theorem cp_input (l : Launch) (hl0 : l.stackTraces = false) (D : va_G) (I : FieldType → ClassId) {P : List Nat} {F : Nat → va_E} {γ el : Nat → Nat → Nat} {m : Nat} (hT : RS D I P F γ el) (hm : γ 0 m = 10) :
    CtA (gV D I) l yX17_input cX17_input 3 (some FieldType.int) 1 20 1 2048 [.ref m] (va_pl P F) (inP D I P F γ el m) gNA := by
  refine CtA_of hl0 (by decide) (Nat.le_of_ble_eq_true rfl) ?_
  obtain ⟨r28, r35, v9, v10, v11, v12, v13, v14, v23, v24, v25, v26, v27, v30, v32, v33, v34, he, hM1, hK, hM2⟩ := rk10_m (show rk_10 γ (F m) from RS_o hT hm)
  have hM1' := hM1
  obtain ⟨q9, q10, q11, q14, q25, q26, q27, q32, q34⟩ := hM1
  have mm : m ∈ P := hT.1 m (by omega)
  have e32 : fI (F m) 32 = v32 := by rw [he]; rfl
  have e10 : fI (F m) 10 = v10 := by rw [he]; rfl
  have e9 : fI (F m) 9 = v9 := by rw [he]; rfl
  have t25 : γ 0 (γ 9 31) = 99 := hK.2.2.2.2.2.2.2.2.2.2.2.2.2.2.2.2.2.2.2.2.1
  refine G_aload_n 0 dr_cX17_input_0 rfl ?_
  refine G_iconst 0 dr_cX17_input_1 (by decide +kernel) ?_
  refine Gp_put 30 mm he dr_cX17_input_2 (gk_X17 D I) (Nat.le_of_ble_eq_true rfl) wr_7_104 rfl rfl rfl (Nat.le_of_ble_eq_true rfl) (fun F1 e1 n1 => ?_)
  have e1' : F1 m = mdE γ r28 r35 v9 v10 v11 v12 v13 v14 v23 v24 v25 v26 v27 0 v32 v33 v34 := e1
  have hT1 := RS_md hT hm n1 e1' hM1' hK hM2
  have hk1 := rSk_put (rSk_rf (f := 0) (K := []) (KF := [10, 26]) hT) hT1 n1 (show rKd γ m 10 from hm) (by decide) (fun _ z => nomatch z)
  refine G_aload_n 0 dr_cX17_input_5 rfl ?_
  refine G_aload_n 0 dr_cX17_input_6 rfl ?_
  refine Gp_get 32 mm e1' dr_cX17_input_7 (gk_X17 D I) (Nat.le_of_ble_eq_true rfl) wr_7_106 rfl ?_
  refine G_iconst 4 dr_cX17_input_10 (by decide +kernel) ?_
  refine G_idiv dr_cX17_input_11 (by decide) (G_nam fun z hz => ?_)
  have ez : z.toInt = v32.toInt / 4 := gI_div hz q32 (by decide) (by decide) (by decide)
  have q32a := q32.1
  have q32b := q32.2
  have hz0 : 0 ≤ z.toInt := by omega
  have hz1 : z.toInt ≤ 2048 := by omega
  refine G_newa 0 (z.toInt.toNat, .inl (fun _ => 0)) dr_cX17_input_12 rfl rfl (by intro C h; cases h) wr_1_95 (fun _ => ga_int _ _) (g_n0 (by omega)) rfl (show z.toInt.toNat * 4 ≤ 536870912 by omega) (show 0 + 1 ≤ 1 by decide) (show 0 + z.toInt.toNat ≤ 2048 by omega) (fun A => Gp_in (fun P2 F2 hq hP e2 n2 => ?_))
  have hs2 : rSub P P2 := rSub_new (rSub_rf (P := P)) hP
  have A0 : γ 0 A = 0 := RS_new hT hq
  have mA2 : A ∈ P2 := (hP A).mpr (Or.inr rfl)
  have hN : z.toInt.toNat ≤ 2048 := by omega
  have sk2 : rSk 0 [] [10, 26] D I P F1 γ el P2 F2 (gNw γ A 26) el := rSk_nw hT1 hq hs2 mA2 n2 ⟨z.toInt.toNat, fun _ => 0, e2, by omega⟩
  have hk2 := rSk_tr hk1 sk2 (fun _ z => nomatch z) (fun _ z => z) (fun _ z => nomatch z)
  have hmA : m ≠ A := fun e => by rw [e, A0] at hm; cases hm
  have hm2 : gNw γ A 26 0 m = 10 := (gNw_ne hmA).trans hm
  have g9 : gNw γ A 26 9 = γ 9 := gNw_j (by decide)
  have e2m : F2 m = mdE (gNw γ A 26) r28 r35 v9 v10 v11 v12 v13 v14 v23 v24 v25 v26 v27 0 v32 v33 v34 := (n2 m hmA).trans e1'
  have mm2 := hs2 m mm
  have kA : gNw γ A 26 0 A = 26 := if_pos ⟨rfl, rfl⟩
  have hM2' : rM2 (gNw γ A 26) v9 v10 v34 r35 := by
    unfold rM2
    rw [gNw_j (j := 6) (by decide), gNw_j (j := 23) (by decide), gNw_j (j := 12) (by decide)]
    exact hM2
  refine Gp_put 28 mm2 e2m dr_cX17_input_14 (gk_X17 D I) (Nat.le_of_ble_eq_true rfl) wr_7_102 rfl rfl rfl (Nat.le_of_ble_eq_true rfl) (fun F3 e3 n3 => ?_)
  have e3' : F3 m = mdE (gNw γ A 26) A r35 v9 v10 v11 v12 v13 v14 v23 v24 v25 v26 v27 0 v32 v33 v34 := e3
  have hK3 := mdK_nw A0 hK
  have hT3 := RS_md hk2.1 hm2 n3 e3' hM1' hK3 hM2'
  have hk3 := rSk_put hk2 hT3 n3 (show rKd (gNw γ A 26) m 10 from hm2) (by decide) (fun _ z => nomatch z)
  have t25' : gNw γ A 26 0 (gNw γ A 26 9 31) = 99 := hK3.2.2.2.2.2.2.2.2.2.2.2.2.2.2.2.2.2.2.2.2.1
  have hS3 : inS D I P F γ el P2 (gNw γ A 26) m A z.toInt.toNat (mdE (gNw γ A 26) A r35 v9 v10 v11 v12 v13 v14 v23 v24 v25 v26 v27 0 v32 v33 v34) F3 := ⟨hk3, e3', mA2, kA, fun _ => 0, (n3 A (Ne.symm hmA)).trans e2⟩
  refine G_iconst 0 dr_cX17_input_17 (by decide +kernel) ?_
  refine G_istore_n (L' := [(1, .int 0), (0, .ref m)]) dr_cX17_input_18 (Nat.le_of_ble_eq_true rfl) rfl ?_
  have z0 : Int32.toInt 0 = 0 := by decide
  refine in_l1 hm2 t25' hN (fun F4 i hS4 => ?_) (z.toInt.toNat + 1) F3 0 (by rw [z0]; omega) (by rw [z0]; decide) (by rw [z0]; omega) hS3
  obtain ⟨hk4, he4, -, -, fA, eA4⟩ := id hS4
  refine G_aload_n 1 dr_cX17_input_77 rfl ?_
  refine G_iconst 0 dr_cX17_input_78 (by decide +kernel) ?_
  refine Gp_put 32 mm2 he4 dr_cX17_input_79 (gk_X17 D I) (Nat.le_of_ble_eq_true rfl) wr_7_106 rfl rfl rfl (Nat.le_of_ble_eq_true rfl) (fun F5 e5 n5 => ?_)
  have e5' : F5 m = mdE (gNw γ A 26) A r35 v9 v10 v11 v12 v13 v14 v23 v24 v25 v26 v27 0 0 v33 v34 := e5
  have hT5 := RS_md hk4.1 hm2 n5 e5' ⟨q9, q10, q11, q14, q25, q26, q27, ⟨by decide, by decide⟩, q34⟩ hK3 hM2'
  have hk5 := rSk_put hk4 hT5 n5 (show rKd (gNw γ A 26) m 10 from hm2) (by decide) (fun _ z => nomatch z)
  refine G_aload_n 1 dr_cX17_input_82 rfl ?_
  refine Gp_get 28 mm2 e5' dr_cX17_input_83 (gk_X17 D I) (Nat.le_of_ble_eq_true rfl) wr_7_102 rfl ?_
  refine Gp_alen (Int32.ofNat z.toInt.toNat) 0 mA2 ((n5 A (Ne.symm hmA)).trans eA4) dr_cX17_input_86 rfl rfl (G_nam fun x hx => ?_)
  exact G_iretA dr_cX17_input_87 rfl (show 0 + 1 ≤ 1 by decide) (show 0 + z.toInt.toNat ≤ 2048 by omega) ⟨P2, F5, gNw γ A 26, x, rfl, rfl, hk5, fun j hj => gNw_j hj, by rw [e5', e9]; rfl, by rw [e5', e10]; rfl, by rw [e5']; rfl, by omega, by rw [e32]; omega, by rw [e5', he]; rfl, by have ex := gI_ofM hx (by omega); rw [ex, e32]; omega⟩
abbrev ky_677078_AbstractStringBuilder_ensureCapacityInternal : gKey := (cJ5_ensureCapacityInternal_d00df, 3, "java/lang/AbstractStringBuilder", none, [], "ensureCapacityInternal", fun _ _ => True)
def pp_677078_AbstractStringBuilder_ensureCapacityInternal (D : va_G) (I : FieldType → ClassId) (P677067 : List Nat) (F677068 : Nat → va_E) (q677069 : Nat) (q677070 : Nat) (p677071 : Int32) (p677072 : Int32) (p677073 : Int32) (f677074 : Nat → Int32) (n677075 : Nat) : Option Value → va_W → Nat → Nat → Prop := fun r w dc ds => (r = none ∧ w = va_pl P677067 F677068 ∧ dc ≤ 0 ∧ ds ≤ 0 ∧ p677071.toInt ≤ (n677075 : Int) ∧ (n677075 : Int) ≤ (n677075 : Int) ∧ ((n677075 : Int) = (n677075 : Int) ∨ (n677075 : Int) < p677071.toInt) ∧ ((n677075 : Int) ≤ 2 * (n677075 : Int) + 2 ∨ (n677075 : Int) ≤ p677071.toInt) ∧ ((n677075 : Int) = (n677075 : Int) ∨ (n677075 : Int) < p677071.toInt) ∧ ((n677075 : Int) = (n677075 : Int) ∨ 2 * (n677075 : Int) + 2 ≤ (n677075 : Int))) ∨ (∃ (P677128 : List Nat) (F677129 : Nat → va_E) (q677125 : Nat) (n677126 : Nat) (f677127 : Nat → Int32), r = none ∧ w = va_pl P677128 F677129 ∧ rSub P677067 P677128 ∧ rFr [q677069] P677067 F677068 F677129 ∧ F677129 q677069 = .inr (1, [.ref q677125, .int 0, .int p677072, .int p677073]) ∧ F677129 q677125 = .inl (I .byte, n677126, .inl f677127) ∧ q677125 ∈ P677128 ∧ q677125 ∉ P677067 ∧ dc ≤ (min 1 (n677126 - n677075)) ∧ ds ≤ 2 * (n677126 - n677075) ∧ gF f677127 (-128) 127 ∧ p677071.toInt ≤ (n677126 : Int) ∧ (n677075 : Int) ≤ (n677126 : Int) ∧ ((n677126 : Int) = (n677075 : Int) ∨ (n677075 : Int) < p677071.toInt) ∧ ((n677126 : Int) ≤ 2 * (n677075 : Int) + 2 ∨ (n677126 : Int) ≤ p677071.toInt) ∧ ((n677126 : Int) = (n677075 : Int) ∨ (n677075 : Int) < p677071.toInt) ∧ ((n677126 : Int) = (n677075 : Int) ∨ 2 * (n677075 : Int) + 2 ≤ (n677126 : Int)))
set_option maxRecDepth 100000 in
set_option maxHeartbeats 4000000 in
theorem cp_677078_AbstractStringBuilder_ensureCapacityInternal (l : Launch) (hl0 : l.stackTraces = false) (D : va_G) (I : FieldType → ClassId) (P677067 : List Nat) (F677068 : Nat → va_E) (q677069 : Nat) (q677070 : Nat) (p677071 : Int32) (p677072 : Int32) (p677073 : Int32) (f677074 : Nat → Int32) (n677075 : Nat) (hmq677069 : q677069 ∈ P677067) (hmq677070 : q677070 ∈ P677067) (heq677069 : F677068 q677069 = .inr (1, [.ref q677070, .int 0, .int p677072, .int p677073])) (heq677070 : F677068 q677070 = .inl (I .byte, n677075, .inl f677074)) (bp677071 : gB p677071 0 8388608) (bp677072 : gB p677072 0 1) (bp677073 : gB p677073 0 16777216) (bf677074 : gF f677074 (-128) 127) (x677076 : (n677075 : Int) ≤ 8388608) (x677077 : ((n677075 : Int) ≤ 16777216)) : CtA (gV D I) l yJ5_ensureCapacityInternal_d00df cJ5_ensureCapacityInternal_d00df 3 none 3 62 1 (2 * n677075 + 2 + p677071.toInt.toNat) [.ref q677069, .int p677071] (va_pl P677067 F677068) (pp_677078_AbstractStringBuilder_ensureCapacityInternal D I P677067 F677068 q677069 q677070 p677071 p677072 p677073 f677074 n677075) gNA := by
  refine CtA_ofF hl0 (by decide +kernel) (Nat.le_of_ble_eq_true rfl) ?_
  refine G_aload_n 0 dr_cJ5_ensureCapacityInternal_d00df_0 rfl ?_
  refine Gp_get 0 hmq677069 heq677069 dr_cJ5_ensureCapacityInternal_d00df_1 (gk_J4 D I) (Nat.le_of_ble_eq_true rfl) wr_7_60 rfl ?_
  refine Gp_alen (Int32.ofNat n677075) 1 hmq677070 heq677070 dr_cJ5_ensureCapacityInternal_d00df_4 rfl rfl (G_nam fun z677079 hz677079 => ?_)
  have ez677079 : z677079.toInt = (n677075 : Nat) := gI_ofM hz677079 (by omega)
  have bz677079 : gB z677079 0 16777216 := ⟨by omega, by omega⟩
  refine G_aload_n 0 dr_cJ5_ensureCapacityInternal_d00df_5 rfl ?_
  refine Gp_get 1 hmq677069 heq677069 dr_cJ5_ensureCapacityInternal_d00df_6 (gk_J4 D I) (Nat.le_of_ble_eq_true rfl) wr_7_61 rfl ?_
  refine G_ishr dr_cJ5_ensureCapacityInternal_d00df_9 (G_nam fun z677080 hz677080 => ?_)
  have ez677080 : z677080.toInt = z677079.toInt / 1 := gI_shr (k := 0) hz677080 (by decide)
  have bz677080 : gB z677080 0 16777216 := ⟨by omega, by omega⟩
  refine G_istore_n (L' := [(2, .int z677080), (0, .ref q677069), (1, .int p677071)]) dr_cJ5_ensureCapacityInternal_d00df_10 (Nat.le_of_ble_eq_true rfl) rfl ?_
  refine G_iload_n 2 dr_cJ5_ensureCapacityInternal_d00df_11 rfl ?_
  refine G_iload_n 0 dr_cJ5_ensureCapacityInternal_d00df_12 rfl ?_
  refine G_isub dr_cJ5_ensureCapacityInternal_d00df_13 (G_nam fun z677081 hz677081 => ?_)
  have ez677081 : z677081.toInt = p677071.toInt - z677080.toInt := by rw [gI_sub hz677081 bp677071 bz677080 (by decide) (by decide)]
  have bz677081 : gB z677081 (-16777216) 8388608 := gB_sub (gI_sub hz677081 bp677071 bz677080 (by decide) (by decide)) bp677071 bz677080 (by decide) (by decide)
  refine G_if_le 38 dr_cJ5_ensureCapacityInternal_d00df_14 (by decide +kernel) (fun hc677082 => ?_) (fun hc677082 => ?_)
  · have r677083 : z677081.toInt ≤ 0 := gj_le hc677082 (show Int32.toInt 0 = 0 by decide)
    have bz677081' : gB z677081 (-16777216) 0 := ⟨by omega, by omega⟩
    exact G_vretA dr_cJ5_ensureCapacityInternal_d00df_38 rfl (Nat.le_of_ble_eq_true rfl) (Nat.le_of_ble_eq_true rfl) (Or.inl ⟨rfl, rfl, (Nat.le_of_ble_eq_true rfl), (Nat.le_of_ble_eq_true rfl), (by have qa0 : Int32.toInt 0 = 0 := (by decide); omega), (by have qa0 : Int32.toInt 0 = 0 := (by decide); omega), (by have qa0 : Int32.toInt 0 = 0 := (by decide); omega), (by have qa0 : Int32.toInt 0 = 0 := (by decide); omega), (by have qa0 : Int32.toInt 0 = 0 := (by decide); omega), (by have qa0 : Int32.toInt 0 = 0 := (by decide); omega)⟩)
  · have r677084 : 0 < z677081.toInt := gj_nle hc677082 (show Int32.toInt 0 = 0 by decide)
    have bz677081' : gB z677081 1 8388608 := ⟨by omega, by omega⟩
    refine G_aload_n 1 dr_cJ5_ensureCapacityInternal_d00df_17 rfl ?_
    refine G_aload_n 1 dr_cJ5_ensureCapacityInternal_d00df_18 rfl ?_
    refine Gp_get 0 hmq677069 heq677069 dr_cJ5_ensureCapacityInternal_d00df_19 (gk_J4 D I) (Nat.le_of_ble_eq_true rfl) wr_7_60 rfl ?_
    refine G_aload_n 1 dr_cJ5_ensureCapacityInternal_d00df_22 rfl ?_
    refine G_iload_n 2 dr_cJ5_ensureCapacityInternal_d00df_23 rfl ?_
    refine Gw_callVB (As := [.int p677071]) (gV_ok D I) (cp_658678_AbstractStringBuilder_newCapacity l hl0 D I P677067 F677068 q677069 q677070 p677071 p677072 p677073 f677074 n677075 hmq677069 hmq677070 heq677069 heq677070 bp677071 bp677072 bp677073 bf677074 (by have qa0 : Int32.toInt 0 = 0 := (by decide); omega) (by have qa0 : Int32.toInt 0 = 0 := (by decide); omega) (by have qa0 : Int32.toInt 0 = 0 := (by decide); omega)) dr_cJ5_ensureCapacityInternal_d00df_24 ⟨wr_8_8, wr_1_19, wr_8_11, by decide, rfl, (Nat.le_of_ble_eq_true rfl), (Nat.le_of_ble_eq_true rfl)⟩ wr_8_10 wr_s_1 hmq677069 heq677069 rfl (show 0 + 0 ≤ 1 by first | omega | decide) (show 0 + 0 ≤ (2 * n677075 + 2 + p677071.toInt.toNat) by first | omega | decide) (Nat.le_of_ble_eq_true rfl) (fun r677088 w677089 dc677085 ds677086 hp677087 => ?_) (fun _ _ _ _ _ z => z.elim)
    obtain ⟨o677090, rfl, rfl, hdc, hds, bo677090, x677091, x677092, x677093, ht677094⟩ := hp677087
    change G _ _ _ _ _ _ _ (.int o677090 :: _) _ _ _
    refine G_widen (cs' := 0) (sl' := 0) (by omega) (by omega) ?_
    refine G_aload_n 1 dr_cJ5_ensureCapacityInternal_d00df_27 rfl ?_
    refine Gp_get 1 hmq677069 heq677069 dr_cJ5_ensureCapacityInternal_d00df_28 (gk_J4 D I) (Nat.le_of_ble_eq_true rfl) wr_7_61 rfl ?_
    refine G_ishl dr_cJ5_ensureCapacityInternal_d00df_31 (G_nam fun z677095 hz677095 => ?_)
    have ez677095 : z677095.toInt = o677090.toInt * 1 := gI_shl (k := 0) hz677095 (by decide) bo677090 (by decide) (by decide)
    have bz677095 : gB z677095 1 33554432 := ⟨by omega, by omega⟩
    refine Gw_callS (As := [.ref q677070, .int z677095]) (gV_ok D I) (cp_658713_Arrays_copyOf l hl0 D I P677067 F677068 q677070 z677095 f677074 n677075 hmq677070 heq677070 (gB_w bz677095 (by decide) (by decide)) bf677074 (by have qa0 : Int32.toInt 0 = 0 := (by decide); omega) (by have qa0 : Int32.toInt 0 = 0 := (by decide); omega)) dr_cJ5_ensureCapacityInternal_d00df_32 ⟨wr_8_21, wr_1_30, wr_8_23, by decide, rfl, (Nat.le_of_ble_eq_true rfl), (Nat.le_of_ble_eq_true rfl)⟩ wr_8_22 (show 0 + 1 ≤ 1 by first | omega | decide) (show 0 + z677095.toInt.toNat ≤ (2 * n677075 + 2 + p677071.toInt.toNat) by first | omega | decide) (Nat.le_of_ble_eq_true rfl) (fun r677099 w677100 dc677096 ds677097 hp677098 => ?_) (fun _ _ _ _ _ z => z.elim)
    obtain ⟨P677104, F677105, q677101, f677102, rfl, rfl, hsb677106, hfr677107, he677108, he677109, hm677110, hq677111, hdc, hds, bf677102, ht677103⟩ := hp677098
    have hm677112 : q677069 ∈ P677104 := hsb677106 q677069 hmq677069
    have hm677113 : q677070 ∈ P677104 := hsb677106 q677070 hmq677070
    have hq677114 : q677101 ∉ P677067 := fun z => hq677111 ((rSub_rf (P := P677067)) q677101 z)
    have hsb677115 : rSub P677067 P677104 := rSub_tr (rSub_rf (P := P677067)) hsb677106
    have he677116 : F677105 q677069 = .inr (1, [.ref q677070, .int 0, .int p677072, .int p677073]) := (hfr677107 q677069 hmq677069 nm_n).trans heq677069
    have hfr677117 : rFr [] P677067 F677068 F677105 := rFr_call (rSub_rf (P := P677067)) (rFr_rf (W := []) (P := P677067) (F := F677068)) hfr677107 (fun b hb hn => ⟨nm_n, nm_n⟩)
    change G _ _ _ _ _ _ _ (.ref q677101 :: _) _ _ _
    refine G_widen (cs' := 1) (sl' := z677095.toInt.toNat) (by omega) (by omega) ?_
    refine Gp_put 0 hm677112 he677116 dr_cJ5_ensureCapacityInternal_d00df_35 (gk_J4 D I) (Nat.le_of_ble_eq_true rfl) wr_7_60 rfl rfl rfl (Nat.le_of_ble_eq_true rfl) (fun F677118 e677119 n677120 => ?_)
    have he677121 : F677118 q677070 = .inl (I .byte, n677075, .inl f677074) := (n677120 q677070 (rn_ao he677108 he677116)).trans he677108
    have he677122 : F677118 q677101 = .inl (I .byte, z677095.toInt.toNat, .inl f677102) := (n677120 q677101 (fun h => hq677114 (h ▸ hmq677069))).trans he677109
    have he677123 : F677118 q677069 = .inr (1, [.ref q677101, .int 0, .int p677072, .int p677073]) := e677119
    have hfr677124 : rFr [q677069] P677067 F677068 F677118 := rFr_put hfr677117 n677120
    exact G_vretA dr_cJ5_ensureCapacityInternal_d00df_38 rfl (Nat.le_of_ble_eq_true rfl) (show z677095.toInt.toNat ≤ (2 * n677075 + 2 + p677071.toInt.toNat) by omega) (Or.inr (⟨P677104, F677118, q677101, z677095.toInt.toNat, f677102, rfl, rfl, hsb677115, hfr677124, he677123, he677122, hm677110, hq677114, (by omega), (by omega), bf677102, (by have qa0 : Int32.toInt 0 = 0 := (by decide); omega), (by have qa0 : Int32.toInt 0 = 0 := (by decide); omega), (by have qa0 : Int32.toInt 0 = 0 := (by decide); omega), (by have qa0 : Int32.toInt 0 = 0 := (by decide); omega), (by have qa0 : Int32.toInt 0 = 0 := (by decide); omega), (by have qa0 : Int32.toInt 0 = 0 := (by decide); omega)⟩))
abbrev ky_677065_AbstractStringBuilder_append : gKey := (cJ5_append_3fe6f, 2, "java/lang/AbstractStringBuilder", (some (FieldType.object "java/lang/AbstractStringBuilder")), [], "append", fun _ _ => True)
def pp_677065_AbstractStringBuilder_append (D : va_G) (I : FieldType → ClassId) (P677053 : List Nat) (F677054 : Nat → va_E) (q677055 : Nat) (q677056 : Nat) (p677057 : Int32) (p677058 : Int32) (p677059 : Int32) (f677060 : Nat → Int32) (n677061 : Nat) : Option Value → va_W → Nat → Nat → Prop := fun r w dc ds => (∃ (F677231 : Nat → va_E) (o677228 : Int32) (f677229 : Nat → Int32), r = some (.ref q677055) ∧ w = va_pl P677053 F677231 ∧ rFr [q677056, q677055] P677053 F677054 F677231 ∧ F677231 q677055 = .inr (1, [.ref q677056, .int 0, .int p677058, .int o677228]) ∧ F677231 q677056 = .inl (I .byte, n677061, .inl f677229) ∧ dc ≤ 0 ∧ ds ≤ 0 ∧ gB o677228 1 16777216 ∧ gF f677229 (-128) 127 ∧ o677228.toInt = p677059.toInt + 1 ∧ o677228.toInt ≤ (n677061 : Int) ∧ (n677061 : Int) ≤ (n677061 : Int) ∧ (n677061 : Int) ≤ 2 * (n677061 : Int) + 2 ∧ ((n677061 : Int) = (n677061 : Int) ∨ (n677061 : Int) < o677228.toInt) ∧ ((n677061 : Int) = (n677061 : Int) ∨ 2 * (n677061 : Int) + 2 ≤ (n677061 : Int))) ∨ (∃ (P677236 : List Nat) (F677237 : Nat → va_E) (o677232 : Int32) (q677233 : Nat) (n677234 : Nat) (f677235 : Nat → Int32), r = some (.ref q677055) ∧ w = va_pl P677236 F677237 ∧ rSub P677053 P677236 ∧ rFr [q677055] P677053 F677054 F677237 ∧ F677237 q677055 = .inr (1, [.ref q677233, .int 0, .int p677058, .int o677232]) ∧ F677237 q677233 = .inl (I .byte, n677234, .inl f677235) ∧ q677233 ∈ P677236 ∧ q677233 ∉ P677053 ∧ dc ≤ (min 1 (n677234 - n677061)) ∧ ds ≤ 2 * (n677234 - n677061) ∧ gB o677232 1 16777216 ∧ gF f677235 (-128) 127 ∧ o677232.toInt = p677059.toInt + 1 ∧ o677232.toInt ≤ (n677234 : Int) ∧ (n677061 : Int) ≤ (n677234 : Int) ∧ (n677234 : Int) ≤ 2 * (n677061 : Int) + 2 ∧ ((n677234 : Int) = (n677061 : Int) ∨ (n677061 : Int) < o677232.toInt) ∧ ((n677234 : Int) = (n677061 : Int) ∨ 2 * (n677061 : Int) + 2 ≤ (n677234 : Int)))
set_option maxRecDepth 100000 in
set_option maxHeartbeats 4000000 in
theorem cp_677065_AbstractStringBuilder_append (l : Launch) (hl0 : l.stackTraces = false) (D : va_G) (I : FieldType → ClassId) (P677053 : List Nat) (F677054 : Nat → va_E) (q677055 : Nat) (q677056 : Nat) (p677057 : Int32) (p677058 : Int32) (p677059 : Int32) (f677060 : Nat → Int32) (n677061 : Nat) (hmq677055 : q677055 ∈ P677053) (hmq677056 : q677056 ∈ P677053) (heq677055 : F677054 q677055 = .inr (1, [.ref q677056, .int 0, .int p677058, .int p677059])) (heq677056 : F677054 q677056 = .inl (I .byte, n677061, .inl f677060)) (bp677057 : gB p677057 0 255) (bp677058 : gB p677058 0 1) (bp677059 : gB p677059 0 16777216) (bf677060 : gF f677060 (-128) 127) (x677062 : (n677061 : Int) ≤ 8388608 - 100000) (x677063 : p677059.toInt ≤ (n677061 : Int)) (x677064 : ((n677061 : Int) ≤ 16777216)) : CtA (gV D I) l yJ5_append_3fe6f cJ5_append_3fe6f 2 (some (FieldType.object "java/lang/AbstractStringBuilder")) 4 84 1 (4 * n677061 + 8) [.ref q677055, .int p677057] (va_pl P677053 F677054) (pp_677065_AbstractStringBuilder_append D I P677053 F677054 q677055 q677056 p677057 p677058 p677059 f677060 n677061) gNA := by
  refine CtA_ofF hl0 (by decide +kernel) (Nat.le_of_ble_eq_true rfl) ?_
  refine G_aload_n 0 dr_cJ5_append_3fe6f_0 rfl ?_
  refine G_aload_n 0 dr_cJ5_append_3fe6f_1 rfl ?_
  refine Gp_get 3 hmq677055 heq677055 dr_cJ5_append_3fe6f_2 (gk_J4 D I) (Nat.le_of_ble_eq_true rfl) wr_7_64 rfl ?_
  refine G_iconst 1 dr_cJ5_append_3fe6f_5 (by decide +kernel) ?_
  refine G_iadd dr_cJ5_append_3fe6f_6 (G_nam fun z677066 hz677066 => ?_)
  have ez677066 : z677066.toInt = p677059.toInt + 1 := by rw [gI_add hz677066 bp677059 (gBl (show Int32.toInt 1 = 1 by decide)) (by decide) (by decide), show Int32.toInt 1 = 1 from by decide]
  have bz677066 : gB z677066 1 16777217 := gB_add (gI_add hz677066 bp677059 (gBl (show Int32.toInt 1 = 1 by decide)) (by decide) (by decide)) bp677059 (gBl (show Int32.toInt 1 = 1 by decide)) (by decide) (by decide)
  refine Gw_callVB (As := [.int z677066]) (gV_ok D I) (cp_677078_AbstractStringBuilder_ensureCapacityInternal l hl0 D I P677053 F677054 q677055 q677056 z677066 p677058 p677059 f677060 n677061 hmq677055 hmq677056 heq677055 heq677056 ⟨by omega, by omega⟩ bp677058 bp677059 bf677060 (by have qa0 : Int32.toInt 0 = 0 := (by decide); omega) (by have qa0 : Int32.toInt 0 = 0 := (by decide); omega)) dr_cJ5_append_3fe6f_7 ⟨wr_8_4, wr_1_19, wr_8_7, by decide, rfl, (Nat.le_of_ble_eq_true rfl), (Nat.le_of_ble_eq_true rfl)⟩ wr_8_6 wr_s_0 hmq677055 heq677055 rfl (show 0 + 1 ≤ 1 by first | omega | decide) (show 0 + (2 * n677061 + 2 + z677066.toInt.toNat) ≤ (4 * n677061 + 8) by first | omega | decide) (Nat.le_of_ble_eq_true rfl) (fun r677133 w677134 dc677130 ds677131 hp677132 => ?_) (fun _ _ _ _ _ z => z.elim)
  rcases hp677132 with hp677135 | hp677136
  · obtain ⟨rfl, rfl, hdc, hds, x677137, x677138, x677139, x677140, x677141, x677142⟩ := hp677135
    change G _ _ _ _ _ _ _ _ _ _ _
    refine G_widen (cs' := 0) (sl' := 0) (by omega) (by omega) ?_
    refine G_aload_n 0 dr_cJ5_append_3fe6f_10 rfl ?_
    refine Gw_callVB (As := []) (gV_ok D I) (cp_658560_AbstractStringBuilder_isLatin1 l hl0 D I P677053 F677054 q677055 q677056 p677058 p677059 f677060 n677061 hmq677055 hmq677056 heq677055 heq677056 bp677058 bp677059 bf677060 (by have qa0 : Int32.toInt 0 = 0 := (by decide); omega)) dr_cJ5_append_3fe6f_11 ⟨wr_8_33, wr_1_19, wr_8_37, by decide, rfl, (Nat.le_of_ble_eq_true rfl), (Nat.le_of_ble_eq_true rfl)⟩ wr_8_34 wr_8_36 hmq677055 heq677055 rfl (show 0 + 0 ≤ 1 by first | omega | decide) (show 0 + 0 ≤ (4 * n677061 + 8) by first | omega | decide) (Nat.le_of_ble_eq_true rfl) (fun r677146 w677147 dc677143 ds677144 hp677145 => ?_) (fun _ _ _ _ _ z => z.elim)
    obtain ⟨rfl, rfl, hdc, hds⟩ := hp677145
    change G _ _ _ _ _ _ _ (.int 1 :: _) _ _ _
    refine G_widen (cs' := 0) (sl' := 0) (by omega) (by omega) ?_
    refine G_if_eq 45 dr_cJ5_append_3fe6f_14 (by decide +kernel) (fun hc => absurd hc (by decide)) (fun _ => ?_)
    refine G_iload_n 1 dr_cJ5_append_3fe6f_17 rfl ?_
    refine Gw_callS (As := [.int p677057]) (gV_ok D I) (cp_658569_StringLatin1_canEncode l hl0 D I P677053 F677054 p677057 (gB_w bp677057 (by decide) (by decide))) dr_cJ5_append_3fe6f_18 ⟨wr_8_38, wr_1_28, wr_8_40, by decide, rfl, (Nat.le_of_ble_eq_true rfl), (Nat.le_of_ble_eq_true rfl)⟩ wr_8_39 (show 0 + 0 ≤ 1 by first | omega | decide) (show 0 + 0 ≤ (4 * n677061 + 8) by first | omega | decide) (Nat.le_of_ble_eq_true rfl) (fun r677151 w677152 dc677148 ds677149 hp677150 => ?_) (fun _ _ _ _ _ z => z.elim)
    rcases hp677150 with ⟨rfl, rfl, hdc, hds, r677153, r677154⟩ | ⟨rfl, rfl, hdc, hds, r677155, r677156⟩
    · exact absurd (show False by omega) not_false
    · change G _ _ _ _ _ _ _ (.int 1 :: _) _ _ _
      refine G_widen (cs' := 0) (sl' := 0) (by omega) (by omega) ?_
      refine G_if_eq 45 dr_cJ5_append_3fe6f_21 (by decide +kernel) (fun hc => absurd hc (by decide)) (fun _ => ?_)
      refine G_aload_n 0 dr_cJ5_append_3fe6f_24 rfl ?_
      refine Gp_get 0 hmq677055 heq677055 dr_cJ5_append_3fe6f_25 (gk_J4 D I) (Nat.le_of_ble_eq_true rfl) wr_7_60 rfl ?_
      refine G_aload_n 0 dr_cJ5_append_3fe6f_28 rfl ?_
      refine G_dup dr_cJ5_append_3fe6f_29 rfl ?_
      refine Gp_get 3 hmq677055 heq677055 dr_cJ5_append_3fe6f_30 (gk_J4 D I) (Nat.le_of_ble_eq_true rfl) wr_7_64 rfl ?_
      refine G_dup_x1 dr_cJ5_append_3fe6f_33 rfl rfl ?_
      refine G_iconst 1 dr_cJ5_append_3fe6f_34 (by decide +kernel) ?_
      refine G_iadd dr_cJ5_append_3fe6f_35 (G_nam fun z677158 hz677158 => ?_)
      have ez677158 : z677158.toInt = p677059.toInt + 1 := by rw [gI_add hz677158 bp677059 (gBl (show Int32.toInt 1 = 1 by decide)) (by decide) (by decide), show Int32.toInt 1 = 1 from by decide]
      have bz677158 : gB z677158 1 16777217 := gB_add (gI_add hz677158 bp677059 (gBl (show Int32.toInt 1 = 1 by decide)) (by decide) (by decide)) bp677059 (gBl (show Int32.toInt 1 = 1 by decide)) (by decide) (by decide)
      refine Gp_put 3 hmq677055 heq677055 dr_cJ5_append_3fe6f_36 (gk_J4 D I) (Nat.le_of_ble_eq_true rfl) wr_7_64 rfl rfl rfl (Nat.le_of_ble_eq_true rfl) (fun F677159 e677160 n677161 => ?_)
      have he677162 : F677159 q677056 = .inl (I .byte, n677061, .inl f677060) := (n677161 q677056 (rn_ao heq677056 heq677055)).trans heq677056
      have he677163 : F677159 q677055 = .inr (1, [.ref q677056, .int 0, .int p677058, .int z677158]) := e677160
      have hfr677164 : rFr [q677055] P677053 F677054 F677159 := rFr_put (rFr_rf (W := []) (P := P677053) (F := F677054)) n677161
      refine G_iload_n 1 dr_cJ5_append_3fe6f_39 rfl ?_
      refine G_i2b dr_cJ5_append_3fe6f_40 (G_nam fun z677165 hz677165 => ?_)
      have bz677165 : gB z677165 (-128) 127 := gB_i2b hz677165
      refine Gp_bast 1 hmq677056 he677162 dr_cJ5_append_3fe6f_41 rfl (gB_inr (by omega) (by omega)) (fun F677166 e677167 n677168 => ?_)
      obtain ⟨f677169, hf677169⟩ : ∃ z, z = upd f677060 p677059.toNatClampNeg (vp_nar .byte z677165) := ⟨_, rfl⟩
      rw [← hf677169] at e677167
      have he677170 : F677166 q677055 = .inr (1, [.ref q677056, .int 0, .int p677058, .int z677158]) := (n677168 q677055 (rn_oa he677163 he677162)).trans he677163
      have he677171 : F677166 q677056 = .inl (I .byte, n677061, .inl f677169) := e677167
      have hfr677172 : rFr [q677056, q677055] P677053 F677054 F677166 := rFr_put hfr677164 n677168
      have bf677169 : gF f677169 (-128) 127 := gF_upd hf677169 bf677060 gB_byte
      refine G_goto 75 dr_cJ5_append_3fe6f_42 (by decide +kernel) ?_
      refine G_aload_n 0 dr_cJ5_append_3fe6f_75 rfl ?_
      exact G_aretA (FieldType.object "java/lang/AbstractStringBuilder") dr_cJ5_append_3fe6f_76 rfl (by first | exact Or.inl ⟨_, rfl⟩ | exact Or.inr ⟨_, rfl⟩) (Or.inr ⟨_, rfl⟩) (Nat.le_of_ble_eq_true rfl) (Nat.le_of_ble_eq_true rfl) (Or.inl ⟨F677166, z677158, f677169, rfl, rfl, hfr677172, he677170, he677171, (Nat.le_of_ble_eq_true rfl), (Nat.le_of_ble_eq_true rfl), ⟨by omega, by omega⟩, bf677169, (by have qa0 : Int32.toInt 0 = 0 := (by decide); omega), (by have qa0 : Int32.toInt 0 = 0 := (by decide); omega), (by have qa0 : Int32.toInt 0 = 0 := (by decide); omega), (by have qa0 : Int32.toInt 0 = 0 := (by decide); omega), (by have qa0 : Int32.toInt 0 = 0 := (by decide); omega), (by have qa0 : Int32.toInt 0 = 0 := (by decide); omega)⟩)
  · obtain ⟨P677182, F677183, q677173, n677174, f677175, rfl, rfl, hsb677184, hfr677185, he677186, he677187, hm677188, hq677189, hdc, hds, bf677175, x677176, x677177, x677178, x677179, x677180, x677181⟩ := hp677136
    have hm677190 : q677055 ∈ P677182 := hsb677184 q677055 hmq677055
    have hm677191 : q677056 ∈ P677182 := hsb677184 q677056 hmq677056
    have hq677192 : q677173 ∉ P677053 := fun z => hq677189 ((rSub_rf (P := P677053)) q677173 z)
    have hsb677193 : rSub P677053 P677182 := rSub_tr (rSub_rf (P := P677053)) hsb677184
    have he677194 : F677183 q677056 = .inl (I .byte, n677061, .inl f677060) := (hfr677185 q677056 hmq677056 (nm_c (rn_ao heq677056 heq677055) nm_n)).trans heq677056
    have hfr677195 : rFr [q677055] P677053 F677054 F677183 := rFr_call (rSub_rf (P := P677053)) (rFr_rf (W := []) (P := P677053) (F := F677054)) hfr677185 (fun b hb hn => ⟨nm_n, (nm_c (fun e => hn (e ▸ List.mem_cons_self)) nm_n)⟩)
    change G _ _ _ _ _ _ _ _ _ _ _
    refine G_widen (cs' := (min 1 (n677174 - n677061))) (sl' := 2 * (n677174 - n677061)) (by omega) (by omega) ?_
    refine G_aload_n 0 dr_cJ5_append_3fe6f_10 rfl ?_
    refine Gw_callVB (As := []) (gV_ok D I) (cp_658560_AbstractStringBuilder_isLatin1 l hl0 D I P677182 F677183 q677055 q677173 p677058 p677059 f677175 n677174 hm677190 hm677188 he677186 he677187 bp677058 bp677059 bf677175 (by have qa0 : Int32.toInt 0 = 0 := (by decide); omega)) dr_cJ5_append_3fe6f_11 ⟨wr_8_33, wr_1_19, wr_8_37, by decide, rfl, (Nat.le_of_ble_eq_true rfl), (Nat.le_of_ble_eq_true rfl)⟩ wr_8_34 wr_8_36 hm677190 he677186 rfl (show (min 1 (n677174 - n677061)) + 0 ≤ 1 by first | omega | decide) (show 2 * (n677174 - n677061) + 0 ≤ (4 * n677061 + 8) by first | omega | decide) (Nat.le_of_ble_eq_true rfl) (fun r677199 w677200 dc677196 ds677197 hp677198 => ?_) (fun _ _ _ _ _ z => z.elim)
    obtain ⟨rfl, rfl, hdc, hds⟩ := hp677198
    change G _ _ _ _ _ _ _ (.int 1 :: _) _ _ _
    refine G_widen (cs' := (min 1 (n677174 - n677061)) + 0) (sl' := 2 * (n677174 - n677061) + 0) (by omega) (by omega) ?_
    refine G_if_eq 45 dr_cJ5_append_3fe6f_14 (by decide +kernel) (fun hc => absurd hc (by decide)) (fun _ => ?_)
    refine G_iload_n 1 dr_cJ5_append_3fe6f_17 rfl ?_
    refine Gw_callS (As := [.int p677057]) (gV_ok D I) (cp_658569_StringLatin1_canEncode l hl0 D I P677182 F677183 p677057 (gB_w bp677057 (by decide) (by decide))) dr_cJ5_append_3fe6f_18 ⟨wr_8_38, wr_1_28, wr_8_40, by decide, rfl, (Nat.le_of_ble_eq_true rfl), (Nat.le_of_ble_eq_true rfl)⟩ wr_8_39 (show (min 1 (n677174 - n677061)) + 0 + 0 ≤ 1 by first | omega | decide) (show 2 * (n677174 - n677061) + 0 + 0 ≤ (4 * n677061 + 8) by first | omega | decide) (Nat.le_of_ble_eq_true rfl) (fun r677204 w677205 dc677201 ds677202 hp677203 => ?_) (fun _ _ _ _ _ z => z.elim)
    rcases hp677203 with ⟨rfl, rfl, hdc, hds, r677206, r677207⟩ | ⟨rfl, rfl, hdc, hds, r677208, r677209⟩
    · exact absurd (show False by omega) not_false
    · change G _ _ _ _ _ _ _ (.int 1 :: _) _ _ _
      refine G_widen (cs' := (min 1 (n677174 - n677061)) + 0 + 0) (sl' := 2 * (n677174 - n677061) + 0 + 0) (by omega) (by omega) ?_
      refine G_if_eq 45 dr_cJ5_append_3fe6f_21 (by decide +kernel) (fun hc => absurd hc (by decide)) (fun _ => ?_)
      refine G_aload_n 0 dr_cJ5_append_3fe6f_24 rfl ?_
      refine Gp_get 0 hm677190 he677186 dr_cJ5_append_3fe6f_25 (gk_J4 D I) (Nat.le_of_ble_eq_true rfl) wr_7_60 rfl ?_
      refine G_aload_n 0 dr_cJ5_append_3fe6f_28 rfl ?_
      refine G_dup dr_cJ5_append_3fe6f_29 rfl ?_
      refine Gp_get 3 hm677190 he677186 dr_cJ5_append_3fe6f_30 (gk_J4 D I) (Nat.le_of_ble_eq_true rfl) wr_7_64 rfl ?_
      refine G_dup_x1 dr_cJ5_append_3fe6f_33 rfl rfl ?_
      refine G_iconst 1 dr_cJ5_append_3fe6f_34 (by decide +kernel) ?_
      refine G_iadd dr_cJ5_append_3fe6f_35 (G_nam fun z677211 hz677211 => ?_)
      have ez677211 : z677211.toInt = p677059.toInt + 1 := by rw [gI_add hz677211 bp677059 (gBl (show Int32.toInt 1 = 1 by decide)) (by decide) (by decide), show Int32.toInt 1 = 1 from by decide]
      have bz677211 : gB z677211 1 16777217 := gB_add (gI_add hz677211 bp677059 (gBl (show Int32.toInt 1 = 1 by decide)) (by decide) (by decide)) bp677059 (gBl (show Int32.toInt 1 = 1 by decide)) (by decide) (by decide)
      refine Gp_put 3 hm677190 he677186 dr_cJ5_append_3fe6f_36 (gk_J4 D I) (Nat.le_of_ble_eq_true rfl) wr_7_64 rfl rfl rfl (Nat.le_of_ble_eq_true rfl) (fun F677212 e677213 n677214 => ?_)
      have he677215 : F677212 q677056 = .inl (I .byte, n677061, .inl f677060) := (n677214 q677056 (rn_ao he677194 he677186)).trans he677194
      have he677216 : F677212 q677173 = .inl (I .byte, n677174, .inl f677175) := (n677214 q677173 (fun h => hq677192 (h ▸ hmq677055))).trans he677187
      have he677217 : F677212 q677055 = .inr (1, [.ref q677173, .int 0, .int p677058, .int z677211]) := e677213
      have hfr677218 : rFr [q677055] P677053 F677054 F677212 := rFr_put' List.mem_cons_self hfr677195 n677214
      refine G_iload_n 1 dr_cJ5_append_3fe6f_39 rfl ?_
      refine G_i2b dr_cJ5_append_3fe6f_40 (G_nam fun z677219 hz677219 => ?_)
      have bz677219 : gB z677219 (-128) 127 := gB_i2b hz677219
      refine Gp_bast 1 hm677188 he677216 dr_cJ5_append_3fe6f_41 rfl (gB_inr (by omega) (by omega)) (fun F677220 e677221 n677222 => ?_)
      obtain ⟨f677223, hf677223⟩ : ∃ z, z = upd f677175 p677059.toNatClampNeg (vp_nar .byte z677219) := ⟨_, rfl⟩
      rw [← hf677223] at e677221
      have he677224 : F677220 q677056 = .inl (I .byte, n677061, .inl f677060) := (n677222 q677056 (fun h => hq677192 (h ▸ hmq677056))).trans he677215
      have he677225 : F677220 q677055 = .inr (1, [.ref q677173, .int 0, .int p677058, .int z677211]) := (n677222 q677055 (fun h => hq677192 (h ▸ hmq677055))).trans he677217
      have he677226 : F677220 q677173 = .inl (I .byte, n677174, .inl f677223) := e677221
      have hfr677227 : rFr [q677055] P677053 F677054 F677220 := rFr_newp hq677192 hfr677218 n677222
      have bf677223 : gF f677223 (-128) 127 := gF_upd hf677223 bf677175 gB_byte
      refine G_goto 75 dr_cJ5_append_3fe6f_42 (by decide +kernel) ?_
      refine G_aload_n 0 dr_cJ5_append_3fe6f_75 rfl ?_
      exact G_aretA (FieldType.object "java/lang/AbstractStringBuilder") dr_cJ5_append_3fe6f_76 rfl (by first | exact Or.inl ⟨_, rfl⟩ | exact Or.inr ⟨_, rfl⟩) (Or.inr ⟨_, rfl⟩) (show (min 1 (n677174 - n677061)) + 0 + 0 ≤ 1 by omega) (show 2 * (n677174 - n677061) + 0 + 0 ≤ (4 * n677061 + 8) by omega) (Or.inr (⟨P677182, F677220, z677211, q677173, n677174, f677223, rfl, rfl, hsb677193, hfr677227, he677225, he677226, hm677188, hq677192, (by omega), (by omega), ⟨by omega, by omega⟩, bf677223, (by have qa0 : Int32.toInt 0 = 0 := (by decide); omega), (by have qa0 : Int32.toInt 0 = 0 := (by decide); omega), (by have qa0 : Int32.toInt 0 = 0 := (by decide); omega), (by have qa0 : Int32.toInt 0 = 0 := (by decide); omega), (by have qa0 : Int32.toInt 0 = 0 := (by decide); omega), (by have qa0 : Int32.toInt 0 = 0 := (by decide); omega)⟩))
abbrev ky_677052_StringBuilder_append : gKey := (cJ4_append_cf468, 2, "java/lang/StringBuilder", (some (FieldType.object "java/lang/StringBuilder")), [], "append", fun _ _ => True)
def pp_677052_StringBuilder_append (D : va_G) (I : FieldType → ClassId) (P677040 : List Nat) (F677041 : Nat → va_E) (q677042 : Nat) (q677043 : Nat) (p677044 : Int32) (p677045 : Int32) (p677046 : Int32) (f677047 : Nat → Int32) (n677048 : Nat) : Option Value → va_W → Nat → Nat → Prop := fun r w dc ds => (∃ (F677286 : Nat → va_E) (o677283 : Int32) (f677284 : Nat → Int32), r = some (.ref q677042) ∧ w = va_pl P677040 F677286 ∧ rFr [q677043, q677042] P677040 F677041 F677286 ∧ F677286 q677042 = .inr (1, [.ref q677043, .int 0, .int p677045, .int o677283]) ∧ F677286 q677043 = .inl (I .byte, n677048, .inl f677284) ∧ dc ≤ 0 ∧ ds ≤ 0 ∧ gB o677283 1 16777216 ∧ gF f677284 (-128) 127 ∧ o677283.toInt = p677046.toInt + 1 ∧ o677283.toInt ≤ (n677048 : Int) ∧ (n677048 : Int) ≤ (n677048 : Int) ∧ (n677048 : Int) ≤ 2 * (n677048 : Int) + 2 ∧ ((n677048 : Int) = (n677048 : Int) ∨ (n677048 : Int) < o677283.toInt) ∧ ((n677048 : Int) = (n677048 : Int) ∨ 2 * (n677048 : Int) + 2 ≤ (n677048 : Int))) ∨ (∃ (P677291 : List Nat) (F677292 : Nat → va_E) (o677287 : Int32) (q677288 : Nat) (n677289 : Nat) (f677290 : Nat → Int32), r = some (.ref q677042) ∧ w = va_pl P677291 F677292 ∧ rSub P677040 P677291 ∧ rFr [q677042] P677040 F677041 F677292 ∧ F677292 q677042 = .inr (1, [.ref q677288, .int 0, .int p677045, .int o677287]) ∧ F677292 q677288 = .inl (I .byte, n677289, .inl f677290) ∧ q677288 ∈ P677291 ∧ q677288 ∉ P677040 ∧ dc ≤ (min 1 (n677289 - n677048)) ∧ ds ≤ 2 * (n677289 - n677048) ∧ gB o677287 1 16777216 ∧ gF f677290 (-128) 127 ∧ o677287.toInt = p677046.toInt + 1 ∧ o677287.toInt ≤ (n677289 : Int) ∧ (n677048 : Int) ≤ (n677289 : Int) ∧ (n677289 : Int) ≤ 2 * (n677048 : Int) + 2 ∧ ((n677289 : Int) = (n677048 : Int) ∨ (n677048 : Int) < o677287.toInt) ∧ ((n677289 : Int) = (n677048 : Int) ∨ 2 * (n677048 : Int) + 2 ≤ (n677289 : Int)))
set_option maxRecDepth 100000 in
set_option maxHeartbeats 4000000 in
theorem cp_677052_StringBuilder_append (l : Launch) (hl0 : l.stackTraces = false) (D : va_G) (I : FieldType → ClassId) (P677040 : List Nat) (F677041 : Nat → va_E) (q677042 : Nat) (q677043 : Nat) (p677044 : Int32) (p677045 : Int32) (p677046 : Int32) (f677047 : Nat → Int32) (n677048 : Nat) (hmq677042 : q677042 ∈ P677040) (hmq677043 : q677043 ∈ P677040) (heq677042 : F677041 q677042 = .inr (1, [.ref q677043, .int 0, .int p677045, .int p677046])) (heq677043 : F677041 q677043 = .inl (I .byte, n677048, .inl f677047)) (bp677044 : gB p677044 0 255) (bp677045 : gB p677045 0 1) (bp677046 : gB p677046 0 16777216) (bf677047 : gF f677047 (-128) 127) (x677049 : (n677048 : Int) ≤ 8388608 - 100000) (x677050 : p677046.toInt ≤ (n677048 : Int)) (x677051 : ((n677048 : Int) ≤ 16777216)) : CtA (gV D I) l yJ4_append_cf468 cJ4_append_cf468 2 (some (FieldType.object "java/lang/StringBuilder")) 5 105 1 (4 * n677048 + 8) [.ref q677042, .int p677044] (va_pl P677040 F677041) (pp_677052_StringBuilder_append D I P677040 F677041 q677042 q677043 p677044 p677045 p677046 f677047 n677048) gNA := by
  refine CtA_ofF hl0 (by decide +kernel) (Nat.le_of_ble_eq_true rfl) ?_
  refine G_aload_n 0 dr_cJ4_append_cf468_0 rfl ?_
  refine G_iload_n 1 dr_cJ4_append_cf468_1 rfl ?_
  refine Gw_callSU (As := [.int p677044]) (gV_ok D I) (cp_677065_AbstractStringBuilder_append l hl0 D I P677040 F677041 q677042 q677043 p677044 p677045 p677046 f677047 n677048 hmq677042 hmq677043 heq677042 heq677043 bp677044 bp677045 bp677046 bf677047 (by have qa0 : Int32.toInt 0 = 0 := (by decide); omega) (by have qa0 : Int32.toInt 0 = 0 := (by decide); omega) (by have qa0 : Int32.toInt 0 = 0 := (by decide); omega)) dr_cJ4_append_cf468_2 ⟨wr_8_1, wr_1_19, wr_8_3, by decide, rfl, (Nat.le_of_ble_eq_true rfl), (Nat.le_of_ble_eq_true rfl)⟩ wr_8_2 wr_11_224 wr_7_73 wr_7_44 (by decide) hmq677042 heq677042 rfl (show 0 + 1 ≤ 1 by first | omega | decide) (show 0 + (4 * n677048 + 8) ≤ (4 * n677048 + 8) by first | omega | decide) (Nat.le_of_ble_eq_true rfl) (fun r677241 w677242 dc677238 ds677239 hp677240 => ?_)
  rcases hp677240 with hp677243 | hp677244
  · obtain ⟨F677253, o677245, f677246, rfl, rfl, hfr677255, he677256, he677257, hdc, hds, bo677245, bf677246, x677247, x677248, x677249, x677250, x677251, x677252⟩ := hp677243
    have hfr677258 : rFr [q677043, q677042] P677040 F677041 F677253 := rFr_call (rSub_rf (P := P677040)) (rFr_rf (W := []) (P := P677040) (F := F677041)) hfr677255 (fun b hb hn => ⟨nm_n, (nm_c (fun e => hn (e ▸ List.mem_cons_self)) (nm_c (fun e => hn (e ▸ (List.mem_cons_of_mem _ List.mem_cons_self))) nm_n))⟩)
    change G _ _ _ _ _ _ _ (.ref q677042 :: _) _ _ _
    refine G_widen (cs' := 0) (sl' := 0) (by omega) (by omega) ?_
    refine G_pop dr_cJ4_append_cf468_5 rfl ?_
    refine G_aload_n 0 dr_cJ4_append_cf468_6 rfl ?_
    exact G_aretA (FieldType.object "java/lang/StringBuilder") dr_cJ4_append_cf468_7 rfl (by first | exact Or.inl ⟨_, rfl⟩ | exact Or.inr ⟨_, rfl⟩) (Or.inr ⟨_, rfl⟩) (Nat.le_of_ble_eq_true rfl) (Nat.le_of_ble_eq_true rfl) (Or.inl ⟨F677253, o677245, f677246, rfl, rfl, hfr677258, he677256, he677257, (Nat.le_of_ble_eq_true rfl), (Nat.le_of_ble_eq_true rfl), bo677245, bf677246, (by have qa0 : Int32.toInt 0 = 0 := (by decide); omega), (by have qa0 : Int32.toInt 0 = 0 := (by decide); omega), (by have qa0 : Int32.toInt 0 = 0 := (by decide); omega), (by have qa0 : Int32.toInt 0 = 0 := (by decide); omega), (by have qa0 : Int32.toInt 0 = 0 := (by decide); omega), (by have qa0 : Int32.toInt 0 = 0 := (by decide); omega)⟩)
  · obtain ⟨P677269, F677270, o677259, q677260, n677261, f677262, rfl, rfl, hsb677271, hfr677272, he677273, he677274, hm677275, hq677276, hdc, hds, bo677259, bf677262, x677263, x677264, x677265, x677266, x677267, x677268⟩ := hp677244
    have hm677277 : q677042 ∈ P677269 := hsb677271 q677042 hmq677042
    have hm677278 : q677043 ∈ P677269 := hsb677271 q677043 hmq677043
    have hq677279 : q677260 ∉ P677040 := fun z => hq677276 ((rSub_rf (P := P677040)) q677260 z)
    have hsb677280 : rSub P677040 P677269 := rSub_tr (rSub_rf (P := P677040)) hsb677271
    have he677281 : F677270 q677043 = .inl (I .byte, n677048, .inl f677047) := (hfr677272 q677043 hmq677043 (nm_c (rn_ao heq677043 heq677042) nm_n)).trans heq677043
    have hfr677282 : rFr [q677042] P677040 F677041 F677270 := rFr_call (rSub_rf (P := P677040)) (rFr_rf (W := []) (P := P677040) (F := F677041)) hfr677272 (fun b hb hn => ⟨nm_n, (nm_c (fun e => hn (e ▸ List.mem_cons_self)) nm_n)⟩)
    change G _ _ _ _ _ _ _ (.ref q677042 :: _) _ _ _
    refine G_widen (cs' := (min 1 (n677261 - n677048))) (sl' := 2 * (n677261 - n677048)) (by omega) (by omega) ?_
    refine G_pop dr_cJ4_append_cf468_5 rfl ?_
    refine G_aload_n 0 dr_cJ4_append_cf468_6 rfl ?_
    exact G_aretA (FieldType.object "java/lang/StringBuilder") dr_cJ4_append_cf468_7 rfl (by first | exact Or.inl ⟨_, rfl⟩ | exact Or.inr ⟨_, rfl⟩) (Or.inr ⟨_, rfl⟩) (show (min 1 (n677261 - n677048)) ≤ 1 by omega) (show 2 * (n677261 - n677048) ≤ (4 * n677048 + 8) by omega) (Or.inr (⟨P677269, F677270, o677259, q677260, n677261, f677262, rfl, rfl, hsb677280, hfr677282, he677273, he677274, hm677275, hq677279, (by omega), (by omega), bo677259, bf677262, (by have qa0 : Int32.toInt 0 = 0 := (by decide); omega), (by have qa0 : Int32.toInt 0 = 0 := (by decide); omega), (by have qa0 : Int32.toInt 0 = 0 := (by decide); omega), (by have qa0 : Int32.toInt 0 = 0 := (by decide); omega), (by have qa0 : Int32.toInt 0 = 0 := (by decide); omega), (by have qa0 : Int32.toInt 0 = 0 := (by decide); omega)⟩))
abbrev ky_677318_AbstractStringBuilder_append : gKey := (cJ5_append_c97b9, 4, "java/lang/AbstractStringBuilder", (some (FieldType.object "java/lang/AbstractStringBuilder")), [], "append", fun _ _ => True)
def pp_677318_AbstractStringBuilder_append (D : va_G) (I : FieldType → ClassId) (P677306 : List Nat) (F677307 : Nat → va_E) (q677308 : Nat) (q677309 : Nat) (p677310 : Int32) (p677311 : Int32) (p677312 : Int32) (f677313 : Nat → Int32) (n677314 : Nat) : Option Value → va_W → Nat → Nat → Prop := fun r w dc ds => (∃ (F677419 : Nat → va_E) (o677416 : Int32) (f677417 : Nat → Int32), r = some (.ref q677308) ∧ w = va_pl P677306 F677419 ∧ rFr [q677308, q677309] P677306 F677307 F677419 ∧ F677419 q677308 = .inr (1, [.ref q677309, .int 0, .int p677311, .int o677416]) ∧ F677419 q677309 = .inl (I .byte, n677314, .inl f677417) ∧ dc ≤ 0 ∧ ds ≤ 0 ∧ gB o677416 1 16777216 ∧ gF f677417 (-128) 127 ∧ p677312.toInt ≤ o677416.toInt ∧ o677416.toInt ≤ p677312.toInt + 11 ∧ o677416.toInt ≤ (n677314 : Int) ∧ (n677314 : Int) ≤ (n677314 : Int) ∧ ((n677314 : Int) ≤ 2 * (n677314 : Int) + 2 ∨ (n677314 : Int) ≤ p677312.toInt + 11) ∧ ((n677314 : Int) = (n677314 : Int) ∨ (n677314 : Int) < o677416.toInt) ∧ ((n677314 : Int) = (n677314 : Int) ∨ 2 * (n677314 : Int) + 2 ≤ (n677314 : Int))) ∨ (∃ (P677424 : List Nat) (F677425 : Nat → va_E) (o677420 : Int32) (q677421 : Nat) (n677422 : Nat) (f677423 : Nat → Int32), r = some (.ref q677308) ∧ w = va_pl P677424 F677425 ∧ rSub P677306 P677424 ∧ rFr [q677308] P677306 F677307 F677425 ∧ F677425 q677308 = .inr (1, [.ref q677421, .int 0, .int p677311, .int o677420]) ∧ F677425 q677421 = .inl (I .byte, n677422, .inl f677423) ∧ q677421 ∈ P677424 ∧ q677421 ∉ P677306 ∧ dc ≤ (min 1 (n677422 - n677314)) ∧ ds ≤ 2 * (n677422 - n677314) ∧ gB o677420 1 16777216 ∧ gF f677423 (-128) 127 ∧ p677312.toInt ≤ o677420.toInt ∧ o677420.toInt ≤ p677312.toInt + 11 ∧ o677420.toInt ≤ (n677422 : Int) ∧ (n677314 : Int) ≤ (n677422 : Int) ∧ ((n677422 : Int) ≤ 2 * (n677314 : Int) + 2 ∨ (n677422 : Int) ≤ p677312.toInt + 11) ∧ ((n677422 : Int) = (n677314 : Int) ∨ (n677314 : Int) < o677420.toInt) ∧ ((n677422 : Int) = (n677314 : Int) ∨ 2 * (n677314 : Int) + 2 ≤ (n677422 : Int)))
set_option maxRecDepth 100000 in
set_option maxHeartbeats 4000000 in
theorem cp_677318_AbstractStringBuilder_append (l : Launch) (hl0 : l.stackTraces = false) (D : va_G) (I : FieldType → ClassId) (P677306 : List Nat) (F677307 : Nat → va_E) (q677308 : Nat) (q677309 : Nat) (p677310 : Int32) (p677311 : Int32) (p677312 : Int32) (f677313 : Nat → Int32) (n677314 : Nat) (hmq677308 : q677308 ∈ P677306) (hmq677309 : q677309 ∈ P677306) (heq677308 : F677307 q677308 = .inr (1, [.ref q677309, .int 0, .int p677311, .int p677312])) (heq677309 : F677307 q677309 = .inl (I .byte, n677314, .inl f677313)) (bp677311 : gB p677311 0 1) (bp677312 : gB p677312 0 16777216) (bf677313 : gF f677313 (-128) 127) (x677315 : (n677314 : Int) ≤ 8388608 - 100000) (x677316 : p677312.toInt ≤ (n677314 : Int)) (x677317 : ((n677314 : Int) ≤ 16777216)) : CtA (gV D I) l yJ5_append_c97b9 cJ5_append_c97b9 4 (some (FieldType.object "java/lang/AbstractStringBuilder")) 4 84 1 (4 * n677314 + 64) [.ref q677308, .int p677310] (va_pl P677306 F677307) (pp_677318_AbstractStringBuilder_append D I P677306 F677307 q677308 q677309 p677310 p677311 p677312 f677313 n677314) gNA := by
  refine CtA_ofF hl0 (by decide +kernel) (Nat.le_of_ble_eq_true rfl) ?_
  have bp677310 := gB_any p677310
  refine G_aload_n 0 dr_cJ5_append_c97b9_0 rfl ?_
  refine Gp_get 3 hmq677308 heq677308 dr_cJ5_append_c97b9_1 (gk_J4 D I) (Nat.le_of_ble_eq_true rfl) wr_7_64 rfl ?_
  refine G_istore_n (L' := [(2, .int p677312), (0, .ref q677308), (1, .int p677310)]) dr_cJ5_append_c97b9_4 (Nat.le_of_ble_eq_true rfl) rfl ?_
  refine G_iload_n 0 dr_cJ5_append_c97b9_5 rfl ?_
  refine G_iload_n 2 dr_cJ5_append_c97b9_6 rfl ?_
  refine Gw_callS (As := [.int p677310]) (gV_ok D I) (cp_667414_Integer_stringSize l hl0 D I P677306 F677307 p677310 ) dr_cJ5_append_c97b9_7 ⟨wr_8_112, wr_1_35, wr_8_114, by decide, rfl, (Nat.le_of_ble_eq_true rfl), (Nat.le_of_ble_eq_true rfl)⟩ wr_8_113 (show 0 + 0 ≤ 1 by first | omega | decide) (show 0 + 0 ≤ (4 * n677314 + 64) by first | omega | decide) (Nat.le_of_ble_eq_true rfl) (fun r677322 w677323 dc677319 ds677320 hp677321 => ?_) (fun _ _ _ _ _ z => z.elim)
  obtain ⟨o677324, rfl, rfl, hdc, hds, bo677324, x677325, ht677326⟩ := hp677321
  change G _ _ _ _ _ _ _ (.int o677324 :: _) _ _ _
  refine G_widen (cs' := 0) (sl' := 0) (by omega) (by omega) ?_
  refine G_iadd dr_cJ5_append_c97b9_10 (G_nam fun z677327 hz677327 => ?_)
  have ez677327 : z677327.toInt = p677312.toInt + o677324.toInt := by rw [gI_add hz677327 bp677312 bo677324 (by decide) (by decide)]
  have bz677327 : gB z677327 1 16777227 := gB_add (gI_add hz677327 bp677312 bo677324 (by decide) (by decide)) bp677312 bo677324 (by decide) (by decide)
  refine G_istore_n (L' := [(3, .int z677327), (2, .int p677312), (0, .ref q677308), (1, .int p677310)]) dr_cJ5_append_c97b9_11 (Nat.le_of_ble_eq_true rfl) rfl ?_
  refine G_aload_n 2 dr_cJ5_append_c97b9_12 rfl ?_
  refine G_iload_n 0 dr_cJ5_append_c97b9_13 rfl ?_
  refine Gw_callVB (As := [.int z677327]) (gV_ok D I) (cp_677078_AbstractStringBuilder_ensureCapacityInternal l hl0 D I P677306 F677307 q677308 q677309 z677327 p677311 p677312 f677313 n677314 hmq677308 hmq677309 heq677308 heq677309 ⟨by omega, by omega⟩ bp677311 bp677312 bf677313 (by have qa0 : Int32.toInt 0 = 0 := (by decide); omega) (by have qa0 : Int32.toInt 0 = 0 := (by decide); omega)) dr_cJ5_append_c97b9_14 ⟨wr_8_4, wr_1_19, wr_8_7, by decide, rfl, (Nat.le_of_ble_eq_true rfl), (Nat.le_of_ble_eq_true rfl)⟩ wr_8_6 wr_s_0 hmq677308 heq677308 rfl (show 0 + 1 ≤ 1 by first | omega | decide) (show 0 + (2 * n677314 + 2 + z677327.toInt.toNat) ≤ (4 * n677314 + 64) by first | omega | decide) (Nat.le_of_ble_eq_true rfl) (fun r677331 w677332 dc677328 ds677329 hp677330 => ?_) (fun _ _ _ _ _ z => z.elim)
  rcases hp677330 with hp677333 | hp677334
  · obtain ⟨rfl, rfl, hdc, hds, x677335, x677336, x677337, x677338, x677339, x677340⟩ := hp677333
    change G _ _ _ _ _ _ _ _ _ _ _
    refine G_widen (cs' := 0) (sl' := 0) (by omega) (by omega) ?_
    refine G_aload_n 2 dr_cJ5_append_c97b9_17 rfl ?_
    refine Gw_callVB (As := []) (gV_ok D I) (cp_658560_AbstractStringBuilder_isLatin1 l hl0 D I P677306 F677307 q677308 q677309 p677311 p677312 f677313 n677314 hmq677308 hmq677309 heq677308 heq677309 bp677311 bp677312 bf677313 (by have qa0 : Int32.toInt 0 = 0 := (by decide); omega)) dr_cJ5_append_c97b9_18 ⟨wr_8_33, wr_1_19, wr_8_37, by decide, rfl, (Nat.le_of_ble_eq_true rfl), (Nat.le_of_ble_eq_true rfl)⟩ wr_8_34 wr_8_36 hmq677308 heq677308 rfl (show 0 + 0 ≤ 1 by first | omega | decide) (show 0 + 0 ≤ (4 * n677314 + 64) by first | omega | decide) (Nat.le_of_ble_eq_true rfl) (fun r677344 w677345 dc677341 ds677342 hp677343 => ?_) (fun _ _ _ _ _ z => z.elim)
    obtain ⟨rfl, rfl, hdc, hds⟩ := hp677343
    change G _ _ _ _ _ _ _ (.int 1 :: _) _ _ _
    refine G_widen (cs' := 0) (sl' := 0) (by omega) (by omega) ?_
    refine G_if_eq 37 dr_cJ5_append_c97b9_21 (by decide +kernel) (fun hc => absurd hc (by decide)) (fun _ => ?_)
    refine G_iload_n 3 dr_cJ5_append_c97b9_24 rfl ?_
    refine G_iload_n 0 dr_cJ5_append_c97b9_25 rfl ?_
    refine G_aload_n 2 dr_cJ5_append_c97b9_26 rfl ?_
    refine Gp_get 0 hmq677308 heq677308 dr_cJ5_append_c97b9_27 (gk_J4 D I) (Nat.le_of_ble_eq_true rfl) wr_7_60 rfl ?_
    refine Gw_callS (As := [.int p677310, .int z677327, .ref q677309]) (gV_ok D I) (cp_667597_Integer_getChars l hl0 D I P677306 F677307 q677309 p677310 z677327 f677313 n677314 hmq677309 heq677309 ⟨by omega, by omega⟩ bf677313 (by have qa0 : Int32.toInt 0 = 0 := (by decide); omega) (by have q10 : Int32.toInt 10 = 10 := (by decide); have q11 : Int32.toInt 11 = 11 := (by decide); first | exact dgS_up (by omega) (by omega) x677325 (by omega)) (by have qa0 : Int32.toInt 0 = 0 := (by decide); omega)) dr_cJ5_append_c97b9_30 ⟨wr_8_115, wr_1_35, wr_8_117, by decide, rfl, (Nat.le_of_ble_eq_true rfl), (Nat.le_of_ble_eq_true rfl)⟩ wr_8_116 (show 0 + 0 ≤ 1 by first | omega | decide) (show 0 + 0 ≤ (4 * n677314 + 64) by first | omega | decide) (Nat.le_of_ble_eq_true rfl) (fun r677349 w677350 dc677346 ds677347 hp677348 => ?_) (fun _ _ _ _ _ z => z.elim)
    obtain ⟨F677354, o677351, f677352, rfl, rfl, hfr677356, he677357, hdc, hds, bo677351, bf677352, ht677353⟩ := hp677348
    have he677358 : F677354 q677308 = .inr (1, [.ref q677309, .int 0, .int p677311, .int p677312]) := (hfr677356 q677308 hmq677308 (nm_c (rn_oa heq677308 heq677309) nm_n)).trans heq677308
    have hfr677359 : rFr [q677309] P677306 F677307 F677354 := rFr_call (rSub_rf (P := P677306)) (rFr_rf (W := []) (P := P677306) (F := F677307)) hfr677356 (fun b hb hn => ⟨nm_n, (nm_c (fun e => hn (e ▸ List.mem_cons_self)) nm_n)⟩)
    change G _ _ _ _ _ _ _ (.int o677351 :: _) _ _ _
    refine G_widen (cs' := 0) (sl' := 0) (by omega) (by omega) ?_
    refine G_pop dr_cJ5_append_c97b9_33 rfl ?_
    refine G_goto 48 dr_cJ5_append_c97b9_34 (by decide +kernel) ?_
    refine G_aload_n 2 dr_cJ5_append_c97b9_48 rfl ?_
    refine G_iload_n 0 dr_cJ5_append_c97b9_49 rfl ?_
    refine Gp_put 3 hmq677308 he677358 dr_cJ5_append_c97b9_50 (gk_J4 D I) (Nat.le_of_ble_eq_true rfl) wr_7_64 rfl rfl rfl (Nat.le_of_ble_eq_true rfl) (fun F677360 e677361 n677362 => ?_)
    have he677363 : F677360 q677309 = .inl (I .byte, n677314, .inl f677352) := (n677362 q677309 (rn_ao he677357 he677358)).trans he677357
    have he677364 : F677360 q677308 = .inr (1, [.ref q677309, .int 0, .int p677311, .int z677327]) := e677361
    have hfr677365 : rFr [q677308, q677309] P677306 F677307 F677360 := rFr_put hfr677359 n677362
    refine G_aload_n 2 dr_cJ5_append_c97b9_53 rfl ?_
    exact G_aretA (FieldType.object "java/lang/AbstractStringBuilder") dr_cJ5_append_c97b9_54 rfl (by first | exact Or.inl ⟨_, rfl⟩ | exact Or.inr ⟨_, rfl⟩) (Or.inr ⟨_, rfl⟩) (Nat.le_of_ble_eq_true rfl) (Nat.le_of_ble_eq_true rfl) (Or.inl ⟨F677360, z677327, f677352, rfl, rfl, hfr677365, he677364, he677363, (Nat.le_of_ble_eq_true rfl), (Nat.le_of_ble_eq_true rfl), ⟨by omega, by omega⟩, bf677352, (by have qa0 : Int32.toInt 0 = 0 := (by decide); omega), (by have qa0 : Int32.toInt 0 = 0 := (by decide); omega), (by have qa0 : Int32.toInt 0 = 0 := (by decide); omega), (by have qa0 : Int32.toInt 0 = 0 := (by decide); omega), (by have qa0 : Int32.toInt 0 = 0 := (by decide); omega), (by have qa0 : Int32.toInt 0 = 0 := (by decide); omega), (by have qa0 : Int32.toInt 0 = 0 := (by decide); omega)⟩)
  · obtain ⟨P677375, F677376, q677366, n677367, f677368, rfl, rfl, hsb677377, hfr677378, he677379, he677380, hm677381, hq677382, hdc, hds, bf677368, x677369, x677370, x677371, x677372, x677373, x677374⟩ := hp677334
    have hm677383 : q677308 ∈ P677375 := hsb677377 q677308 hmq677308
    have hm677384 : q677309 ∈ P677375 := hsb677377 q677309 hmq677309
    have hq677385 : q677366 ∉ P677306 := fun z => hq677382 ((rSub_rf (P := P677306)) q677366 z)
    have hsb677386 : rSub P677306 P677375 := rSub_tr (rSub_rf (P := P677306)) hsb677377
    have he677387 : F677376 q677309 = .inl (I .byte, n677314, .inl f677313) := (hfr677378 q677309 hmq677309 (nm_c (rn_ao heq677309 heq677308) nm_n)).trans heq677309
    have hfr677388 : rFr [q677308] P677306 F677307 F677376 := rFr_call (rSub_rf (P := P677306)) (rFr_rf (W := []) (P := P677306) (F := F677307)) hfr677378 (fun b hb hn => ⟨nm_n, (nm_c (fun e => hn (e ▸ List.mem_cons_self)) nm_n)⟩)
    change G _ _ _ _ _ _ _ _ _ _ _
    refine G_widen (cs' := (min 1 (n677367 - n677314))) (sl' := 2 * (n677367 - n677314)) (by omega) (by omega) ?_
    refine G_aload_n 2 dr_cJ5_append_c97b9_17 rfl ?_
    refine Gw_callVB (As := []) (gV_ok D I) (cp_658560_AbstractStringBuilder_isLatin1 l hl0 D I P677375 F677376 q677308 q677366 p677311 p677312 f677368 n677367 hm677383 hm677381 he677379 he677380 bp677311 bp677312 bf677368 (by have qa0 : Int32.toInt 0 = 0 := (by decide); omega)) dr_cJ5_append_c97b9_18 ⟨wr_8_33, wr_1_19, wr_8_37, by decide, rfl, (Nat.le_of_ble_eq_true rfl), (Nat.le_of_ble_eq_true rfl)⟩ wr_8_34 wr_8_36 hm677383 he677379 rfl (show (min 1 (n677367 - n677314)) + 0 ≤ 1 by first | omega | decide) (show 2 * (n677367 - n677314) + 0 ≤ (4 * n677314 + 64) by first | omega | decide) (Nat.le_of_ble_eq_true rfl) (fun r677392 w677393 dc677389 ds677390 hp677391 => ?_) (fun _ _ _ _ _ z => z.elim)
    obtain ⟨rfl, rfl, hdc, hds⟩ := hp677391
    change G _ _ _ _ _ _ _ (.int 1 :: _) _ _ _
    refine G_widen (cs' := (min 1 (n677367 - n677314)) + 0) (sl' := 2 * (n677367 - n677314) + 0) (by omega) (by omega) ?_
    refine G_if_eq 37 dr_cJ5_append_c97b9_21 (by decide +kernel) (fun hc => absurd hc (by decide)) (fun _ => ?_)
    refine G_iload_n 3 dr_cJ5_append_c97b9_24 rfl ?_
    refine G_iload_n 0 dr_cJ5_append_c97b9_25 rfl ?_
    refine G_aload_n 2 dr_cJ5_append_c97b9_26 rfl ?_
    refine Gp_get 0 hm677383 he677379 dr_cJ5_append_c97b9_27 (gk_J4 D I) (Nat.le_of_ble_eq_true rfl) wr_7_60 rfl ?_
    refine Gw_callS (As := [.int p677310, .int z677327, .ref q677366]) (gV_ok D I) (cp_667597_Integer_getChars l hl0 D I P677375 F677376 q677366 p677310 z677327 f677368 n677367 hm677381 he677380 ⟨by omega, by omega⟩ bf677368 (by have qa0 : Int32.toInt 0 = 0 := (by decide); omega) (by have q10 : Int32.toInt 10 = 10 := (by decide); have q11 : Int32.toInt 11 = 11 := (by decide); first | exact dgS_up (by omega) (by omega) x677325 (by omega)) (by have qa0 : Int32.toInt 0 = 0 := (by decide); omega)) dr_cJ5_append_c97b9_30 ⟨wr_8_115, wr_1_35, wr_8_117, by decide, rfl, (Nat.le_of_ble_eq_true rfl), (Nat.le_of_ble_eq_true rfl)⟩ wr_8_116 (show (min 1 (n677367 - n677314)) + 0 + 0 ≤ 1 by first | omega | decide) (show 2 * (n677367 - n677314) + 0 + 0 ≤ (4 * n677314 + 64) by first | omega | decide) (Nat.le_of_ble_eq_true rfl) (fun r677397 w677398 dc677394 ds677395 hp677396 => ?_) (fun _ _ _ _ _ z => z.elim)
    obtain ⟨F677402, o677399, f677400, rfl, rfl, hfr677404, he677405, hdc, hds, bo677399, bf677400, ht677401⟩ := hp677396
    have he677406 : F677402 q677309 = .inl (I .byte, n677314, .inl f677313) := (hfr677404 q677309 hm677384 (nm_c (fun h => hq677385 (h ▸ hmq677309)) nm_n)).trans he677387
    have he677407 : F677402 q677308 = .inr (1, [.ref q677366, .int 0, .int p677311, .int p677312]) := (hfr677404 q677308 hm677383 (nm_c (fun h => hq677385 (h ▸ hmq677308)) nm_n)).trans he677379
    have hfr677408 : rFr [q677308] P677306 F677307 F677402 := rFr_call hsb677386 hfr677388 hfr677404 (fun b hb hn => ⟨(nm_c (fun e => hn (e ▸ List.mem_cons_self)) nm_n), (nm_c (fun e => hq677385 (e ▸ hb)) nm_n)⟩)
    change G _ _ _ _ _ _ _ (.int o677399 :: _) _ _ _
    refine G_widen (cs' := (min 1 (n677367 - n677314)) + 0 + 0) (sl' := 2 * (n677367 - n677314) + 0 + 0) (by omega) (by omega) ?_
    refine G_pop dr_cJ5_append_c97b9_33 rfl ?_
    refine G_goto 48 dr_cJ5_append_c97b9_34 (by decide +kernel) ?_
    refine G_aload_n 2 dr_cJ5_append_c97b9_48 rfl ?_
    refine G_iload_n 0 dr_cJ5_append_c97b9_49 rfl ?_
    refine Gp_put 3 hm677383 he677407 dr_cJ5_append_c97b9_50 (gk_J4 D I) (Nat.le_of_ble_eq_true rfl) wr_7_64 rfl rfl rfl (Nat.le_of_ble_eq_true rfl) (fun F677409 e677410 n677411 => ?_)
    have he677412 : F677409 q677309 = .inl (I .byte, n677314, .inl f677313) := (n677411 q677309 (rn_ao he677406 he677407)).trans he677406
    have he677413 : F677409 q677366 = .inl (I .byte, n677367, .inl f677400) := (n677411 q677366 (fun h => hq677385 (h ▸ hmq677308))).trans he677405
    have he677414 : F677409 q677308 = .inr (1, [.ref q677366, .int 0, .int p677311, .int z677327]) := e677410
    have hfr677415 : rFr [q677308] P677306 F677307 F677409 := rFr_put' List.mem_cons_self hfr677408 n677411
    refine G_aload_n 2 dr_cJ5_append_c97b9_53 rfl ?_
    exact G_aretA (FieldType.object "java/lang/AbstractStringBuilder") dr_cJ5_append_c97b9_54 rfl (by first | exact Or.inl ⟨_, rfl⟩ | exact Or.inr ⟨_, rfl⟩) (Or.inr ⟨_, rfl⟩) (show (min 1 (n677367 - n677314)) + 0 + 0 ≤ 1 by omega) (show 2 * (n677367 - n677314) + 0 + 0 ≤ (4 * n677314 + 64) by omega) (Or.inr (⟨P677375, F677409, z677327, q677366, n677367, f677400, rfl, rfl, hsb677386, hfr677415, he677414, he677413, hm677381, hq677385, (by omega), (by omega), ⟨by omega, by omega⟩, bf677400, (by have qa0 : Int32.toInt 0 = 0 := (by decide); omega), (by have qa0 : Int32.toInt 0 = 0 := (by decide); omega), (by have qa0 : Int32.toInt 0 = 0 := (by decide); omega), (by have qa0 : Int32.toInt 0 = 0 := (by decide); omega), (by have qa0 : Int32.toInt 0 = 0 := (by decide); omega), (by have qa0 : Int32.toInt 0 = 0 := (by decide); omega), (by have qa0 : Int32.toInt 0 = 0 := (by decide); omega)⟩))
