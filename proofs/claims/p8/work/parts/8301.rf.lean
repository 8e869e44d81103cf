theorem dr_cX17_input_30 : decode cX17_input 30 = .ok (.iload_n 2, 1) := by decide +kernel
theorem dr_cX17_input_31 : decode cX17_input 31 = .ok (.iconst 4, 1) := by decide +kernel
theorem dr_cX17_input_32 : decode cX17_input 32 = .ok (.if_icmp .ge 39, 3) := by decide +kernel
theorem dr_cX17_input_35 : decode cX17_input 35 = .ok (.aload_n 0, 1) := by decide +kernel
theorem dr_cX17_input_36 : decode cX17_input 36 = .ok (.getfield 303, 3) := by decide +kernel
theorem dr_cX17_input_39 : decode cX17_input 39 = .ok (.iload_n 1, 1) := by decide +kernel
theorem dr_cX17_input_40 : decode cX17_input 40 = .ok (.aload_n 0, 1) := by decide +kernel
theorem dr_cX17_input_41 : decode cX17_input 41 = .ok (.getfield 303, 3) := by decide +kernel
theorem dr_cX17_input_44 : decode cX17_input 44 = .ok (.iload_n 1, 1) := by decide +kernel
theorem dr_cX17_input_45 : decode cX17_input 45 = .ok (.iaload, 1) := by decide +kernel
theorem dr_cX17_input_46 : decode cX17_input 46 = .ok (.bipush 8, 2) := by decide +kernel
theorem dr_cX17_input_48 : decode cX17_input 48 = .ok (.ishl, 1) := by decide +kernel
theorem dr_cX17_input_49 : decode cX17_input 49 = .ok (.aload_n 0, 1) := by decide +kernel
theorem dr_cX17_input_50 : decode cX17_input 50 = .ok (.getfield 374, 3) := by decide +kernel
theorem dr_cX17_input_53 : decode cX17_input 53 = .ok (.iconst 4, 1) := by decide +kernel
theorem dr_cX17_input_54 : decode cX17_input 54 = .ok (.iload_n 1, 1) := by decide +kernel
theorem dr_cX17_input_55 : decode cX17_input 55 = .ok (.imul, 1) := by decide +kernel
theorem dr_cX17_input_56 : decode cX17_input 56 = .ok (.iload_n 2, 1) := by decide +kernel
theorem dr_cX17_input_57 : decode cX17_input 57 = .ok (.iadd, 1) := by decide +kernel
theorem dr_cX17_input_58 : decode cX17_input 58 = .ok (.baload, 1) := by decide +kernel
theorem dr_cX17_input_59 : decode cX17_input 59 = .ok (.sipush 255, 3) := by decide +kernel
theorem dr_cX17_input_62 : decode cX17_input 62 = .ok (.iand, 1) := by decide +kernel
theorem dr_cX17_input_63 : decode cX17_input 63 = .ok (.ior, 1) := by decide +kernel
theorem dr_cX17_input_64 : decode cX17_input 64 = .ok (.iastore, 1) := by decide +kernel
theorem dr_cX17_input_65 : decode cX17_input 65 = .ok (.iinc 2 1, 3) := by decide +kernel
theorem dr_cX17_input_68 : decode cX17_input 68 = .ok (.goto (-38), 3) := by decide +kernel
theorem dr_cX17_input_19 : decode cX17_input 19 = .ok (.iload_n 1, 1) := by decide +kernel
theorem dr_cX17_input_20 : decode cX17_input 20 = .ok (.aload_n 0, 1) := by decide +kernel
theorem dr_cX17_input_21 : decode cX17_input 21 = .ok (.getfield 303, 3) := by decide +kernel
theorem dr_cX17_input_24 : decode cX17_input 24 = .ok (.arraylength, 1) := by decide +kernel
theorem dr_cX17_input_25 : decode cX17_input 25 = .ok (.if_icmp .ge 52, 3) := by decide +kernel
theorem dr_cX17_input_28 : decode cX17_input 28 = .ok (.iconst 0, 1) := by decide +kernel
theorem dr_cX17_input_29 : decode cX17_input 29 = .ok (.istore_n 2, 1) := by decide +kernel
theorem dr_cX17_input_71 : decode cX17_input 71 = .ok (.iinc 1 1, 3) := by decide +kernel
theorem dr_cX17_input_74 : decode cX17_input 74 = .ok (.goto (-55), 3) := by decide +kernel
theorem dr_cX17_input_0 : decode cX17_input 0 = .ok (.aload_n 0, 1) := by decide +kernel
theorem dr_cX17_input_1 : decode cX17_input 1 = .ok (.iconst 0, 1) := by decide +kernel
theorem dr_cX17_input_2 : decode cX17_input 2 = .ok (.putfield 380, 3) := by decide +kernel
theorem dr_cX17_input_5 : decode cX17_input 5 = .ok (.aload_n 0, 1) := by decide +kernel
theorem dr_cX17_input_6 : decode cX17_input 6 = .ok (.aload_n 0, 1) := by decide +kernel
theorem dr_cX17_input_7 : decode cX17_input 7 = .ok (.getfield 383, 3) := by decide +kernel
theorem dr_cX17_input_10 : decode cX17_input 10 = .ok (.iconst 4, 1) := by decide +kernel
theorem dr_cX17_input_11 : decode cX17_input 11 = .ok (.idiv, 1) := by decide +kernel
theorem dr_cX17_input_12 : decode cX17_input 12 = .ok (.newarray .int, 2) := by decide +kernel
theorem dr_cX17_input_14 : decode cX17_input 14 = .ok (.putfield 303, 3) := by decide +kernel
theorem dr_cX17_input_17 : decode cX17_input 17 = .ok (.iconst 0, 1) := by decide +kernel
theorem dr_cX17_input_18 : decode cX17_input 18 = .ok (.istore_n 1, 1) := by decide +kernel
theorem dr_cX17_input_77 : decode cX17_input 77 = .ok (.aload_n 0, 1) := by decide +kernel
theorem dr_cX17_input_78 : decode cX17_input 78 = .ok (.iconst 0, 1) := by decide +kernel
theorem dr_cX17_input_79 : decode cX17_input 79 = .ok (.putfield 383, 3) := by decide +kernel
theorem dr_cX17_input_82 : decode cX17_input 82 = .ok (.aload_n 0, 1) := by decide +kernel
theorem dr_cX17_input_83 : decode cX17_input 83 = .ok (.getfield 303, 3) := by decide +kernel
theorem dr_cX17_input_86 : decode cX17_input 86 = .ok (.arraylength, 1) := by decide +kernel
theorem dr_cX17_input_87 : decode cX17_input 87 = .ok (.ireturn, 1) := by decide +kernel
abbrev ky_inp : gKey := (cX17_input, 3, "SpillForgeModel", (some FieldType.int), [], "input", fun _ _ => True)
def inS (D : va_G) (I : FieldType → ClassId) (P0 : List Nat) (F0 : Nat → va_E) (γ0 el : Nat → Nat → Nat) (P : List Nat) (γ : Nat → Nat → Nat) (m A N : Nat) (e : va_E) (F : Nat → va_E) : Prop := rSk 0 [] [10, 26] D I P0 F0 γ0 el P F γ el ∧ F m = e ∧ A ∈ P ∧ γ 0 A = 26 ∧ ∃ f : Nat → Int32, F A = .inl (I .int, N, .inl f)
theorem inS_a {D : va_G} {I : FieldType → ClassId} {P0 P : List Nat} {F0 F F1 : Nat → va_E} {γ0 γ el : Nat → Nat → Nat} {m A N : Nat} {e : va_E} {f1 : Nat → Int32} (h : inS D I P0 F0 γ0 el P γ m A N e F) (hm : γ 0 m = 10) (hN : N ≤ 2048) (e1 : F1 A = .inl (I .int, N, .inl f1)) (n : ∀ b, b ≠ A → F1 b = F b) : inS D I P0 F0 γ0 el P γ m A N e F1 := by
  obtain ⟨h1, h2, h3, h4, -⟩ := h
  have hmA : m ≠ A := fun q => by rw [q, h4] at hm; cases hm
  exact ⟨rSk_put h1 (RS_set h1.1 n (show rKd γ A 26 from h4) (by decide) ⟨N, f1, e1, by omega⟩) n (show rKd γ A 26 from h4) (by decide) (fun _ z => nomatch z), (n m hmA).trans h2, h3, h4, f1, e1⟩
set_option maxRecDepth 100000 in
set_option maxHeartbeats 4000000 in
theorem in_l2 {l : Launch} {D : va_G} {I : FieldType → ClassId} {P0 P : List Nat} {F0 : Nat → va_E} {γ0 γ el : Nat → Nat → Nat} {m A N cs sl mc ms : Nat} {Qf : gFin} {r35 : Nat} {v9 v10 v11 v12 v13 v14 v23 v24 v25 v26 v27 v30 v32 v33 v34 i : Int32} (hm : γ 0 m = 10) (t25 : γ 0 (γ 9 31) = 99) (hN : N ≤ 2048) (hi0 : 0 ≤ i.toInt) (hiN : i.toInt < (N : Int))
    (kk : ∀ (F : Nat → va_E) (jj : Int32), inS D I P0 F0 γ0 el P γ m A N (mdE γ A r35 v9 v10 v11 v12 v13 v14 v23 v24 v25 v26 v27 v30 v32 v33 v34) F → G (gV D I) l (gRm 1 20 mc ms) Qf ky_inp 71 [(2, .int jj), (1, .int i), (0, .ref m)] [] (va_pl P F) cs sl) :
    ∀ (μ : Nat) (F : Nat → va_E) (jj : Int32), 4 - jj.toInt < (μ : Int) → 0 ≤ jj.toInt → jj.toInt ≤ 4 → inS D I P0 F0 γ0 el P γ m A N (mdE γ A r35 v9 v10 v11 v12 v13 v14 v23 v24 v25 v26 v27 v30 v32 v33 v34) F →
    G (gV D I) l (gRm 1 20 mc ms) Qf ky_inp 30 [(2, .int jj), (1, .int i), (0, .ref m)] [] (va_pl P F) cs sl := by
  intro μ
  induction μ with
  | zero => intro F jj h h0 h4 _; exact absurd h (by omega)
  | succ μ ih =>
  intro F jj hμ h0 h4 hS
  obtain ⟨hk, he, mA, kA, fA, eA⟩ := id hS
  have mm : m ∈ P := hk.1.1 m (by omega)
  obtain ⟨ft, f1, f2⟩ := show rk_99 I (F (γ 9 31)) from RS_o hk.1 t25
  have mt : γ 9 31 ∈ P := hk.1.1 _ (by omega)
  refine G_iload_n 0 dr_cX17_input_30 rfl ?_
  refine G_iconst 4 dr_cX17_input_31 (by decide +kernel) ?_
  have z4 : Int32.toInt 4 = 4 := by decide
  refine G_icmp_ge 71 dr_cX17_input_32 (by decide +kernel) (fun _ => kk F jj hS) (fun hc => ?_)
  have hlt : jj.toInt < 4 := gj_nle hc rfl
  refine G_aload_n 2 dr_cX17_input_35 rfl ?_
  refine Gp_get 28 mm he dr_cX17_input_36 (gk_X17 D I) (Nat.le_of_ble_eq_true rfl) wr_7_102 rfl ?_
  refine G_iload_n 1 dr_cX17_input_39 rfl ?_
  refine G_aload_n 2 dr_cX17_input_40 rfl ?_
  refine Gp_get 28 mm he dr_cX17_input_41 (gk_X17 D I) (Nat.le_of_ble_eq_true rfl) wr_7_102 rfl ?_
  refine G_iload_n 1 dr_cX17_input_44 rfl ?_
  refine Gp_iald 0 mA eA dr_cX17_input_45 rfl (gB_inr hi0 hiN) (G_nam fun z1 _ => ?_)
  refine G_bipush 8 dr_cX17_input_46 (by decide +kernel) ?_
  refine G_ishl dr_cX17_input_48 (G_nam fun z2 _ => ?_)
  refine G_aload_n 2 dr_cX17_input_49 rfl ?_
  refine Gp_get 31 mm he dr_cX17_input_50 (gk_X17 D I) (Nat.le_of_ble_eq_true rfl) wr_7_105 rfl ?_
  refine G_iconst 4 dr_cX17_input_53 (by decide +kernel) ?_
  refine G_iload_n 1 dr_cX17_input_54 rfl ?_
  refine G_imul dr_cX17_input_55 (G_nam fun z3 hz3 => ?_)
  have bi : gB i 0 2048 := ⟨hi0, by omega⟩
  have e3 : z3.toInt = 4 * i.toInt := by rw [gI_mul hz3 (gBl z4) bi (by decide) (by decide) (by decide), z4]
  refine G_iload_n 0 dr_cX17_input_56 rfl ?_
  refine G_iadd dr_cX17_input_57 (G_nam fun z5 hz5 => ?_)
  have e5 : z5.toInt = z3.toInt + jj.toInt := gI_add hz5 (⟨by omega, by omega⟩ : gB z3 0 8192) (⟨h0, h4⟩ : gB jj 0 4) (by decide) (by decide)
  refine Gp_bald 1 mt f1 dr_cX17_input_58 rfl (gB_inr (by omega) (by omega)) (G_nam fun z6 _ => ?_)
  refine G_sipush 255 dr_cX17_input_59 (by decide +kernel) ?_
  refine G_iand dr_cX17_input_62 (G_nam fun z7 _ => ?_)
  refine G_ior dr_cX17_input_63 (G_nam fun z8 _ => ?_)
  refine Gp_iast 0 mA eA dr_cX17_input_64 rfl (gB_inr hi0 hiN) (fun F1 e1 n1 => ?_)
  have hS1 := inS_a hS hm hN e1 n1
  obtain ⟨j1, hj1⟩ : ∃ z, z = jj + 1 := ⟨_, rfl⟩
  have ej : j1.toInt = jj.toInt + 1 := by rw [gI_add hj1 (⟨h0, h4⟩ : gB jj 0 4) (gBl (show Int32.toInt 1 = 1 by decide)) (by decide) (by decide), show Int32.toInt 1 = 1 from by decide]
  refine G_iinc (L' := [(2, .int j1), (1, .int i), (0, .ref m)]) j1 0 dr_cX17_input_65 rfl (by rw [hj1]; rfl) (Nat.le_of_ble_eq_true rfl) rfl ?_
  refine G_goto 30 dr_cX17_input_68 (by decide +kernel) ?_
  exact ih F1 j1 (by omega) (by omega) (by omega) hS1
set_option maxRecDepth 100000 in
set_option maxHeartbeats 4000000 in
theorem in_l1 {l : Launch} {D : va_G} {I : FieldType → ClassId} {P0 P : List Nat} {F0 : Nat → va_E} {γ0 γ el : Nat → Nat → Nat} {m A N cs sl mc ms : Nat} {Qf : gFin} {r35 : Nat} {v9 v10 v11 v12 v13 v14 v23 v24 v25 v26 v27 v30 v32 v33 v34 : Int32} (hm : γ 0 m = 10) (t25 : γ 0 (γ 9 31) = 99) (hN : N ≤ 2048)
    (kk : ∀ (F : Nat → va_E) (i : Int32), inS D I P0 F0 γ0 el P γ m A N (mdE γ A r35 v9 v10 v11 v12 v13 v14 v23 v24 v25 v26 v27 v30 v32 v33 v34) F → G (gV D I) l (gRm 1 20 mc ms) Qf ky_inp 77 [(1, .int i), (0, .ref m)] [] (va_pl P F) cs sl) :
    ∀ (μ : Nat) (F : Nat → va_E) (i : Int32), (N : Int) - i.toInt < (μ : Int) → 0 ≤ i.toInt → i.toInt ≤ (N : Int) → inS D I P0 F0 γ0 el P γ m A N (mdE γ A r35 v9 v10 v11 v12 v13 v14 v23 v24 v25 v26 v27 v30 v32 v33 v34) F →
    G (gV D I) l (gRm 1 20 mc ms) Qf ky_inp 19 [(1, .int i), (0, .ref m)] [] (va_pl P F) cs sl := by
  intro μ
  induction μ with
  | zero => intro F i h h0 h4 _; exact absurd h (by omega)
  | succ μ ih =>
  intro F i hμ h0 h4 hS
  obtain ⟨hk, he, mA, kA, fA, eA⟩ := id hS
  have mm : m ∈ P := hk.1.1 m (by omega)
  refine G_iload_n 0 dr_cX17_input_19 rfl ?_
  refine G_aload_n 1 dr_cX17_input_20 rfl ?_
  refine Gp_get 28 mm he dr_cX17_input_21 (gk_X17 D I) (Nat.le_of_ble_eq_true rfl) wr_7_102 rfl ?_
  refine Gp_alen (Int32.ofNat N) 0 mA eA dr_cX17_input_24 rfl rfl (G_nam fun z hz => ?_)
  have ez : z.toInt = (N : Nat) := gI_ofM hz (by omega)
  refine G_icmp_ge 77 dr_cX17_input_25 (by decide +kernel) (fun _ => kk F i hS) (fun hc => ?_)
  have hlt : i.toInt < z.toInt := gj_nle hc rfl
  refine G_iconst 0 dr_cX17_input_28 (by decide +kernel) ?_
  refine G_istore_n (L' := [(2, .int 0), (1, .int i), (0, .ref m)]) dr_cX17_input_29 (Nat.le_of_ble_eq_true rfl) rfl ?_
  have z0 : Int32.toInt 0 = 0 := by decide
  refine in_l2 hm t25 hN h0 (by omega) (fun F1 jj hS1 => ?_) 5 F 0 (by rw [z0]; decide) (by rw [z0]; decide) (by rw [z0]; decide) hS
  obtain ⟨i1, hi1⟩ : ∃ z, z = i + 1 := ⟨_, rfl⟩
  have ei : i1.toInt = i.toInt + 1 := by rw [gI_add hi1 (⟨h0, by omega⟩ : gB i 0 2048) (gBl (show Int32.toInt 1 = 1 by decide)) (by decide) (by decide), show Int32.toInt 1 = 1 from by decide]
  refine G_iinc (L' := [(1, .int i1), (2, .int jj), (0, .ref m)]) i1 1 dr_cX17_input_71 rfl (by rw [hi1]; rfl) (Nat.le_of_ble_eq_true rfl) rfl ?_
  refine G_goto 19 dr_cX17_input_74 (by decide +kernel) ?_
  refine G_lv [0, 2] rfl ?_
  exact ih F1 i1 (by omega) (by omega) (by omega) hS1
set_option maxRecDepth 100000 in
set_option maxHeartbeats 4000000 in
theorem cp_input (l : Launch) (hl0 : l.stackTraces = false) (D : va_G) (I : FieldType → ClassId) {P : List Nat} {F : Nat → va_E} {γ el : Nat → Nat → Nat} {m : Nat} (hT : RS D I P F γ el) (hm : γ 0 m = 10) :
    CtA (gV D I) l yX17_input cX17_input 3 (some FieldType.int) 1 20 1 2048 [.ref m] (va_pl P F) (inP D I P F γ el m) gNA := by
  refine CtA_of hl0 (by decide) (Nat.le_of_ble_eq_true rfl) ?_
  obtain ⟨r28, r35, v9, v10, v11, v12, v13, v14, v23, v24, v25, v26, v27, v30, v32, v33, v34, he, hM1, hK, hM2⟩ := rk10_m (show rk_10 γ (F m) from RS_o hT hm)
  have hM1' := hM1
  obtain ⟨q9, q10, q11, q14, q25, q26, q27, q32, q34⟩ := hM1
  have mm : m ∈ P := hT.1 m (by omega)
  have e32 : fI (F m) 32 = v32 := by rw [he]; rfl
  have e10 : fI (F m) 10 = v10 := by rw [he]; rfl
  have e9 : fI (F m) 9 = v9 := by rw [he]; rfl
  have t25 : γ 0 (γ 9 31) = 99 := hK.2.2.2.2.2.2.2.2.2.2.2.2.2.2.2.2.2.2.2.2.1
  refine G_aload_n 0 dr_cX17_input_0 rfl ?_
  refine G_iconst 0 dr_cX17_input_1 (by decide +kernel) ?_
  refine Gp_put 30 mm he dr_cX17_input_2 (gk_X17 D I) (Nat.le_of_ble_eq_true rfl) wr_7_104 rfl rfl rfl (Nat.le_of_ble_eq_true rfl) (fun F1 e1 n1 => ?_)
  have e1' : F1 m = mdE γ r28 r35 v9 v10 v11 v12 v13 v14 v23 v24 v25 v26 v27 0 v32 v33 v34 := e1
  have hT1 := RS_md hT hm n1 e1' hM1' hK hM2
  have hk1 := rSk_put (rSk_rf (f := 0) (K := []) (KF := [10, 26]) hT) hT1 n1 (show rKd γ m 10 from hm) (by decide) (fun _ z => nomatch z)
  refine G_aload_n 0 dr_cX17_input_5 rfl ?_
  refine G_aload_n 0 dr_cX17_input_6 rfl ?_
  refine Gp_get 32 mm e1' dr_cX17_input_7 (gk_X17 D I) (Nat.le_of_ble_eq_true rfl) wr_7_106 rfl ?_
  refine G_iconst 4 dr_cX17_input_10 (by decide +kernel) ?_
  refine G_idiv dr_cX17_input_11 (by decide) (G_nam fun z hz => ?_)
  have ez : z.toInt = v32.toInt / 4 := gI_div hz q32 (by decide) (by decide) (by decide)
  have q32a := q32.1
  have q32b := q32.2
  have hz0 : 0 ≤ z.toInt := by omega
  have hz1 : z.toInt ≤ 2048 := by omega
  refine G_newa 0 (z.toInt.toNat, .inl (fun _ => 0)) dr_cX17_input_12 rfl rfl (by intro C h; cases h) wr_1_95 (fun _ => ga_int _ _) (g_n0 (by omega)) rfl (show z.toInt.toNat * 4 ≤ 536870912 by omega) (show 0 + 1 ≤ 1 by decide) (show 0 + z.toInt.toNat ≤ 2048 by omega) (fun A => Gp_in (fun P2 F2 hq hP e2 n2 => ?_))
  have hs2 : rSub P P2 := rSub_new (rSub_rf (P := P)) hP
  have A0 : γ 0 A = 0 := RS_new hT hq
  have mA2 : A ∈ P2 := (hP A).mpr (Or.inr rfl)
  have hN : z.toInt.toNat ≤ 2048 := by omega
  have sk2 : rSk 0 [] [10, 26] D I P F1 γ el P2 F2 (gNw γ A 26) el := rSk_nw hT1 hq hs2 mA2 n2 ⟨z.toInt.toNat, fun _ => 0, e2, by omega⟩
  have hk2 := rSk_tr hk1 sk2 (fun _ z => nomatch z) (fun _ z => z) (fun _ z => nomatch z)
  have hmA : m ≠ A := fun e => by rw [e, A0] at hm; cases hm
  have hm2 : gNw γ A 26 0 m = 10 := (gNw_ne hmA).trans hm
  have g9 : gNw γ A 26 9 = γ 9 := gNw_j (by decide)
  have e2m : F2 m = mdE (gNw γ A 26) r28 r35 v9 v10 v11 v12 v13 v14 v23 v24 v25 v26 v27 0 v32 v33 v34 := (n2 m hmA).trans e1'
  have mm2 := hs2 m mm
  have kA : gNw γ A 26 0 A = 26 := if_pos ⟨rfl, rfl⟩
  have hM2' : rM2 (gNw γ A 26) v9 v10 v34 r35 := by
    unfold rM2
    rw [gNw_j (j := 6) (by decide), gNw_j (j := 23) (by decide), gNw_j (j := 12) (by decide)]
    exact hM2
  refine Gp_put 28 mm2 e2m dr_cX17_input_14 (gk_X17 D I) (Nat.le_of_ble_eq_true rfl) wr_7_102 rfl rfl rfl (Nat.le_of_ble_eq_true rfl) (fun F3 e3 n3 => ?_)
  have e3' : F3 m = mdE (gNw γ A 26) A r35 v9 v10 v11 v12 v13 v14 v23 v24 v25 v26 v27 0 v32 v33 v34 := e3
  have hK3 := mdK_nw A0 hK
  have hT3 := RS_md hk2.1 hm2 n3 e3' hM1' hK3 hM2'
  have hk3 := rSk_put hk2 hT3 n3 (show rKd (gNw γ A 26) m 10 from hm2) (by decide) (fun _ z => nomatch z)
  have t25' : gNw γ A 26 0 (gNw γ A 26 9 31) = 99 := hK3.2.2.2.2.2.2.2.2.2.2.2.2.2.2.2.2.2.2.2.2.1
  have hS3 : inS D I P F γ el P2 (gNw γ A 26) m A z.toInt.toNat (mdE (gNw γ A 26) A r35 v9 v10 v11 v12 v13 v14 v23 v24 v25 v26 v27 0 v32 v33 v34) F3 := ⟨hk3, e3', mA2, kA, fun _ => 0, (n3 A (Ne.symm hmA)).trans e2⟩
  refine G_iconst 0 dr_cX17_input_17 (by decide +kernel) ?_
  refine G_istore_n (L' := [(1, .int 0), (0, .ref m)]) dr_cX17_input_18 (Nat.le_of_ble_eq_true rfl) rfl ?_
  have z0 : Int32.toInt 0 = 0 := by decide
  refine in_l1 hm2 t25' hN (fun F4 i hS4 => ?_) (z.toInt.toNat + 1) F3 0 (by rw [z0]; omega) (by rw [z0]; decide) (by rw [z0]; omega) hS3
  obtain ⟨hk4, he4, -, -, fA, eA4⟩ := id hS4
  refine G_aload_n 1 dr_cX17_input_77 rfl ?_
  refine G_iconst 0 dr_cX17_input_78 (by decide +kernel) ?_
  refine Gp_put 32 mm2 he4 dr_cX17_input_79 (gk_X17 D I) (Nat.le_of_ble_eq_true rfl) wr_7_106 rfl rfl rfl (Nat.le_of_ble_eq_true rfl) (fun F5 e5 n5 => ?_)
  have e5' : F5 m = mdE (gNw γ A 26) A r35 v9 v10 v11 v12 v13 v14 v23 v24 v25 v26 v27 0 0 v33 v34 := e5
  have hT5 := RS_md hk4.1 hm2 n5 e5' ⟨q9, q10, q11, q14, q25, q26, q27, ⟨by decide, by decide⟩, q34⟩ hK3 hM2'
  have hk5 := rSk_put hk4 hT5 n5 (show rKd (gNw γ A 26) m 10 from hm2) (by decide) (fun _ z => nomatch z)
  refine G_aload_n 1 dr_cX17_input_82 rfl ?_
  refine Gp_get 28 mm2 e5' dr_cX17_input_83 (gk_X17 D I) (Nat.le_of_ble_eq_true rfl) wr_7_102 rfl ?_
  refine Gp_alen (Int32.ofNat z.toInt.toNat) 0 mA2 ((n5 A (Ne.symm hmA)).trans eA4) dr_cX17_input_86 rfl rfl (G_nam fun x hx => ?_)
  exact G_iretA dr_cX17_input_87 rfl (show 0 + 1 ≤ 1 by decide) (show 0 + z.toInt.toNat ≤ 2048 by omega) ⟨P2, F5, gNw γ A 26, x, rfl, rfl, hk5, fun j hj => gNw_j hj, by rw [e5', e9]; rfl, by rw [e5', e10]; rfl, by rw [e5']; rfl, by omega, by rw [e32]; omega, by rw [e5', he]; rfl, by have ex := gI_ofM hx (by omega); rw [ex, e32]; omega⟩
abbrev ky_676310_AbstractStringBuilder_ensureCapacityInternal : gKey := (cJ5_ensureCapacityInternal_d00df, 3, "java/lang/AbstractStringBuilder", none, [], "ensureCapacityInternal", fun _ _ => True)
def pp_676310_AbstractStringBuilder_ensureCapacityInternal (D : va_G) (I : FieldType → ClassId) (P676299 : List Nat) (F676300 : Nat → va_E) (q676301 : Nat) (q676302 : Nat) (p676303 : Int32) (p676304 : Int32) (p676305 : Int32) (f676306 : Nat → Int32) (n676307 : Nat) : Option Value → va_W → Nat → Nat → Prop := fun r w dc ds => (r = none ∧ w = va_pl P676299 F676300 ∧ dc ≤ 0 ∧ ds ≤ 0 ∧ p676303.toInt ≤ (n676307 : Int) ∧ (n676307 : Int) ≤ (n676307 : Int) ∧ ((n676307 : Int) = (n676307 : Int) ∨ (n676307 : Int) < p676303.toInt) ∧ ((n676307 : Int) ≤ 2 * (n676307 : Int) + 2 ∨ (n676307 : Int) ≤ p676303.toInt) ∧ ((n676307 : Int) = (n676307 : Int) ∨ (n676307 : Int) < p676303.toInt) ∧ ((n676307 : Int) = (n676307 : Int) ∨ 2 * (n676307 : Int) + 2 ≤ (n676307 : Int))) ∨ (∃ (P676360 : List Nat) (F676361 : Nat → va_E) (q676357 : Nat) (n676358 : Nat) (f676359 : Nat → Int32), r = none ∧ w = va_pl P676360 F676361 ∧ rSub P676299 P676360 ∧ rFr [q676301] P676299 F676300 F676361 ∧ F676361 q676301 = .inr (1, [.ref q676357, .int 0, .int p676304, .int p676305]) ∧ F676361 q676357 = .inl (I .byte, n676358, .inl f676359) ∧ q676357 ∈ P676360 ∧ q676357 ∉ P676299 ∧ dc ≤ (min 1 (n676358 - n676307)) ∧ ds ≤ 2 * (n676358 - n676307) ∧ gF f676359 (-128) 127 ∧ p676303.toInt ≤ (n676358 : Int) ∧ (n676307 : Int) ≤ (n676358 : Int) ∧ ((n676358 : Int) = (n676307 : Int) ∨ (n676307 : Int) < p676303.toInt) ∧ ((n676358 : Int) ≤ 2 * (n676307 : Int) + 2 ∨ (n676358 : Int) ≤ p676303.toInt) ∧ ((n676358 : Int) = (n676307 : Int) ∨ (n676307 : Int) < p676303.toInt) ∧ ((n676358 : Int) = (n676307 : Int) ∨ 2 * (n676307 : Int) + 2 ≤ (n676358 : Int)))
set_option maxRecDepth 100000 in
set_option maxHeartbeats 4000000 in
theorem cp_676310_AbstractStringBuilder_ensureCapacityInternal (l : Launch) (hl0 : l.stackTraces = false) (D : va_G) (I : FieldType → ClassId) (P676299 : List Nat) (F676300 : Nat → va_E) (q676301 : Nat) (q676302 : Nat) (p676303 : Int32) (p676304 : Int32) (p676305 : Int32) (f676306 : Nat → Int32) (n676307 : Nat) (hmq676301 : q676301 ∈ P676299) (hmq676302 : q676302 ∈ P676299) (heq676301 : F676300 q676301 = .inr (1, [.ref q676302, .int 0, .int p676304, .int p676305])) (heq676302 : F676300 q676302 = .inl (I .byte, n676307, .inl f676306)) (bp676303 : gB p676303 0 8388608) (bp676304 : gB p676304 0 1) (bp676305 : gB p676305 0 16777216) (bf676306 : gF f676306 (-128) 127) (x676308 : (n676307 : Int) ≤ 8388608) (x676309 : ((n676307 : Int) ≤ 16777216)) : CtA (gV D I) l yJ5_ensureCapacityInternal_d00df cJ5_ensureCapacityInternal_d00df 3 none 3 62 1 (2 * n676307 + 2 + p676303.toInt.toNat) [.ref q676301, .int p676303] (va_pl P676299 F676300) (pp_676310_AbstractStringBuilder_ensureCapacityInternal D I P676299 F676300 q676301 q676302 p676303 p676304 p676305 f676306 n676307) gNA := by
  refine CtA_ofF hl0 (by decide +kernel) (Nat.le_of_ble_eq_true rfl) ?_
  refine G_aload_n 0 dr_cJ5_ensureCapacityInternal_d00df_0 rfl ?_
  refine Gp_get 0 hmq676301 heq676301 dr_cJ5_ensureCapacityInternal_d00df_1 (gk_J4 D I) (Nat.le_of_ble_eq_true rfl) wr_7_60 rfl ?_
  refine Gp_alen (Int32.ofNat n676307) 1 hmq676302 heq676302 dr_cJ5_ensureCapacityInternal_d00df_4 rfl rfl (G_nam fun z676311 hz676311 => ?_)
  have ez676311 : z676311.toInt = (n676307 : Nat) := gI_ofM hz676311 (by omega)
  have bz676311 : gB z676311 0 16777216 := ⟨by omega, by omega⟩
  refine G_aload_n 0 dr_cJ5_ensureCapacityInternal_d00df_5 rfl ?_
  refine Gp_get 1 hmq676301 heq676301 dr_cJ5_ensureCapacityInternal_d00df_6 (gk_J4 D I) (Nat.le_of_ble_eq_true rfl) wr_7_61 rfl ?_
  refine G_ishr dr_cJ5_ensureCapacityInternal_d00df_9 (G_nam fun z676312 hz676312 => ?_)
  have ez676312 : z676312.toInt = z676311.toInt / 1 := gI_shr (k := 0) hz676312 (by decide)
  have bz676312 : gB z676312 0 16777216 := ⟨by omega, by omega⟩
  refine G_istore_n (L' := [(2, .int z676312), (0, .ref q676301), (1, .int p676303)]) dr_cJ5_ensureCapacityInternal_d00df_10 (Nat.le_of_ble_eq_true rfl) rfl ?_
  refine G_iload_n 2 dr_cJ5_ensureCapacityInternal_d00df_11 rfl ?_
  refine G_iload_n 0 dr_cJ5_ensureCapacityInternal_d00df_12 rfl ?_
  refine G_isub dr_cJ5_ensureCapacityInternal_d00df_13 (G_nam fun z676313 hz676313 => ?_)
  have ez676313 : z676313.toInt = p676303.toInt - z676312.toInt := by rw [gI_sub hz676313 bp676303 bz676312 (by decide) (by decide)]
  have bz676313 : gB z676313 (-16777216) 8388608 := gB_sub (gI_sub hz676313 bp676303 bz676312 (by decide) (by decide)) bp676303 bz676312 (by decide) (by decide)
  refine G_if_le 38 dr_cJ5_ensureCapacityInternal_d00df_14 (by decide +kernel) (fun hc676314 => ?_) (fun hc676314 => ?_)
  · have r676315 : z676313.toInt ≤ 0 := gj_le hc676314 (show Int32.toInt 0 = 0 by decide)
    have bz676313' : gB z676313 (-16777216) 0 := ⟨by omega, by omega⟩
    exact G_vretA dr_cJ5_ensureCapacityInternal_d00df_38 rfl (Nat.le_of_ble_eq_true rfl) (Nat.le_of_ble_eq_true rfl) (Or.inl ⟨rfl, rfl, (Nat.le_of_ble_eq_true rfl), (Nat.le_of_ble_eq_true rfl), (by have qa0 : Int32.toInt 0 = 0 := (by decide); omega), (by have qa0 : Int32.toInt 0 = 0 := (by decide); omega), (by have qa0 : Int32.toInt 0 = 0 := (by decide); omega), (by have qa0 : Int32.toInt 0 = 0 := (by decide); omega), (by have qa0 : Int32.toInt 0 = 0 := (by decide); omega), (by have qa0 : Int32.toInt 0 = 0 := (by decide); omega)⟩)
  · have r676316 : 0 < z676313.toInt := gj_nle hc676314 (show Int32.toInt 0 = 0 by decide)
    have bz676313' : gB z676313 1 8388608 := ⟨by omega, by omega⟩
    refine G_aload_n 1 dr_cJ5_ensureCapacityInternal_d00df_17 rfl ?_
    refine G_aload_n 1 dr_cJ5_ensureCapacityInternal_d00df_18 rfl ?_
    refine Gp_get 0 hmq676301 heq676301 dr_cJ5_ensureCapacityInternal_d00df_19 (gk_J4 D I) (Nat.le_of_ble_eq_true rfl) wr_7_60 rfl ?_
    refine G_aload_n 1 dr_cJ5_ensureCapacityInternal_d00df_22 rfl ?_
    refine G_iload_n 2 dr_cJ5_ensureCapacityInternal_d00df_23 rfl ?_
    refine Gw_callVB (As := [.int p676303]) (gV_ok D I) (cp_657910_AbstractStringBuilder_newCapacity l hl0 D I P676299 F676300 q676301 q676302 p676303 p676304 p676305 f676306 n676307 hmq676301 hmq676302 heq676301 heq676302 bp676303 bp676304 bp676305 bf676306 (by have qa0 : Int32.toInt 0 = 0 := (by decide); omega) (by have qa0 : Int32.toInt 0 = 0 := (by decide); omega) (by have qa0 : Int32.toInt 0 = 0 := (by decide); omega)) dr_cJ5_ensureCapacityInternal_d00df_24 ⟨wr_8_8, wr_1_19, wr_8_11, by decide, rfl, (Nat.le_of_ble_eq_true rfl), (Nat.le_of_ble_eq_true rfl)⟩ wr_8_10 wr_s_1 hmq676301 heq676301 rfl (show 0 + 0 ≤ 1 by first | omega | decide) (show 0 + 0 ≤ (2 * n676307 + 2 + p676303.toInt.toNat) by first | omega | decide) (Nat.le_of_ble_eq_true rfl) (fun r676320 w676321 dc676317 ds676318 hp676319 => ?_) (fun _ _ _ _ _ z => z.elim)
    obtain ⟨o676322, rfl, rfl, hdc, hds, bo676322, x676323, x676324, x676325, ht676326⟩ := hp676319
    change G _ _ _ _ _ _ _ (.int o676322 :: _) _ _ _
    refine G_widen (cs' := 0) (sl' := 0) (by omega) (by omega) ?_
    refine G_aload_n 1 dr_cJ5_ensureCapacityInternal_d00df_27 rfl ?_
    refine Gp_get 1 hmq676301 heq676301 dr_cJ5_ensureCapacityInternal_d00df_28 (gk_J4 D I) (Nat.le_of_ble_eq_true rfl) wr_7_61 rfl ?_
    refine G_ishl dr_cJ5_ensureCapacityInternal_d00df_31 (G_nam fun z676327 hz676327 => ?_)
    have ez676327 : z676327.toInt = o676322.toInt * 1 := gI_shl (k := 0) hz676327 (by decide) bo676322 (by decide) (by decide)
    have bz676327 : gB z676327 1 33554432 := ⟨by omega, by omega⟩
    refine Gw_callS (As := [.ref q676302, .int z676327]) (gV_ok D I) (cp_657945_Arrays_copyOf l hl0 D I P676299 F676300 q676302 z676327 f676306 n676307 hmq676302 heq676302 (gB_w bz676327 (by decide) (by decide)) bf676306 (by have qa0 : Int32.toInt 0 = 0 := (by decide); omega) (by have qa0 : Int32.toInt 0 = 0 := (by decide); omega)) dr_cJ5_ensureCapacityInternal_d00df_32 ⟨wr_8_21, wr_1_30, wr_8_23, by decide, rfl, (Nat.le_of_ble_eq_true rfl), (Nat.le_of_ble_eq_true rfl)⟩ wr_8_22 (show 0 + 1 ≤ 1 by first | omega | decide) (show 0 + z676327.toInt.toNat ≤ (2 * n676307 + 2 + p676303.toInt.toNat) by first | omega | decide) (Nat.le_of_ble_eq_true rfl) (fun r676331 w676332 dc676328 ds676329 hp676330 => ?_) (fun _ _ _ _ _ z => z.elim)
    obtain ⟨P676336, F676337, q676333, f676334, rfl, rfl, hsb676338, hfr676339, he676340, he676341, hm676342, hq676343, hdc, hds, bf676334, ht676335⟩ := hp676330
    have hm676344 : q676301 ∈ P676336 := hsb676338 q676301 hmq676301
    have hm676345 : q676302 ∈ P676336 := hsb676338 q676302 hmq676302
    have hq676346 : q676333 ∉ P676299 := fun z => hq676343 ((rSub_rf (P := P676299)) q676333 z)
    have hsb676347 : rSub P676299 P676336 := rSub_tr (rSub_rf (P := P676299)) hsb676338
    have he676348 : F676337 q676301 = .inr (1, [.ref q676302, .int 0, .int p676304, .int p676305]) := (hfr676339 q676301 hmq676301 nm_n).trans heq676301
    have hfr676349 : rFr [] P676299 F676300 F676337 := rFr_call (rSub_rf (P := P676299)) (rFr_rf (W := []) (P := P676299) (F := F676300)) hfr676339 (fun b hb hn => ⟨nm_n, nm_n⟩)
    change G _ _ _ _ _ _ _ (.ref q676333 :: _) _ _ _
    refine G_widen (cs' := 1) (sl' := z676327.toInt.toNat) (by omega) (by omega) ?_
    refine Gp_put 0 hm676344 he676348 dr_cJ5_ensureCapacityInternal_d00df_35 (gk_J4 D I) (Nat.le_of_ble_eq_true rfl) wr_7_60 rfl rfl rfl (Nat.le_of_ble_eq_true rfl) (fun F676350 e676351 n676352 => ?_)
    have he676353 : F676350 q676302 = .inl (I .byte, n676307, .inl f676306) := (n676352 q676302 (rn_ao he676340 he676348)).trans he676340
    have he676354 : F676350 q676333 = .inl (I .byte, z676327.toInt.toNat, .inl f676334) := (n676352 q676333 (fun h => hq676346 (h ▸ hmq676301))).trans he676341
    have he676355 : F676350 q676301 = .inr (1, [.ref q676333, .int 0, .int p676304, .int p676305]) := e676351
    have hfr676356 : rFr [q676301] P676299 F676300 F676350 := rFr_put hfr676349 n676352
    exact G_vretA dr_cJ5_ensureCapacityInternal_d00df_38 rfl (Nat.le_of_ble_eq_true rfl) (show z676327.toInt.toNat ≤ (2 * n676307 + 2 + p676303.toInt.toNat) by omega) (Or.inr (⟨P676336, F676350, q676333, z676327.toInt.toNat, f676334, rfl, rfl, hsb676347, hfr676356, he676355, he676354, hm676342, hq676346, (by omega), (by omega), bf676334, (by have qa0 : Int32.toInt 0 = 0 := (by decide); omega), (by have qa0 : Int32.toInt 0 = 0 := (by decide); omega), (by have qa0 : Int32.toInt 0 = 0 := (by decide); omega), (by have qa0 : Int32.toInt 0 = 0 := (by decide); omega), (by have qa0 : Int32.toInt 0 = 0 := (by decide); omega), (by have qa0 : Int32.toInt 0 = 0 := (by decide); omega)⟩))
abbrev ky_676297_AbstractStringBuilder_append : gKey := (cJ5_append_3fe6f, 2, "java/lang/AbstractStringBuilder", (some (FieldType.object "java/lang/AbstractStringBuilder")), [], "append", fun _ _ => True)
def pp_676297_AbstractStringBuilder_append (D : va_G) (I : FieldType → ClassId) (P676285 : List Nat) (F676286 : Nat → va_E) (q676287 : Nat) (q676288 : Nat) (p676289 : Int32) (p676290 : Int32) (p676291 : Int32) (f676292 : Nat → Int32) (n676293 : Nat) : Option Value → va_W → Nat → Nat → Prop := fun r w dc ds => (∃ (F676463 : Nat → va_E) (o676460 : Int32) (f676461 : Nat → Int32), r = some (.ref q676287) ∧ w = va_pl P676285 F676463 ∧ rFr [q676288, q676287] P676285 F676286 F676463 ∧ F676463 q676287 = .inr (1, [.ref q676288, .int 0, .int p676290, .int o676460]) ∧ F676463 q676288 = .inl (I .byte, n676293, .inl f676461) ∧ dc ≤ 0 ∧ ds ≤ 0 ∧ gB o676460 1 16777216 ∧ gF f676461 (-128) 127 ∧ o676460.toInt = p676291.toInt + 1 ∧ o676460.toInt ≤ (n676293 : Int) ∧ (n676293 : Int) ≤ (n676293 : Int) ∧ (n676293 : Int) ≤ 2 * (n676293 : Int) + 2 ∧ ((n676293 : Int) = (n676293 : Int) ∨ (n676293 : Int) < o676460.toInt) ∧ ((n676293 : Int) = (n676293 : Int) ∨ 2 * (n676293 : Int) + 2 ≤ (n676293 : Int))) ∨ (∃ (P676468 : List Nat) (F676469 : Nat → va_E) (o676464 : Int32) (q676465 : Nat) (n676466 : Nat) (f676467 : Nat → Int32), r = some (.ref q676287) ∧ w = va_pl P676468 F676469 ∧ rSub P676285 P676468 ∧ rFr [q676287] P676285 F676286 F676469 ∧ F676469 q676287 = .inr (1, [.ref q676465, .int 0, .int p676290, .int o676464]) ∧ F676469 q676465 = .inl (I .byte, n676466, .inl f676467) ∧ q676465 ∈ P676468 ∧ q676465 ∉ P676285 ∧ dc ≤ (min 1 (n676466 - n676293)) ∧ ds ≤ 2 * (n676466 - n676293) ∧ gB o676464 1 16777216 ∧ gF f676467 (-128) 127 ∧ o676464.toInt = p676291.toInt + 1 ∧ o676464.toInt ≤ (n676466 : Int) ∧ (n676293 : Int) ≤ (n676466 : Int) ∧ (n676466 : Int) ≤ 2 * (n676293 : Int) + 2 ∧ ((n676466 : Int) = (n676293 : Int) ∨ (n676293 : Int) < o676464.toInt) ∧ ((n676466 : Int) = (n676293 : Int) ∨ 2 * (n676293 : Int) + 2 ≤ (n676466 : Int)))
set_option maxRecDepth 100000 in
set_option maxHeartbeats 4000000 in
theorem cp_676297_AbstractStringBuilder_append (l : Launch) (hl0 : l.stackTraces = false) (D : va_G) (I : FieldType → ClassId) (P676285 : List Nat) (F676286 : Nat → va_E) (q676287 : Nat) (q676288 : Nat) (p676289 : Int32) (p676290 : Int32) (p676291 : Int32) (f676292 : Nat → Int32) (n676293 : Nat) (hmq676287 : q676287 ∈ P676285) (hmq676288 : q676288 ∈ P676285) (heq676287 : F676286 q676287 = .inr (1, [.ref q676288, .int 0, .int p676290, .int p676291])) (heq676288 : F676286 q676288 = .inl (I .byte, n676293, .inl f676292)) (bp676289 : gB p676289 0 255) (bp676290 : gB p676290 0 1) (bp676291 : gB p676291 0 16777216) (bf676292 : gF f676292 (-128) 127) (x676294 : (n676293 : Int) ≤ 8388608 - 100000) (x676295 : p676291.toInt ≤ (n676293 : Int)) (x676296 : ((n676293 : Int) ≤ 16777216)) : CtA (gV D I) l yJ5_append_3fe6f cJ5_append_3fe6f 2 (some (FieldType.object "java/lang/AbstractStringBuilder")) 4 84 1 (4 * n676293 + 8) [.ref q676287, .int p676289] (va_pl P676285 F676286) (pp_676297_AbstractStringBuilder_append D I P676285 F676286 q676287 q676288 p676289 p676290 p676291 f676292 n676293) gNA := by
  refine CtA_ofF hl0 (by decide +kernel) (Nat.le_of_ble_eq_true rfl) ?_
  refine G_aload_n 0 dr_cJ5_append_3fe6f_0 rfl ?_
  refine G_aload_n 0 dr_cJ5_append_3fe6f_1 rfl ?_
  refine Gp_get 3 hmq676287 heq676287 dr_cJ5_append_3fe6f_2 (gk_J4 D I) (Nat.le_of_ble_eq_true rfl) wr_7_64 rfl ?_
  refine G_iconst 1 dr_cJ5_append_3fe6f_5 (by decide +kernel) ?_
  refine G_iadd dr_cJ5_append_3fe6f_6 (G_nam fun z676298 hz676298 => ?_)
  have ez676298 : z676298.toInt = p676291.toInt + 1 := by rw [gI_add hz676298 bp676291 (gBl (show Int32.toInt 1 = 1 by decide)) (by decide) (by decide), show Int32.toInt 1 = 1 from by decide]
  have bz676298 : gB z676298 1 16777217 := gB_add (gI_add hz676298 bp676291 (gBl (show Int32.toInt 1 = 1 by decide)) (by decide) (by decide)) bp676291 (gBl (show Int32.toInt 1 = 1 by decide)) (by decide) (by decide)
  refine Gw_callVB (As := [.int z676298]) (gV_ok D I) (cp_676310_AbstractStringBuilder_ensureCapacityInternal l hl0 D I P676285 F676286 q676287 q676288 z676298 p676290 p676291 f676292 n676293 hmq676287 hmq676288 heq676287 heq676288 ⟨by omega, by omega⟩ bp676290 bp676291 bf676292 (by have qa0 : Int32.toInt 0 = 0 := (by decide); omega) (by have qa0 : Int32.toInt 0 = 0 := (by decide); omega)) dr_cJ5_append_3fe6f_7 ⟨wr_8_4, wr_1_19, wr_8_7, by decide, rfl, (Nat.le_of_ble_eq_true rfl), (Nat.le_of_ble_eq_true rfl)⟩ wr_8_6 wr_s_0 hmq676287 heq676287 rfl (show 0 + 1 ≤ 1 by first | omega | decide) (show 0 + (2 * n676293 + 2 + z676298.toInt.toNat) ≤ (4 * n676293 + 8) by first | omega | decide) (Nat.le_of_ble_eq_true rfl) (fun r676365 w676366 dc676362 ds676363 hp676364 => ?_) (fun _ _ _ _ _ z => z.elim)
  rcases hp676364 with hp676367 | hp676368
  · obtain ⟨rfl, rfl, hdc, hds, x676369, x676370, x676371, x676372, x676373, x676374⟩ := hp676367
    change G _ _ _ _ _ _ _ _ _ _ _
    refine G_widen (cs' := 0) (sl' := 0) (by omega) (by omega) ?_
    refine G_aload_n 0 dr_cJ5_append_3fe6f_10 rfl ?_
    refine Gw_callVB (As := []) (gV_ok D I) (cp_657792_AbstractStringBuilder_isLatin1 l hl0 D I P676285 F676286 q676287 q676288 p676290 p676291 f676292 n676293 hmq676287 hmq676288 heq676287 heq676288 bp676290 bp676291 bf676292 (by have qa0 : Int32.toInt 0 = 0 := (by decide); omega)) dr_cJ5_append_3fe6f_11 ⟨wr_8_33, wr_1_19, wr_8_37, by decide, rfl, (Nat.le_of_ble_eq_true rfl), (Nat.le_of_ble_eq_true rfl)⟩ wr_8_34 wr_8_36 hmq676287 heq676287 rfl (show 0 + 0 ≤ 1 by first | omega | decide) (show 0 + 0 ≤ (4 * n676293 + 8) by first | omega | decide) (Nat.le_of_ble_eq_true rfl) (fun r676378 w676379 dc676375 ds676376 hp676377 => ?_) (fun _ _ _ _ _ z => z.elim)
    obtain ⟨rfl, rfl, hdc, hds⟩ := hp676377
    change G _ _ _ _ _ _ _ (.int 1 :: _) _ _ _
    refine G_widen (cs' := 0) (sl' := 0) (by omega) (by omega) ?_
    refine G_if_eq 45 dr_cJ5_append_3fe6f_14 (by decide +kernel) (fun hc => absurd hc (by decide)) (fun _ => ?_)
    refine G_iload_n 1 dr_cJ5_append_3fe6f_17 rfl ?_
    refine Gw_callS (As := [.int p676289]) (gV_ok D I) (cp_657801_StringLatin1_canEncode l hl0 D I P676285 F676286 p676289 (gB_w bp676289 (by decide) (by decide))) dr_cJ5_append_3fe6f_18 ⟨wr_8_38, wr_1_28, wr_8_40, by decide, rfl, (Nat.le_of_ble_eq_true rfl), (Nat.le_of_ble_eq_true rfl)⟩ wr_8_39 (show 0 + 0 ≤ 1 by first | omega | decide) (show 0 + 0 ≤ (4 * n676293 + 8) by first | omega | decide) (Nat.le_of_ble_eq_true rfl) (fun r676383 w676384 dc676380 ds676381 hp676382 => ?_) (fun _ _ _ _ _ z => z.elim)
    rcases hp676382 with ⟨rfl, rfl, hdc, hds, r676385, r676386⟩ | ⟨rfl, rfl, hdc, hds, r676387, r676388⟩
    · exact absurd (show False by omega) not_false
    · change G _ _ _ _ _ _ _ (.int 1 :: _) _ _ _
      refine G_widen (cs' := 0) (sl' := 0) (by omega) (by omega) ?_
      refine G_if_eq 45 dr_cJ5_append_3fe6f_21 (by decide +kernel) (fun hc => absurd hc (by decide)) (fun _ => ?_)
      refine G_aload_n 0 dr_cJ5_append_3fe6f_24 rfl ?_
      refine Gp_get 0 hmq676287 heq676287 dr_cJ5_append_3fe6f_25 (gk_J4 D I) (Nat.le_of_ble_eq_true rfl) wr_7_60 rfl ?_
      refine G_aload_n 0 dr_cJ5_append_3fe6f_28 rfl ?_
      refine G_dup dr_cJ5_append_3fe6f_29 rfl ?_
      refine Gp_get 3 hmq676287 heq676287 dr_cJ5_append_3fe6f_30 (gk_J4 D I) (Nat.le_of_ble_eq_true rfl) wr_7_64 rfl ?_
      refine G_dup_x1 dr_cJ5_append_3fe6f_33 rfl rfl ?_
      refine G_iconst 1 dr_cJ5_append_3fe6f_34 (by decide +kernel) ?_
      refine G_iadd dr_cJ5_append_3fe6f_35 (G_nam fun z676390 hz676390 => ?_)
      have ez676390 : z676390.toInt = p676291.toInt + 1 := by rw [gI_add hz676390 bp676291 (gBl (show Int32.toInt 1 = 1 by decide)) (by decide) (by decide), show Int32.toInt 1 = 1 from by decide]
      have bz676390 : gB z676390 1 16777217 := gB_add (gI_add hz676390 bp676291 (gBl (show Int32.toInt 1 = 1 by decide)) (by decide) (by decide)) bp676291 (gBl (show Int32.toInt 1 = 1 by decide)) (by decide) (by decide)
      refine Gp_put 3 hmq676287 heq676287 dr_cJ5_append_3fe6f_36 (gk_J4 D I) (Nat.le_of_ble_eq_true rfl) wr_7_64 rfl rfl rfl (Nat.le_of_ble_eq_true rfl) (fun F676391 e676392 n676393 => ?_)
      have he676394 : F676391 q676288 = .inl (I .byte, n676293, .inl f676292) := (n676393 q676288 (rn_ao heq676288 heq676287)).trans heq676288
      have he676395 : F676391 q676287 = .inr (1, [.ref q676288, .int 0, .int p676290, .int z676390]) := e676392
      have hfr676396 : rFr [q676287] P676285 F676286 F676391 := rFr_put (rFr_rf (W := []) (P := P676285) (F := F676286)) n676393
      refine G_iload_n 1 dr_cJ5_append_3fe6f_39 rfl ?_
      refine G_i2b dr_cJ5_append_3fe6f_40 (G_nam fun z676397 hz676397 => ?_)
      have bz676397 : gB z676397 (-128) 127 := gB_i2b hz676397
      refine Gp_bast 1 hmq676288 he676394 dr_cJ5_append_3fe6f_41 rfl (gB_inr (by omega) (by omega)) (fun F676398 e676399 n676400 => ?_)
      obtain ⟨f676401, hf676401⟩ : ∃ z, z = upd f676292 p676291.toNatClampNeg (vp_nar .byte z676397) := ⟨_, rfl⟩
      rw [← hf676401] at e676399
      have he676402 : F676398 q676287 = .inr (1, [.ref q676288, .int 0, .int p676290, .int z676390]) := (n676400 q676287 (rn_oa he676395 he676394)).trans he676395
      have he676403 : F676398 q676288 = .inl (I .byte, n676293, .inl f676401) := e676399
      have hfr676404 : rFr [q676288, q676287] P676285 F676286 F676398 := rFr_put hfr676396 n676400
      have bf676401 : gF f676401 (-128) 127 := gF_upd hf676401 bf676292 gB_byte
      refine G_goto 75 dr_cJ5_append_3fe6f_42 (by decide +kernel) ?_
      refine G_aload_n 0 dr_cJ5_append_3fe6f_75 rfl ?_
      exact G_aretA (FieldType.object "java/lang/AbstractStringBuilder") dr_cJ5_append_3fe6f_76 rfl (by first | exact Or.inl ⟨_, rfl⟩ | exact Or.inr ⟨_, rfl⟩) (Or.inr ⟨_, rfl⟩) (Nat.le_of_ble_eq_true rfl) (Nat.le_of_ble_eq_true rfl) (Or.inl ⟨F676398, z676390, f676401, rfl, rfl, hfr676404, he676402, he676403, (Nat.le_of_ble_eq_true rfl), (Nat.le_of_ble_eq_true rfl), ⟨by omega, by omega⟩, bf676401, (by have qa0 : Int32.toInt 0 = 0 := (by decide); omega), (by have qa0 : Int32.toInt 0 = 0 := (by decide); omega), (by have qa0 : Int32.toInt 0 = 0 := (by decide); omega), (by have qa0 : Int32.toInt 0 = 0 := (by decide); omega), (by have qa0 : Int32.toInt 0 = 0 := (by decide); omega), (by have qa0 : Int32.toInt 0 = 0 := (by decide); omega)⟩)
  · obtain ⟨P676414, F676415, q676405, n676406, f676407, rfl, rfl, hsb676416, hfr676417, he676418, he676419, hm676420, hq676421, hdc, hds, bf676407, x676408, x676409, x676410, x676411, x676412, x676413⟩ := hp676368
    have hm676422 : q676287 ∈ P676414 := hsb676416 q676287 hmq676287
    have hm676423 : q676288 ∈ P676414 := hsb676416 q676288 hmq676288
    have hq676424 : q676405 ∉ P676285 := fun z => hq676421 ((rSub_rf (P := P676285)) q676405 z)
    have hsb676425 : rSub P676285 P676414 := rSub_tr (rSub_rf (P := P676285)) hsb676416
    have he676426 : F676415 q676288 = .inl (I .byte, n676293, .inl f676292) := (hfr676417 q676288 hmq676288 (nm_c (rn_ao heq676288 heq676287) nm_n)).trans heq676288
    have hfr676427 : rFr [q676287] P676285 F676286 F676415 := rFr_call (rSub_rf (P := P676285)) (rFr_rf (W := []) (P := P676285) (F := F676286)) hfr676417 (fun b hb hn => ⟨nm_n, (nm_c (fun e => hn (e ▸ List.mem_cons_self)) nm_n)⟩)
    change G _ _ _ _ _ _ _ _ _ _ _
    refine G_widen (cs' := (min 1 (n676406 - n676293))) (sl' := 2 * (n676406 - n676293)) (by omega) (by omega) ?_
    refine G_aload_n 0 dr_cJ5_append_3fe6f_10 rfl ?_
    refine Gw_callVB (As := []) (gV_ok D I) (cp_657792_AbstractStringBuilder_isLatin1 l hl0 D I P676414 F676415 q676287 q676405 p676290 p676291 f676407 n676406 hm676422 hm676420 he676418 he676419 bp676290 bp676291 bf676407 (by have qa0 : Int32.toInt 0 = 0 := (by decide); omega)) dr_cJ5_append_3fe6f_11 ⟨wr_8_33, wr_1_19, wr_8_37, by decide, rfl, (Nat.le_of_ble_eq_true rfl), (Nat.le_of_ble_eq_true rfl)⟩ wr_8_34 wr_8_36 hm676422 he676418 rfl (show (min 1 (n676406 - n676293)) + 0 ≤ 1 by first | omega | decide) (show 2 * (n676406 - n676293) + 0 ≤ (4 * n676293 + 8) by first | omega | decide) (Nat.le_of_ble_eq_true rfl) (fun r676431 w676432 dc676428 ds676429 hp676430 => ?_) (fun _ _ _ _ _ z => z.elim)
    obtain ⟨rfl, rfl, hdc, hds⟩ := hp676430
    change G _ _ _ _ _ _ _ (.int 1 :: _) _ _ _
    refine G_widen (cs' := (min 1 (n676406 - n676293)) + 0) (sl' := 2 * (n676406 - n676293) + 0) (by omega) (by omega) ?_
    refine G_if_eq 45 dr_cJ5_append_3fe6f_14 (by decide +kernel) (fun hc => absurd hc (by decide)) (fun _ => ?_)
    refine G_iload_n 1 dr_cJ5_append_3fe6f_17 rfl ?_
    refine Gw_callS (As := [.int p676289]) (gV_ok D I) (cp_657801_StringLatin1_canEncode l hl0 D I P676414 F676415 p676289 (gB_w bp676289 (by decide) (by decide))) dr_cJ5_append_3fe6f_18 ⟨wr_8_38, wr_1_28, wr_8_40, by decide, rfl, (Nat.le_of_ble_eq_true rfl), (Nat.le_of_ble_eq_true rfl)⟩ wr_8_39 (show (min 1 (n676406 - n676293)) + 0 + 0 ≤ 1 by first | omega | decide) (show 2 * (n676406 - n676293) + 0 + 0 ≤ (4 * n676293 + 8) by first | omega | decide) (Nat.le_of_ble_eq_true rfl) (fun r676436 w676437 dc676433 ds676434 hp676435 => ?_) (fun _ _ _ _ _ z => z.elim)
    rcases hp676435 with ⟨rfl, rfl, hdc, hds, r676438, r676439⟩ | ⟨rfl, rfl, hdc, hds, r676440, r676441⟩
    · exact absurd (show False by omega) not_false
    · change G _ _ _ _ _ _ _ (.int 1 :: _) _ _ _
      refine G_widen (cs' := (min 1 (n676406 - n676293)) + 0 + 0) (sl' := 2 * (n676406 - n676293) + 0 + 0) (by omega) (by omega) ?_
      refine G_if_eq 45 dr_cJ5_append_3fe6f_21 (by decide +kernel) (fun hc => absurd hc (by decide)) (fun _ => ?_)
      refine G_aload_n 0 dr_cJ5_append_3fe6f_24 rfl ?_
      refine Gp_get 0 hm676422 he676418 dr_cJ5_append_3fe6f_25 (gk_J4 D I) (Nat.le_of_ble_eq_true rfl) wr_7_60 rfl ?_
      refine G_aload_n 0 dr_cJ5_append_3fe6f_28 rfl ?_
      refine G_dup dr_cJ5_append_3fe6f_29 rfl ?_
      refine Gp_get 3 hm676422 he676418 dr_cJ5_append_3fe6f_30 (gk_J4 D I) (Nat.le_of_ble_eq_true rfl) wr_7_64 rfl ?_
      refine G_dup_x1 dr_cJ5_append_3fe6f_33 rfl rfl ?_
      refine G_iconst 1 dr_cJ5_append_3fe6f_34 (by decide +kernel) ?_
      refine G_iadd dr_cJ5_append_3fe6f_35 (G_nam fun z676443 hz676443 => ?_)
      have ez676443 : z676443.toInt = p676291.toInt + 1 := by rw [gI_add hz676443 bp676291 (gBl (show Int32.toInt 1 = 1 by decide)) (by decide) (by decide), show Int32.toInt 1 = 1 from by decide]
      have bz676443 : gB z676443 1 16777217 := gB_add (gI_add hz676443 bp676291 (gBl (show Int32.toInt 1 = 1 by decide)) (by decide) (by decide)) bp676291 (gBl (show Int32.toInt 1 = 1 by decide)) (by decide) (by decide)
      refine Gp_put 3 hm676422 he676418 dr_cJ5_append_3fe6f_36 (gk_J4 D I) (Nat.le_of_ble_eq_true rfl) wr_7_64 rfl rfl rfl (Nat.le_of_ble_eq_true rfl) (fun F676444 e676445 n676446 => ?_)
      have he676447 : F676444 q676288 = .inl (I .byte, n676293, .inl f676292) := (n676446 q676288 (rn_ao he676426 he676418)).trans he676426
      have he676448 : F676444 q676405 = .inl (I .byte, n676406, .inl f676407) := (n676446 q676405 (fun h => hq676424 (h ▸ hmq676287))).trans he676419
      have he676449 : F676444 q676287 = .inr (1, [.ref q676405, .int 0, .int p676290, .int z676443]) := e676445
      have hfr676450 : rFr [q676287] P676285 F676286 F676444 := rFr_put' List.mem_cons_self hfr676427 n676446
      refine G_iload_n 1 dr_cJ5_append_3fe6f_39 rfl ?_
      refine G_i2b dr_cJ5_append_3fe6f_40 (G_nam fun z676451 hz676451 => ?_)
      have bz676451 : gB z676451 (-128) 127 := gB_i2b hz676451
      refine Gp_bast 1 hm676420 he676448 dr_cJ5_append_3fe6f_41 rfl (gB_inr (by omega) (by omega)) (fun F676452 e676453 n676454 => ?_)
      obtain ⟨f676455, hf676455⟩ : ∃ z, z = upd f676407 p676291.toNatClampNeg (vp_nar .byte z676451) := ⟨_, rfl⟩
      rw [← hf676455] at e676453
      have he676456 : F676452 q676288 = .inl (I .byte, n676293, .inl f676292) := (n676454 q676288 (fun h => hq676424 (h ▸ hmq676288))).trans he676447
      have he676457 : F676452 q676287 = .inr (1, [.ref q676405, .int 0, .int p676290, .int z676443]) := (n676454 q676287 (fun h => hq676424 (h ▸ hmq676287))).trans he676449
      have he676458 : F676452 q676405 = .inl (I .byte, n676406, .inl f676455) := e676453
      have hfr676459 : rFr [q676287] P676285 F676286 F676452 := rFr_newp hq676424 hfr676450 n676454
      have bf676455 : gF f676455 (-128) 127 := gF_upd hf676455 bf676407 gB_byte
      refine G_goto 75 dr_cJ5_append_3fe6f_42 (by decide +kernel) ?_
      refine G_aload_n 0 dr_cJ5_append_3fe6f_75 rfl ?_
      exact G_aretA (FieldType.object "java/lang/AbstractStringBuilder") dr_cJ5_append_3fe6f_76 rfl (by first | exact Or.inl ⟨_, rfl⟩ | exact Or.inr ⟨_, rfl⟩) (Or.inr ⟨_, rfl⟩) (show (min 1 (n676406 - n676293)) + 0 + 0 ≤ 1 by omega) (show 2 * (n676406 - n676293) + 0 + 0 ≤ (4 * n676293 + 8) by omega) (Or.inr (⟨P676414, F676452, z676443, q676405, n676406, f676455, rfl, rfl, hsb676425, hfr676459, he676457, he676458, hm676420, hq676424, (by omega), (by omega), ⟨by omega, by omega⟩, bf676455, (by have qa0 : Int32.toInt 0 = 0 := (by decide); omega), (by have qa0 : Int32.toInt 0 = 0 := (by decide); omega), (by have qa0 : Int32.toInt 0 = 0 := (by decide); omega), (by have qa0 : Int32.toInt 0 = 0 := (by decide); omega), (by have qa0 : Int32.toInt 0 = 0 := (by decide); omega), (by have qa0 : Int32.toInt 0 = 0 := (by decide); omega)⟩))
abbrev ky_676284_StringBuilder_append : gKey := (cJ4_append_cf468, 2, "java/lang/StringBuilder", (some (FieldType.object "java/lang/StringBuilder")), [], "append", fun _ _ => True)
def pp_676284_StringBuilder_append (D : va_G) (I : FieldType → ClassId) (P676272 : List Nat) (F676273 : Nat → va_E) (q676274 : Nat) (q676275 : Nat) (p676276 : Int32) (p676277 : Int32) (p676278 : Int32) (f676279 : Nat → Int32) (n676280 : Nat) : Option Value → va_W → Nat → Nat → Prop := fun r w dc ds => (∃ (F676518 : Nat → va_E) (o676515 : Int32) (f676516 : Nat → Int32), r = some (.ref q676274) ∧ w = va_pl P676272 F676518 ∧ rFr [q676275, q676274] P676272 F676273 F676518 ∧ F676518 q676274 = .inr (1, [.ref q676275, .int 0, .int p676277, .int o676515]) ∧ F676518 q676275 = .inl (I .byte, n676280, .inl f676516) ∧ dc ≤ 0 ∧ ds ≤ 0 ∧ gB o676515 1 16777216 ∧ gF f676516 (-128) 127 ∧ o676515.toInt = p676278.toInt + 1 ∧ o676515.toInt ≤ (n676280 : Int) ∧ (n676280 : Int) ≤ (n676280 : Int) ∧ (n676280 : Int) ≤ 2 * (n676280 : Int) + 2 ∧ ((n676280 : Int) = (n676280 : Int) ∨ (n676280 : Int) < o676515.toInt) ∧ ((n676280 : Int) = (n676280 : Int) ∨ 2 * (n676280 : Int) + 2 ≤ (n676280 : Int))) ∨ (∃ (P676523 : List Nat) (F676524 : Nat → va_E) (o676519 : Int32) (q676520 : Nat) (n676521 : Nat) (f676522 : Nat → Int32), r = some (.ref q676274) ∧ w = va_pl P676523 F676524 ∧ rSub P676272 P676523 ∧ rFr [q676274] P676272 F676273 F676524 ∧ F676524 q676274 = .inr (1, [.ref q676520, .int 0, .int p676277, .int o676519]) ∧ F676524 q676520 = .inl (I .byte, n676521, .inl f676522) ∧ q676520 ∈ P676523 ∧ q676520 ∉ P676272 ∧ dc ≤ (min 1 (n676521 - n676280)) ∧ ds ≤ 2 * (n676521 - n676280) ∧ gB o676519 1 16777216 ∧ gF f676522 (-128) 127 ∧ o676519.toInt = p676278.toInt + 1 ∧ o676519.toInt ≤ (n676521 : Int) ∧ (n676280 : Int) ≤ (n676521 : Int) ∧ (n676521 : Int) ≤ 2 * (n676280 : Int) + 2 ∧ ((n676521 : Int) = (n676280 : Int) ∨ (n676280 : Int) < o676519.toInt) ∧ ((n676521 : Int) = (n676280 : Int) ∨ 2 * (n676280 : Int) + 2 ≤ (n676521 : Int)))
set_option maxRecDepth 100000 in
set_option maxHeartbeats 4000000 in
theorem cp_676284_StringBuilder_append (l : Launch) (hl0 : l.stackTraces = false) (D : va_G) (I : FieldType → ClassId) (P676272 : List Nat) (F676273 : Nat → va_E) (q676274 : Nat) (q676275 : Nat) (p676276 : Int32) (p676277 : Int32) (p676278 : Int32) (f676279 : Nat → Int32) (n676280 : Nat) (hmq676274 : q676274 ∈ P676272) (hmq676275 : q676275 ∈ P676272) (heq676274 : F676273 q676274 = .inr (1, [.ref q676275, .int 0, .int p676277, .int p676278])) (heq676275 : F676273 q676275 = .inl (I .byte, n676280, .inl f676279)) (bp676276 : gB p676276 0 255) (bp676277 : gB p676277 0 1) (bp676278 : gB p676278 0 16777216) (bf676279 : gF f676279 (-128) 127) (x676281 : (n676280 : Int) ≤ 8388608 - 100000) (x676282 : p676278.toInt ≤ (n676280 : Int)) (x676283 : ((n676280 : Int) ≤ 16777216)) : CtA (gV D I) l yJ4_append_cf468 cJ4_append_cf468 2 (some (FieldType.object "java/lang/StringBuilder")) 5 105 1 (4 * n676280 + 8) [.ref q676274, .int p676276] (va_pl P676272 F676273) (pp_676284_StringBuilder_append D I P676272 F676273 q676274 q676275 p676276 p676277 p676278 f676279 n676280) gNA := by
  refine CtA_ofF hl0 (by decide +kernel) (Nat.le_of_ble_eq_true rfl) ?_
  refine G_aload_n 0 dr_cJ4_append_cf468_0 rfl ?_
  refine G_iload_n 1 dr_cJ4_append_cf468_1 rfl ?_
  refine Gw_callSU (As := [.int p676276]) (gV_ok D I) (cp_676297_AbstractStringBuilder_append l hl0 D I P676272 F676273 q676274 q676275 p676276 p676277 p676278 f676279 n676280 hmq676274 hmq676275 heq676274 heq676275 bp676276 bp676277 bp676278 bf676279 (by have qa0 : Int32.toInt 0 = 0 := (by decide); omega) (by have qa0 : Int32.toInt 0 = 0 := (by decide); omega) (by have qa0 : Int32.toInt 0 = 0 := (by decide); omega)) dr_cJ4_append_cf468_2 ⟨wr_8_1, wr_1_19, wr_8_3, by decide, rfl, (Nat.le_of_ble_eq_true rfl), (Nat.le_of_ble_eq_true rfl)⟩ wr_8_2 wr_11_224 wr_7_73 wr_7_44 (by decide) hmq676274 heq676274 rfl (show 0 + 1 ≤ 1 by first | omega | decide) (show 0 + (4 * n676280 + 8) ≤ (4 * n676280 + 8) by first | omega | decide) (Nat.le_of_ble_eq_true rfl) (fun r676473 w676474 dc676470 ds676471 hp676472 => ?_)
  rcases hp676472 with hp676475 | hp676476
  · obtain ⟨F676485, o676477, f676478, rfl, rfl, hfr676487, he676488, he676489, hdc, hds, bo676477, bf676478, x676479, x676480, x676481, x676482, x676483, x676484⟩ := hp676475
    have hfr676490 : rFr [q676275, q676274] P676272 F676273 F676485 := rFr_call (rSub_rf (P := P676272)) (rFr_rf (W := []) (P := P676272) (F := F676273)) hfr676487 (fun b hb hn => ⟨nm_n, (nm_c (fun e => hn (e ▸ List.mem_cons_self)) (nm_c (fun e => hn (e ▸ (List.mem_cons_of_mem _ List.mem_cons_self))) nm_n))⟩)
    change G _ _ _ _ _ _ _ (.ref q676274 :: _) _ _ _
    refine G_widen (cs' := 0) (sl' := 0) (by omega) (by omega) ?_
    refine G_pop dr_cJ4_append_cf468_5 rfl ?_
    refine G_aload_n 0 dr_cJ4_append_cf468_6 rfl ?_
    exact G_aretA (FieldType.object "java/lang/StringBuilder") dr_cJ4_append_cf468_7 rfl (by first | exact Or.inl ⟨_, rfl⟩ | exact Or.inr ⟨_, rfl⟩) (Or.inr ⟨_, rfl⟩) (Nat.le_of_ble_eq_true rfl) (Nat.le_of_ble_eq_true rfl) (Or.inl ⟨F676485, o676477, f676478, rfl, rfl, hfr676490, he676488, he676489, (Nat.le_of_ble_eq_true rfl), (Nat.le_of_ble_eq_true rfl), bo676477, bf676478, (by have qa0 : Int32.toInt 0 = 0 := (by decide); omega), (by have qa0 : Int32.toInt 0 = 0 := (by decide); omega), (by have qa0 : Int32.toInt 0 = 0 := (by decide); omega), (by have qa0 : Int32.toInt 0 = 0 := (by decide); omega), (by have qa0 : Int32.toInt 0 = 0 := (by decide); omega), (by have qa0 : Int32.toInt 0 = 0 := (by decide); omega)⟩)
  · obtain ⟨P676501, F676502, o676491, q676492, n676493, f676494, rfl, rfl, hsb676503, hfr676504, he676505, he676506, hm676507, hq676508, hdc, hds, bo676491, bf676494, x676495, x676496, x676497, x676498, x676499, x676500⟩ := hp676476
    have hm676509 : q676274 ∈ P676501 := hsb676503 q676274 hmq676274
    have hm676510 : q676275 ∈ P676501 := hsb676503 q676275 hmq676275
    have hq676511 : q676492 ∉ P676272 := fun z => hq676508 ((rSub_rf (P := P676272)) q676492 z)
    have hsb676512 : rSub P676272 P676501 := rSub_tr (rSub_rf (P := P676272)) hsb676503
    have he676513 : F676502 q676275 = .inl (I .byte, n676280, .inl f676279) := (hfr676504 q676275 hmq676275 (nm_c (rn_ao heq676275 heq676274) nm_n)).trans heq676275
    have hfr676514 : rFr [q676274] P676272 F676273 F676502 := rFr_call (rSub_rf (P := P676272)) (rFr_rf (W := []) (P := P676272) (F := F676273)) hfr676504 (fun b hb hn => ⟨nm_n, (nm_c (fun e => hn (e ▸ List.mem_cons_self)) nm_n)⟩)
    change G _ _ _ _ _ _ _ (.ref q676274 :: _) _ _ _
    refine G_widen (cs' := (min 1 (n676493 - n676280))) (sl' := 2 * (n676493 - n676280)) (by omega) (by omega) ?_
    refine G_pop dr_cJ4_append_cf468_5 rfl ?_
    refine G_aload_n 0 dr_cJ4_append_cf468_6 rfl ?_
    exact G_aretA (FieldType.object "java/lang/StringBuilder") dr_cJ4_append_cf468_7 rfl (by first | exact Or.inl ⟨_, rfl⟩ | exact Or.inr ⟨_, rfl⟩) (Or.inr ⟨_, rfl⟩) (show (min 1 (n676493 - n676280)) ≤ 1 by omega) (show 2 * (n676493 - n676280) ≤ (4 * n676280 + 8) by omega) (Or.inr (⟨P676501, F676502, o676491, q676492, n676493, f676494, rfl, rfl, hsb676512, hfr676514, he676505, he676506, hm676507, hq676511, (by omega), (by omega), bo676491, bf676494, (by have qa0 : Int32.toInt 0 = 0 := (by decide); omega), (by have qa0 : Int32.toInt 0 = 0 := (by decide); omega), (by have qa0 : Int32.toInt 0 = 0 := (by decide); omega), (by have qa0 : Int32.toInt 0 = 0 := (by decide); omega), (by have qa0 : Int32.toInt 0 = 0 := (by decide); omega), (by have qa0 : Int32.toInt 0 = 0 := (by decide); omega)⟩))
abbrev ky_676550_AbstractStringBuilder_append : gKey := (cJ5_append_c97b9, 4, "java/lang/AbstractStringBuilder", (some (FieldType.object "java/lang/AbstractStringBuilder")), [], "append", fun _ _ => True)
def pp_676550_AbstractStringBuilder_append (D : va_G) (I : FieldType → ClassId) (P676538 : List Nat) (F676539 : Nat → va_E) (q676540 : Nat) (q676541 : Nat) (p676542 : Int32) (p676543 : Int32) (p676544 : Int32) (f676545 : Nat → Int32) (n676546 : Nat) : Option Value → va_W → Nat → Nat → Prop := fun r w dc ds => (∃ (F676651 : Nat → va_E) (o676648 : Int32) (f676649 : Nat → Int32), r = some (.ref q676540) ∧ w = va_pl P676538 F676651 ∧ rFr [q676540, q676541] P676538 F676539 F676651 ∧ F676651 q676540 = .inr (1, [.ref q676541, .int 0, .int p676543, .int o676648]) ∧ F676651 q676541 = .inl (I .byte, n676546, .inl f676649) ∧ dc ≤ 0 ∧ ds ≤ 0 ∧ gB o676648 1 16777216 ∧ gF f676649 (-128) 127 ∧ p676544.toInt ≤ o676648.toInt ∧ o676648.toInt ≤ p676544.toInt + 11 ∧ o676648.toInt ≤ (n676546 : Int) ∧ (n676546 : Int) ≤ (n676546 : Int) ∧ ((n676546 : Int) ≤ 2 * (n676546 : Int) + 2 ∨ (n676546 : Int) ≤ p676544.toInt + 11) ∧ ((n676546 : Int) = (n676546 : Int) ∨ (n676546 : Int) < o676648.toInt) ∧ ((n676546 : Int) = (n676546 : Int) ∨ 2 * (n676546 : Int) + 2 ≤ (n676546 : Int))) ∨ (∃ (P676656 : List Nat) (F676657 : Nat → va_E) (o676652 : Int32) (q676653 : Nat) (n676654 : Nat) (f676655 : Nat → Int32), r = some (.ref q676540) ∧ w = va_pl P676656 F676657 ∧ rSub P676538 P676656 ∧ rFr [q676540] P676538 F676539 F676657 ∧ F676657 q676540 = .inr (1, [.ref q676653, .int 0, .int p676543, .int o676652]) ∧ F676657 q676653 = .inl (I .byte, n676654, .inl f676655) ∧ q676653 ∈ P676656 ∧ q676653 ∉ P676538 ∧ dc ≤ (min 1 (n676654 - n676546)) ∧ ds ≤ 2 * (n676654 - n676546) ∧ gB o676652 1 16777216 ∧ gF f676655 (-128) 127 ∧ p676544.toInt ≤ o676652.toInt ∧ o676652.toInt ≤ p676544.toInt + 11 ∧ o676652.toInt ≤ (n676654 : Int) ∧ (n676546 : Int) ≤ (n676654 : Int) ∧ ((n676654 : Int) ≤ 2 * (n676546 : Int) + 2 ∨ (n676654 : Int) ≤ p676544.toInt + 11) ∧ ((n676654 : Int) = (n676546 : Int) ∨ (n676546 : Int) < o676652.toInt) ∧ ((n676654 : Int) = (n676546 : Int) ∨ 2 * (n676546 : Int) + 2 ≤ (n676654 : Int)))
set_option maxRecDepth 100000 in
set_option maxHeartbeats 4000000 in
theorem cp_676550_AbstractStringBuilder_append (l : Launch) (hl0 : l.stackTraces = false) (D : va_G) (I : FieldType → ClassId) (P676538 : List Nat) (F676539 : Nat → va_E) (q676540 : Nat) (q676541 : Nat) (p676542 : Int32) (p676543 : Int32) (p676544 : Int32) (f676545 : Nat → Int32) (n676546 : Nat) (hmq676540 : q676540 ∈ P676538) (hmq676541 : q676541 ∈ P676538) (heq676540 : F676539 q676540 = .inr (1, [.ref q676541, .int 0, .int p676543, .int p676544])) (heq676541 : F676539 q676541 = .inl (I .byte, n676546, .inl f676545)) (bp676543 : gB p676543 0 1) (bp676544 : gB p676544 0 16777216) (bf676545 : gF f676545 (-128) 127) (x676547 : (n676546 : Int) ≤ 8388608 - 100000) (x676548 : p676544.toInt ≤ (n676546 : Int)) (x676549 : ((n676546 : Int) ≤ 16777216)) : CtA (gV D I) l yJ5_append_c97b9 cJ5_append_c97b9 4 (some (FieldType.object "java/lang/AbstractStringBuilder")) 4 84 1 (4 * n676546 + 64) [.ref q676540, .int p676542] (va_pl P676538 F676539) (pp_676550_AbstractStringBuilder_append D I P676538 F676539 q676540 q676541 p676542 p676543 p676544 f676545 n676546) gNA := by
  refine CtA_ofF hl0 (by decide +kernel) (Nat.le_of_ble_eq_true rfl) ?_
  have bp676542 := gB_any p676542
  refine G_aload_n 0 dr_cJ5_append_c97b9_0 rfl ?_
  refine Gp_get 3 hmq676540 heq676540 dr_cJ5_append_c97b9_1 (gk_J4 D I) (Nat.le_of_ble_eq_true rfl) wr_7_64 rfl ?_
  refine G_istore_n (L' := [(2, .int p676544), (0, .ref q676540), (1, .int p676542)]) dr_cJ5_append_c97b9_4 (Nat.le_of_ble_eq_true rfl) rfl ?_
  refine G_iload_n 0 dr_cJ5_append_c97b9_5 rfl ?_
  refine G_iload_n 2 dr_cJ5_append_c97b9_6 rfl ?_
  refine Gw_callS (As := [.int p676542]) (gV_ok D I) (cp_666646_Integer_stringSize l hl0 D I P676538 F676539 p676542 ) dr_cJ5_append_c97b9_7 ⟨wr_8_112, wr_1_35, wr_8_114, by decide, rfl, (Nat.le_of_ble_eq_true rfl), (Nat.le_of_ble_eq_true rfl)⟩ wr_8_113 (show 0 + 0 ≤ 1 by first | omega | decide) (show 0 + 0 ≤ (4 * n676546 + 64) by first | omega | decide) (Nat.le_of_ble_eq_true rfl) (fun r676554 w676555 dc676551 ds676552 hp676553 => ?_) (fun _ _ _ _ _ z => z.elim)
  obtain ⟨o676556, rfl, rfl, hdc, hds, bo676556, x676557, ht676558⟩ := hp676553
  change G _ _ _ _ _ _ _ (.int o676556 :: _) _ _ _
  refine G_widen (cs' := 0) (sl' := 0) (by omega) (by omega) ?_
  refine G_iadd dr_cJ5_append_c97b9_10 (G_nam fun z676559 hz676559 => ?_)
  have ez676559 : z676559.toInt = p676544.toInt + o676556.toInt := by rw [gI_add hz676559 bp676544 bo676556 (by decide) (by decide)]
  have bz676559 : gB z676559 1 16777227 := gB_add (gI_add hz676559 bp676544 bo676556 (by decide) (by decide)) bp676544 bo676556 (by decide) (by decide)
  refine G_istore_n (L' := [(3, .int z676559), (2, .int p676544), (0, .ref q676540), (1, .int p676542)]) dr_cJ5_append_c97b9_11 (Nat.le_of_ble_eq_true rfl) rfl ?_
  refine G_aload_n 2 dr_cJ5_append_c97b9_12 rfl ?_
  refine G_iload_n 0 dr_cJ5_append_c97b9_13 rfl ?_
  refine Gw_callVB (As := [.int z676559]) (gV_ok D I) (cp_676310_AbstractStringBuilder_ensureCapacityInternal l hl0 D I P676538 F676539 q676540 q676541 z676559 p676543 p676544 f676545 n676546 hmq676540 hmq676541 heq676540 heq676541 ⟨by omega, by omega⟩ bp676543 bp676544 bf676545 (by have qa0 : Int32.toInt 0 = 0 := (by decide); omega) (by have qa0 : Int32.toInt 0 = 0 := (by decide); omega)) dr_cJ5_append_c97b9_14 ⟨wr_8_4, wr_1_19, wr_8_7, by decide, rfl, (Nat.le_of_ble_eq_true rfl), (Nat.le_of_ble_eq_true rfl)⟩ wr_8_6 wr_s_0 hmq676540 heq676540 rfl (show 0 + 1 ≤ 1 by first | omega | decide) (show 0 + (2 * n676546 + 2 + z676559.toInt.toNat) ≤ (4 * n676546 + 64) by first | omega | decide) (Nat.le_of_ble_eq_true rfl) (fun r676563 w676564 dc676560 ds676561 hp676562 => ?_) (fun _ _ _ _ _ z => z.elim)
  rcases hp676562 with hp676565 | hp676566
  · obtain ⟨rfl, rfl, hdc, hds, x676567, x676568, x676569, x676570, x676571, x676572⟩ := hp676565
    change G _ _ _ _ _ _ _ _ _ _ _
    refine G_widen (cs' := 0) (sl' := 0) (by omega) (by omega) ?_
    refine G_aload_n 2 dr_cJ5_append_c97b9_17 rfl ?_
    refine Gw_callVB (As := []) (gV_ok D I) (cp_657792_AbstractStringBuilder_isLatin1 l hl0 D I P676538 F676539 q676540 q676541 p676543 p676544 f676545 n676546 hmq676540 hmq676541 heq676540 heq676541 bp676543 bp676544 bf676545 (by have qa0 : Int32.toInt 0 = 0 := (by decide); omega)) dr_cJ5_append_c97b9_18 ⟨wr_8_33, wr_1_19, wr_8_37, by decide, rfl, (Nat.le_of_ble_eq_true rfl), (Nat.le_of_ble_eq_true rfl)⟩ wr_8_34 wr_8_36 hmq676540 heq676540 rfl (show 0 + 0 ≤ 1 by first | omega | decide) (show 0 + 0 ≤ (4 * n676546 + 64) by first | omega | decide) (Nat.le_of_ble_eq_true rfl) (fun r676576 w676577 dc676573 ds676574 hp676575 => ?_) (fun _ _ _ _ _ z => z.elim)
    obtain ⟨rfl, rfl, hdc, hds⟩ := hp676575
    change G _ _ _ _ _ _ _ (.int 1 :: _) _ _ _
    refine G_widen (cs' := 0) (sl' := 0) (by omega) (by omega) ?_
    refine G_if_eq 37 dr_cJ5_append_c97b9_21 (by decide +kernel) (fun hc => absurd hc (by decide)) (fun _ => ?_)
    refine G_iload_n 3 dr_cJ5_append_c97b9_24 rfl ?_
    refine G_iload_n 0 dr_cJ5_append_c97b9_25 rfl ?_
    refine G_aload_n 2 dr_cJ5_append_c97b9_26 rfl ?_
    refine Gp_get 0 hmq676540 heq676540 dr_cJ5_append_c97b9_27 (gk_J4 D I) (Nat.le_of_ble_eq_true rfl) wr_7_60 rfl ?_
    refine Gw_callS (As := [.int p676542, .int z676559, .ref q676541]) (gV_ok D I) (cp_666829_Integer_getChars l hl0 D I P676538 F676539 q676541 p676542 z676559 f676545 n676546 hmq676541 heq676541 ⟨by omega, by omega⟩ bf676545 (by have qa0 : Int32.toInt 0 = 0 := (by decide); omega) (by have q10 : Int32.toInt 10 = 10 := (by decide); have q11 : Int32.toInt 11 = 11 := (by decide); first | exact dgS_up (by omega) (by omega) x676557 (by omega)) (by have qa0 : Int32.toInt 0 = 0 := (by decide); omega)) dr_cJ5_append_c97b9_30 ⟨wr_8_115, wr_1_35, wr_8_117, by decide, rfl, (Nat.le_of_ble_eq_true rfl), (Nat.le_of_ble_eq_true rfl)⟩ wr_8_116 (show 0 + 0 ≤ 1 by first | omega | decide) (show 0 + 0 ≤ (4 * n676546 + 64) by first | omega | decide) (Nat.le_of_ble_eq_true rfl) (fun r676581 w676582 dc676578 ds676579 hp676580 => ?_) (fun _ _ _ _ _ z => z.elim)
    obtain ⟨F676586, o676583, f676584, rfl, rfl, hfr676588, he676589, hdc, hds, bo676583, bf676584, ht676585⟩ := hp676580
    have he676590 : F676586 q676540 = .inr (1, [.ref q676541, .int 0, .int p676543, .int p676544]) := (hfr676588 q676540 hmq676540 (nm_c (rn_oa heq676540 heq676541) nm_n)).trans heq676540
    have hfr676591 : rFr [q676541] P676538 F676539 F676586 := rFr_call (rSub_rf (P := P676538)) (rFr_rf (W := []) (P := P676538) (F := F676539)) hfr676588 (fun b hb hn => ⟨nm_n, (nm_c (fun e => hn (e ▸ List.mem_cons_self)) nm_n)⟩)
    change G _ _ _ _ _ _ _ (.int o676583 :: _) _ _ _
    refine G_widen (cs' := 0) (sl' := 0) (by omega) (by omega) ?_
    refine G_pop dr_cJ5_append_c97b9_33 rfl ?_
    refine G_goto 48 dr_cJ5_append_c97b9_34 (by decide +kernel) ?_
    refine G_aload_n 2 dr_cJ5_append_c97b9_48 rfl ?_
    refine G_iload_n 0 dr_cJ5_append_c97b9_49 rfl ?_
    refine Gp_put 3 hmq676540 he676590 dr_cJ5_append_c97b9_50 (gk_J4 D I) (Nat.le_of_ble_eq_true rfl) wr_7_64 rfl rfl rfl (Nat.le_of_ble_eq_true rfl) (fun F676592 e676593 n676594 => ?_)
    have he676595 : F676592 q676541 = .inl (I .byte, n676546, .inl f676584) := (n676594 q676541 (rn_ao he676589 he676590)).trans he676589
    have he676596 : F676592 q676540 = .inr (1, [.ref q676541, .int 0, .int p676543, .int z676559]) := e676593
    have hfr676597 : rFr [q676540, q676541] P676538 F676539 F676592 := rFr_put hfr676591 n676594
    refine G_aload_n 2 dr_cJ5_append_c97b9_53 rfl ?_
    exact G_aretA (FieldType.object "java/lang/AbstractStringBuilder") dr_cJ5_append_c97b9_54 rfl (by first | exact Or.inl ⟨_, rfl⟩ | exact Or.inr ⟨_, rfl⟩) (Or.inr ⟨_, rfl⟩) (Nat.le_of_ble_eq_true rfl) (Nat.le_of_ble_eq_true rfl) (Or.inl ⟨F676592, z676559, f676584, rfl, rfl, hfr676597, he676596, he676595, (Nat.le_of_ble_eq_true rfl), (Nat.le_of_ble_eq_true rfl), ⟨by omega, by omega⟩, bf676584, (by have qa0 : Int32.toInt 0 = 0 := (by decide); omega), (by have qa0 : Int32.toInt 0 = 0 := (by decide); omega), (by have qa0 : Int32.toInt 0 = 0 := (by decide); omega), (by have qa0 : Int32.toInt 0 = 0 := (by decide); omega), (by have qa0 : Int32.toInt 0 = 0 := (by decide); omega), (by have qa0 : Int32.toInt 0 = 0 := (by decide); omega), (by have qa0 : Int32.toInt 0 = 0 := (by decide); omega)⟩)
  · obtain ⟨P676607, F676608, q676598, n676599, f676600, rfl, rfl, hsb676609, hfr676610, he676611, he676612, hm676613, hq676614, hdc, hds, bf676600, x676601, x676602, x676603, x676604, x676605, x676606⟩ := hp676566
    have hm676615 : q676540 ∈ P676607 := hsb676609 q676540 hmq676540
    have hm676616 : q676541 ∈ P676607 := hsb676609 q676541 hmq676541
    have hq676617 : q676598 ∉ P676538 := fun z => hq676614 ((rSub_rf (P := P676538)) q676598 z)
    have hsb676618 : rSub P676538 P676607 := rSub_tr (rSub_rf (P := P676538)) hsb676609
    have he676619 : F676608 q676541 = .inl (I .byte, n676546, .inl f676545) := (hfr676610 q676541 hmq676541 (nm_c (rn_ao heq676541 heq676540) nm_n)).trans heq676541
    have hfr676620 : rFr [q676540] P676538 F676539 F676608 := rFr_call (rSub_rf (P := P676538)) (rFr_rf (W := []) (P := P676538) (F := F676539)) hfr676610 (fun b hb hn => ⟨nm_n, (nm_c (fun e => hn (e ▸ List.mem_cons_self)) nm_n)⟩)
    change G _ _ _ _ _ _ _ _ _ _ _
    refine G_widen (cs' := (min 1 (n676599 - n676546))) (sl' := 2 * (n676599 - n676546)) (by omega) (by omega) ?_
    refine G_aload_n 2 dr_cJ5_append_c97b9_17 rfl ?_
    refine Gw_callVB (As := []) (gV_ok D I) (cp_657792_AbstractStringBuilder_isLatin1 l hl0 D I P676607 F676608 q676540 q676598 p676543 p676544 f676600 n676599 hm676615 hm676613 he676611 he676612 bp676543 bp676544 bf676600 (by have qa0 : Int32.toInt 0 = 0 := (by decide); omega)) dr_cJ5_append_c97b9_18 ⟨wr_8_33, wr_1_19, wr_8_37, by decide, rfl, (Nat.le_of_ble_eq_true rfl), (Nat.le_of_ble_eq_true rfl)⟩ wr_8_34 wr_8_36 hm676615 he676611 rfl (show (min 1 (n676599 - n676546)) + 0 ≤ 1 by first | omega | decide) (show 2 * (n676599 - n676546) + 0 ≤ (4 * n676546 + 64) by first | omega | decide) (Nat.le_of_ble_eq_true rfl) (fun r676624 w676625 dc676621 ds676622 hp676623 => ?_) (fun _ _ _ _ _ z => z.elim)
    obtain ⟨rfl, rfl, hdc, hds⟩ := hp676623
    change G _ _ _ _ _ _ _ (.int 1 :: _) _ _ _
    refine G_widen (cs' := (min 1 (n676599 - n676546)) + 0) (sl' := 2 * (n676599 - n676546) + 0) (by omega) (by omega) ?_
    refine G_if_eq 37 dr_cJ5_append_c97b9_21 (by decide +kernel) (fun hc => absurd hc (by decide)) (fun _ => ?_)
    refine G_iload_n 3 dr_cJ5_append_c97b9_24 rfl ?_
    refine G_iload_n 0 dr_cJ5_append_c97b9_25 rfl ?_
    refine G_aload_n 2 dr_cJ5_append_c97b9_26 rfl ?_
    refine Gp_get 0 hm676615 he676611 dr_cJ5_append_c97b9_27 (gk_J4 D I) (Nat.le_of_ble_eq_true rfl) wr_7_60 rfl ?_
    refine Gw_callS (As := [.int p676542, .int z676559, .ref q676598]) (gV_ok D I) (cp_666829_Integer_getChars l hl0 D I P676607 F676608 q676598 p676542 z676559 f676600 n676599 hm676613 he676612 ⟨by omega, by omega⟩ bf676600 (by have qa0 : Int32.toInt 0 = 0 := (by decide); omega) (by have q10 : Int32.toInt 10 = 10 := (by decide); have q11 : Int32.toInt 11 = 11 := (by decide); first | exact dgS_up (by omega) (by omega) x676557 (by omega)) (by have qa0 : Int32.toInt 0 = 0 := (by decide); omega)) dr_cJ5_append_c97b9_30 ⟨wr_8_115, wr_1_35, wr_8_117, by decide, rfl, (Nat.le_of_ble_eq_true rfl), (Nat.le_of_ble_eq_true rfl)⟩ wr_8_116 (show (min 1 (n676599 - n676546)) + 0 + 0 ≤ 1 by first | omega | decide) (show 2 * (n676599 - n676546) + 0 + 0 ≤ (4 * n676546 + 64) by first | omega | decide) (Nat.le_of_ble_eq_true rfl) (fun r676629 w676630 dc676626 ds676627 hp676628 => ?_) (fun _ _ _ _ _ z => z.elim)
    obtain ⟨F676634, o676631, f676632, rfl, rfl, hfr676636, he676637, hdc, hds, bo676631, bf676632, ht676633⟩ := hp676628
    have he676638 : F676634 q676541 = .inl (I .byte, n676546, .inl f676545) := (hfr676636 q676541 hm676616 (nm_c (fun h => hq676617 (h ▸ hmq676541)) nm_n)).trans he676619
    have he676639 : F676634 q676540 = .inr (1, [.ref q676598, .int 0, .int p676543, .int p676544]) := (hfr676636 q676540 hm676615 (nm_c (fun h => hq676617 (h ▸ hmq676540)) nm_n)).trans he676611
    have hfr676640 : rFr [q676540] P676538 F676539 F676634 := rFr_call hsb676618 hfr676620 hfr676636 (fun b hb hn => ⟨(nm_c (fun e => hn (e ▸ List.mem_cons_self)) nm_n), (nm_c (fun e => hq676617 (e ▸ hb)) nm_n)⟩)
    change G _ _ _ _ _ _ _ (.int o676631 :: _) _ _ _
    refine G_widen (cs' := (min 1 (n676599 - n676546)) + 0 + 0) (sl' := 2 * (n676599 - n676546) + 0 + 0) (by omega) (by omega) ?_
    refine G_pop dr_cJ5_append_c97b9_33 rfl ?_
    refine G_goto 48 dr_cJ5_append_c97b9_34 (by decide +kernel) ?_
    refine G_aload_n 2 dr_cJ5_append_c97b9_48 rfl ?_
    refine G_iload_n 0 dr_cJ5_append_c97b9_49 rfl ?_
    refine Gp_put 3 hm676615 he676639 dr_cJ5_append_c97b9_50 (gk_J4 D I) (Nat.le_of_ble_eq_true rfl) wr_7_64 rfl rfl rfl (Nat.le_of_ble_eq_true rfl) (fun F676641 e676642 n676643 => ?_)
    have he676644 : F676641 q676541 = .inl (I .byte, n676546, .inl f676545) := (n676643 q676541 (rn_ao he676638 he676639)).trans he676638
    have he676645 : F676641 q676598 = .inl (I .byte, n676599, .inl f676632) := (n676643 q676598 (fun h => hq676617 (h ▸ hmq676540))).trans he676637
    have he676646 : F676641 q676540 = .inr (1, [.ref q676598, .int 0, .int p676543, .int z676559]) := e676642
    have hfr676647 : rFr [q676540] P676538 F676539 F676641 := rFr_put' List.mem_cons_self hfr676640 n676643
    refine G_aload_n 2 dr_cJ5_append_c97b9_53 rfl ?_
    exact G_aretA (FieldType.object "java/lang/AbstractStringBuilder") dr_cJ5_append_c97b9_54 rfl (by first | exact Or.inl ⟨_, rfl⟩ | exact Or.inr ⟨_, rfl⟩) (Or.inr ⟨_, rfl⟩) (show (min 1 (n676599 - n676546)) + 0 + 0 ≤ 1 by omega) (show 2 * (n676599 - n676546) + 0 + 0 ≤ (4 * n676546 + 64) by omega) (Or.inr (⟨P676607, F676641, z676559, q676598, n676599, f676632, rfl, rfl, hsb676618, hfr676647, he676646, he676645, hm676613, hq676617, (by omega), (by omega), ⟨by omega, by omega⟩, bf676632, (by have qa0 : Int32.toInt 0 = 0 := (by decide); omega), (by have qa0 : Int32.toInt 0 = 0 := (by decide); omega), (by have qa0 : Int32.toInt 0 = 0 := (by decide); omega), (by have qa0 : Int32.toInt 0 = 0 := (by decide); omega), (by have qa0 : Int32.toInt 0 = 0 := (by decide); omega), (by have qa0 : Int32.toInt 0 = 0 := (by decide); omega), (by have qa0 : Int32.toInt 0 = 0 := (by decide); omega)⟩))
