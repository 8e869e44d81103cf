theorem dr_cX17_input_30 : decode cX17_input 30 = .ok (.iload_n 2, 1) := by decide +kernel
theorem dr_cX17_input_31 : decode cX17_input 31 = .ok (.iconst 4, 1) := by decide +kernel
theorem dr_cX17_input_32 : decode cX17_input 32 = .ok (.if_icmp .ge 39, 3) := by decide +kernel
theorem dr_cX17_input_35 : decode cX17_input 35 = .ok (.aload_n 0, 1) := by decide +kernel
theorem dr_cX17_input_36 : decode cX17_input 36 = .ok (.getfield 303, 3) := by decide +kernel
theorem dr_cX17_input_39 : decode cX17_input 39 = .ok (.iload_n 1, 1) := by decide +kernel
theorem dr_cX17_input_40 : decode cX17_input 40 = .ok (.aload_n 0, 1) := by decide +kernel
theorem dr_cX17_input_41 : decode cX17_input 41 = .ok (.getfield 303, 3) := by decide +kernel
theorem dr_cX17_input_44 : decode cX17_input 44 = .ok (.iload_n 1, 1) := by decide +kernel
theorem dr_cX17_input_45 : decode cX17_input 45 = .ok (.iaload, 1) := by decide +kernel
theorem dr_cX17_input_46 : decode cX17_input 46 = .ok (.bipush 8, 2) := by decide +kernel
theorem dr_cX17_input_48 : decode cX17_input 48 = .ok (.ishl, 1) := by decide +kernel
theorem dr_cX17_input_49 : decode cX17_input 49 = .ok (.aload_n 0, 1) := by decide +kernel
theorem dr_cX17_input_50 : decode cX17_input 50 = .ok (.getfield 374, 3) := by decide +kernel
theorem dr_cX17_input_53 : decode cX17_input 53 = .ok (.iconst 4, 1) := by decide +kernel
theorem dr_cX17_input_54 : decode cX17_input 54 = .ok (.iload_n 1, 1) := by decide +kernel
theorem dr_cX17_input_55 : decode cX17_input 55 = .ok (.imul, 1) := by decide +kernel
theorem dr_cX17_input_56 : decode cX17_input 56 = .ok (.iload_n 2, 1) := by decide +kernel
theorem dr_cX17_input_57 : decode cX17_input 57 = .ok (.iadd, 1) := by decide +kernel
theorem dr_cX17_input_58 : decode cX17_input 58 = .ok (.baload, 1) := by decide +kernel
theorem dr_cX17_input_59 : decode cX17_input 59 = .ok (.sipush 255, 3) := by decide +kernel
theorem dr_cX17_input_62 : decode cX17_input 62 = .ok (.iand, 1) := by decide +kernel
theorem dr_cX17_input_63 : decode cX17_input 63 = .ok (.ior, 1) := by decide +kernel
theorem dr_cX17_input_64 : decode cX17_input 64 = .ok (.iastore, 1) := by decide +kernel
theorem dr_cX17_input_65 : decode cX17_input 65 = .ok (.iinc 2 1, 3) := by decide +kernel
theorem dr_cX17_input_68 : decode cX17_input 68 = .ok (.goto (-38), 3) := by decide +kernel
theorem dr_cX17_input_19 : decode cX17_input 19 = .ok (.iload_n 1, 1) := by decide +kernel
theorem dr_cX17_input_20 : decode cX17_input 20 = .ok (.aload_n 0, 1) := by decide +kernel
theorem dr_cX17_input_21 : decode cX17_input 21 = .ok (.getfield 303, 3) := by decide +kernel
theorem dr_cX17_input_24 : decode cX17_input 24 = .ok (.arraylength, 1) := by decide +kernel
theorem dr_cX17_input_25 : decode cX17_input 25 = .ok (.if_icmp .ge 52, 3) := by decide +kernel
theorem dr_cX17_input_28 : decode cX17_input 28 = .ok (.iconst 0, 1) := by decide +kernel
theorem dr_cX17_input_29 : decode cX17_input 29 = .ok (.istore_n 2, 1) := by decide +kernel
theorem dr_cX17_input_71 : decode cX17_input 71 = .ok (.iinc 1 1, 3) := by decide +kernel
theorem dr_cX17_input_74 : decode cX17_input 74 = .ok (.goto (-55), 3) := by decide +kernel
theorem dr_cX17_input_0 : decode cX17_input 0 = .ok (.aload_n 0, 1) := by decide +kernel
theorem dr_cX17_input_1 : decode cX17_input 1 = .ok (.iconst 0, 1) := by decide +kernel
theorem dr_cX17_input_2 : decode cX17_input 2 = .ok (.putfield 380, 3) := by decide +kernel
theorem dr_cX17_input_5 : decode cX17_input 5 = .ok (.aload_n 0, 1) := by decide +kernel
theorem dr_cX17_input_6 : decode cX17_input 6 = .ok (.aload_n 0, 1) := by decide +kernel
theorem dr_cX17_input_7 : decode cX17_input 7 = .ok (.getfield 383, 3) := by decide +kernel
theorem dr_cX17_input_10 : decode cX17_input 10 = .ok (.iconst 4, 1) := by decide +kernel
theorem dr_cX17_input_11 : decode cX17_input 11 = .ok (.idiv, 1) := by decide +kernel
theorem dr_cX17_input_12 : decode cX17_input 12 = .ok (.newarray .int, 2) := by decide +kernel
theorem dr_cX17_input_14 : decode cX17_input 14 = .ok (.putfield 303, 3) := by decide +kernel
theorem dr_cX17_input_17 : decode cX17_input 17 = .ok (.iconst 0, 1) := by decide +kernel
theorem dr_cX17_input_18 : decode cX17_input 18 = .ok (.istore_n 1, 1) := by decide +kernel
theorem dr_cX17_input_77 : decode cX17_input 77 = .ok (.aload_n 0, 1) := by decide +kernel
theorem dr_cX17_input_78 : decode cX17_input 78 = .ok (.iconst 0, 1) := by decide +kernel
theorem dr_cX17_input_79 : decode cX17_input 79 = .ok (.putfield 383, 3) := by decide +kernel
theorem dr_cX17_input_82 : decode cX17_input 82 = .ok (.aload_n 0, 1) := by decide +kernel
theorem dr_cX17_input_83 : decode cX17_input 83 = .ok (.getfield 303, 3) := by decide +kernel
theorem dr_cX17_input_86 : decode cX17_input 86 = .ok (.arraylength, 1) := by decide +kernel
theorem dr_cX17_input_87 : decode cX17_input 87 = .ok (.ireturn, 1) := by decide +kernel
abbrev ky_inp : gKey := (cX17_input, 3, "SpillForgeModel", (some FieldType.int), [], "input", fun _ _ => True)
def inS (D : va_G) (I : FieldType → ClassId) (P0 : List Nat) (F0 : Nat → va_E) (γ0 el : Nat → Nat → Nat) (P : List Nat) (γ : Nat → Nat → Nat) (m A N : Nat) (e : va_E) (F : Nat → va_E) : Prop := rSk 0 [] [10, 26] D I P0 F0 γ0 el P F γ el ∧ F m = e ∧ A ∈ P ∧ γ 0 A = 26 ∧ ∃ f : Nat → Int32, F A = .inl (I .int, N, .inl f)
theorem inS_a {D : va_G} {I : FieldType → ClassId} {P0 P : List Nat} {F0 F F1 : Nat → va_E} {γ0 γ el : Nat → Nat → Nat} {m A N : Nat} {e : va_E} {f1 : Nat → Int32} (h : inS D I P0 F0 γ0 el P γ m A N e F) (hm : γ 0 m = 10) (hN : N ≤ 2048) (e1 : F1 A = .inl (I .int, N, .inl f1)) (n : ∀ b, b ≠ A → F1 b = F b) : inS D I P0 F0 γ0 el P γ m A N e F1 := by
  obtain ⟨h1, h2, h3, h4, -⟩ := h
  have hmA : m ≠ A := fun q => by rw [q, h4] at hm; cases hm
  exact ⟨rSk_put h1 (RS_set h1.1 n (show rKd γ A 26 from h4) (by decide) ⟨N, f1, e1, by omega⟩) n (show rKd γ A 26 from h4) (by decide) (fun _ z => nomatch z), (n m hmA).trans h2, h3, h4, f1, e1⟩
set_option maxRecDepth 100000 in
set_option maxHeartbeats 4000000 in
theorem in_l2 {l : Launch} {D : va_G} {I : FieldType → ClassId} {P0 P : List Nat} {F0 : Nat → va_E} {γ0 γ el : Nat → Nat → Nat} {m A N cs sl mc ms : Nat} {Qf : gFin} {r35 : Nat} {v9 v10 v11 v12 v13 v14 v23 v24 v25 v26 v27 v30 v32 v33 v34 i : Int32} (hm : γ 0 m = 10) (t25 : γ 0 (γ 9 31) = 25) (hN : N ≤ 2048) (hi0 : 0 ≤ i.toInt) (hiN : i.toInt < (N : Int))
    (kk : ∀ (F : Nat → va_E) (jj : Int32), inS D I P0 F0 γ0 el P γ m A N (mdE γ A r35 v9 v10 v11 v12 v13 v14 v23 v24 v25 v26 v27 v30 v32 v33 v34) F → G (gV D I) l (gRm 1 20 mc ms) Qf ky_inp 71 [(2, .int jj), (1, .int i), (0, .ref m)] [] (va_pl P F) cs sl) :
    ∀ (μ : Nat) (F : Nat → va_E) (jj : Int32), 4 - jj.toInt < (μ : Int) → 0 ≤ jj.toInt → jj.toInt ≤ 4 → inS D I P0 F0 γ0 el P γ m A N (mdE γ A r35 v9 v10 v11 v12 v13 v14 v23 v24 v25 v26 v27 v30 v32 v33 v34) F →
    G (gV D I) l (gRm 1 20 mc ms) Qf ky_inp 30 [(2, .int jj), (1, .int i), (0, .ref m)] [] (va_pl P F) cs sl := by
  intro μ
  induction μ with
  | zero => intro F jj h h0 h4 _; exact absurd h (by omega)
  | succ μ ih =>
  intro F jj hμ h0 h4 hS
  obtain ⟨hk, he, mA, kA, fA, eA⟩ := id hS
  have mm : m ∈ P := hk.1.1 m (by omega)
  obtain ⟨ft, f1, f2⟩ := show rk_25 I (F (γ 9 31)) from RS_o hk.1 t25
  have mt : γ 9 31 ∈ P := hk.1.1 _ (by omega)
  refine G_iload_n 0 dr_cX17_input_30 rfl ?_
  refine G_iconst 4 dr_cX17_input_31 (by decide +kernel) ?_
  have z4 : Int32.toInt 4 = 4 := by decide
  refine G_icmp_ge 71 dr_cX17_input_32 (by decide +kernel) (fun _ => kk F jj hS) (fun hc => ?_)
  have hlt : jj.toInt < 4 := gj_nle hc rfl
  refine G_aload_n 2 dr_cX17_input_35 rfl ?_
  refine Gp_get 28 mm he dr_cX17_input_36 (gk_X17 D I) (Nat.le_of_ble_eq_true rfl) wr_7_102 rfl ?_
  refine G_iload_n 1 dr_cX17_input_39 rfl ?_
  refine G_aload_n 2 dr_cX17_input_40 rfl ?_
  refine Gp_get 28 mm he dr_cX17_input_41 (gk_X17 D I) (Nat.le_of_ble_eq_true rfl) wr_7_102 rfl ?_
  refine G_iload_n 1 dr_cX17_input_44 rfl ?_
  refine Gp_iald 0 mA eA dr_cX17_input_45 rfl (gB_inr hi0 hiN) (G_nam fun z1 _ => ?_)
  refine G_bipush 8 dr_cX17_input_46 (by decide +kernel) ?_
  refine G_ishl dr_cX17_input_48 (G_nam fun z2 _ => ?_)
  refine G_aload_n 2 dr_cX17_input_49 rfl ?_
  refine Gp_get 31 mm he dr_cX17_input_50 (gk_X17 D I) (Nat.le_of_ble_eq_true rfl) wr_7_105 rfl ?_
  refine G_iconst 4 dr_cX17_input_53 (by decide +kernel) ?_
  refine G_iload_n 1 dr_cX17_input_54 rfl ?_
  refine G_imul dr_cX17_input_55 (G_nam fun z3 hz3 => ?_)
  have bi : gB i 0 2048 := ⟨hi0, by omega⟩
  have e3 : z3.toInt = 4 * i.toInt := by rw [gI_mul hz3 (gBl z4) bi (by decide) (by decide) (by decide), z4]
  refine G_iload_n 0 dr_cX17_input_56 rfl ?_
  refine G_iadd dr_cX17_input_57 (G_nam fun z5 hz5 => ?_)
  have e5 : z5.toInt = z3.toInt + jj.toInt := gI_add hz5 (⟨by omega, by omega⟩ : gB z3 0 8192) (⟨h0, h4⟩ : gB jj 0 4) (by decide) (by decide)
  refine Gp_bald 1 mt f1 dr_cX17_input_58 rfl (gB_inr (by omega) (by omega)) (G_nam fun z6 _ => ?_)
  refine G_sipush 255 dr_cX17_input_59 (by decide +kernel) ?_
  refine G_iand dr_cX17_input_62 (G_nam fun z7 _ => ?_)
  refine G_ior dr_cX17_input_63 (G_nam fun z8 _ => ?_)
  refine Gp_iast 0 mA eA dr_cX17_input_64 rfl (gB_inr hi0 hiN) (fun F1 e1 n1 => ?_)
  have hS1 := inS_a hS hm hN e1 n1
  obtain ⟨j1, hj1⟩ : ∃ z, z = jj + 1 := ⟨_, rfl⟩
  have ej : j1.toInt = jj.toInt + 1 := by rw [gI_add hj1 (⟨h0, h4⟩ : gB jj 0 4) (gBl (show Int32.toInt 1 = 1 by decide)) (by decide) (by decide), show Int32.toInt 1 = 1 from by decide]
  refine G_iinc (L' := [(2, .int j1), (1, .int i), (0, .ref m)]) j1 0 dr_cX17_input_65 rfl (by rw [hj1]; rfl) (Nat.le_of_ble_eq_true rfl) rfl ?_
  refine G_goto 30 dr_cX17_input_68 (by decide +kernel) ?_
  exact ih F1 j1 (by omega) (by omega) (by omega) hS1
set_option maxRecDepth 100000 in
set_option maxHeartbeats 4000000 in
theorem in_l1 {l : Launch} {D : va_G} {I : FieldType → ClassId} {P0 P : List Nat} {F0 : Nat → va_E} {γ0 γ el : Nat → Nat → Nat} {m A N cs sl mc ms : Nat} {Qf : gFin} {r35 : Nat} {v9 v10 v11 v12 v13 v14 v23 v24 v25 v26 v27 v30 v32 v33 v34 : Int32} (hm : γ 0 m = 10) (t25 : γ 0 (γ 9 31) = 25) (hN : N ≤ 2048)
    (kk : ∀ (F : Nat → va_E) (i : Int32), inS D I P0 F0 γ0 el P γ m A N (mdE γ A r35 v9 v10 v11 v12 v13 v14 v23 v24 v25 v26 v27 v30 v32 v33 v34) F → G (gV D I) l (gRm 1 20 mc ms) Qf ky_inp 77 [(1, .int i), (0, .ref m)] [] (va_pl P F) cs sl) :
    ∀ (μ : Nat) (F : Nat → va_E) (i : Int32), (N : Int) - i.toInt < (μ : Int) → 0 ≤ i.toInt → i.toInt ≤ (N : Int) → inS D I P0 F0 γ0 el P γ m A N (mdE γ A r35 v9 v10 v11 v12 v13 v14 v23 v24 v25 v26 v27 v30 v32 v33 v34) F →
    G (gV D I) l (gRm 1 20 mc ms) Qf ky_inp 19 [(1, .int i), (0, .ref m)] [] (va_pl P F) cs sl := by
  intro μ
  induction μ with
  | zero => intro F i h h0 h4 _; exact absurd h (by omega)
  | succ μ ih =>
  intro F i hμ h0 h4 hS
  obtain ⟨hk, he, mA, kA, fA, eA⟩ := id hS
  have mm : m ∈ P := hk.1.1 m (by omega)
  refine G_iload_n 0 dr_cX17_input_19 rfl ?_
  refine G_aload_n 1 dr_cX17_input_20 rfl ?_
  refine Gp_get 28 mm he dr_cX17_input_21 (gk_X17 D I) (Nat.le_of_ble_eq_true rfl) wr_7_102 rfl ?_
  refine Gp_alen (Int32.ofNat N) 0 mA eA dr_cX17_input_24 rfl rfl (G_nam fun z hz => ?_)
  have ez : z.toInt = (N : Nat) := gI_ofM hz (by omega)
  refine G_icmp_ge 77 dr_cX17_input_25 (by decide +kernel) (fun _ => kk F i hS) (fun hc => ?_)
  have hlt : i.toInt < z.toInt := gj_nle hc rfl
  refine G_iconst 0 dr_cX17_input_28 (by decide +kernel) ?_
  refine G_istore_n (L' := [(2, .int 0), (1, .int i), (0, .ref m)]) dr_cX17_input_29 (Nat.le_of_ble_eq_true rfl) rfl ?_
  have z0 : Int32.toInt 0 = 0 := by decide
  refine in_l2 hm t25 hN h0 (by omega) (fun F1 jj hS1 => ?_) 5 F 0 (by rw [z0]; decide) (by rw [z0]; decide) (by rw [z0]; decide) hS
  obtain ⟨i1, hi1⟩ : ∃ z, z = i + 1 := ⟨_, rfl⟩
  have ei : i1.toInt = i.toInt + 1 := by rw [gI_add hi1 (⟨h0, by omega⟩ : gB i 0 2048) (gBl (show Int32.toInt 1 = 1 by decide)) (by decide) (by decide), show Int32.toInt 1 = 1 from by decide]
  refine G_iinc (L' := [(1, .int i1), (2, .int jj), (0, .ref m)]) i1 1 dr_cX17_input_71 rfl (by rw [hi1]; rfl) (Nat.le_of_ble_eq_true rfl) rfl ?_
  refine G_goto 19 dr_cX17_input_74 (by decide +kernel) ?_
  refine G_lv [0, 2] rfl ?_
  exact ih F1 i1 (by omega) (by omega) (by omega) hS1
set_option maxRecDepth 100000 in
set_option maxHeartbeats 4000000 in
theorem cp_input (l : Launch) (hl0 : l.stackTraces = false) (D : va_G) (I : FieldType → ClassId) {P : List Nat} {F : Nat → va_E} {γ el : Nat → Nat → Nat} {m : Nat} (hT : RS D I P F γ el) (hm : γ 0 m = 10) :
    CtA (gV D I) l yX17_input cX17_input 3 (some FieldType.int) 1 20 1 2048 [.ref m] (va_pl P F) (inP D I P F γ el m) gNA := by
  refine CtA_of hl0 (by decide) (Nat.le_of_ble_eq_true rfl) ?_
  obtain ⟨r28, r35, v9, v10, v11, v12, v13, v14, v23, v24, v25, v26, v27, v30, v32, v33, v34, he, hM1, hK, hM2⟩ := rk10_m (show rk_10 γ (F m) from RS_o hT hm)
  have hM1' := hM1
  obtain ⟨q9, q10, q11, q14, q25, q26, q27, q32, q34⟩ := hM1
  have mm : m ∈ P := hT.1 m (by omega)
  have e32 : fI (F m) 32 = v32 := by rw [he]; rfl
  have e10 : fI (F m) 10 = v10 := by rw [he]; rfl
  have e9 : fI (F m) 9 = v9 := by rw [he]; rfl
  have t25 : γ 0 (γ 9 31) = 25 := hK.2.2.2.2.2.2.2.2.2.2.2.2.2.2.2.2.2.2.2.2.1
  refine G_aload_n 0 dr_cX17_input_0 rfl ?_
  refine G_iconst 0 dr_cX17_input_1 (by decide +kernel) ?_
  refine Gp_put 30 mm he dr_cX17_input_2 (gk_X17 D I) (Nat.le_of_ble_eq_true rfl) wr_7_104 rfl rfl rfl (Nat.le_of_ble_eq_true rfl) (fun F1 e1 n1 => ?_)
  have e1' : F1 m = mdE γ r28 r35 v9 v10 v11 v12 v13 v14 v23 v24 v25 v26 v27 0 v32 v33 v34 := e1
  have hT1 := RS_md hT hm n1 e1' hM1' hK hM2
  have hk1 := rSk_put (rSk_rf (f := 0) (K := []) (KF := [10, 26]) hT) hT1 n1 (show rKd γ m 10 from hm) (by decide) (fun _ z => nomatch z)
  refine G_aload_n 0 dr_cX17_input_5 rfl ?_
  refine G_aload_n 0 dr_cX17_input_6 rfl ?_
  refine Gp_get 32 mm e1' dr_cX17_input_7 (gk_X17 D I) (Nat.le_of_ble_eq_true rfl) wr_7_106 rfl ?_
  refine G_iconst 4 dr_cX17_input_10 (by decide +kernel) ?_
  refine G_idiv dr_cX17_input_11 (by decide) (G_nam fun z hz => ?_)
  have ez : z.toInt = v32.toInt / 4 := gI_div hz q32 (by decide) (by decide) (by decide)
  have q32a := q32.1
  have q32b := q32.2
  have hz0 : 0 ≤ z.toInt := by omega
  have hz1 : z.toInt ≤ 2048 := by omega
  refine G_newa 0 (z.toInt.toNat, .inl (fun _ => 0)) dr_cX17_input_12 rfl rfl (by intro C h; cases h) wr_1_95 (fun _ => ga_int _ _) (g_n0 (by omega)) rfl (show z.toInt.toNat * 4 ≤ 536870912 by omega) (show 0 + 1 ≤ 1 by decide) (show 0 + z.toInt.toNat ≤ 2048 by omega) (fun A => Gp_in (fun P2 F2 hq hP e2 n2 => ?_))
  have hs2 : rSub P P2 := rSub_new (rSub_rf (P := P)) hP
  have A0 : γ 0 A = 0 := RS_new hT hq
  have mA2 : A ∈ P2 := (hP A).mpr (Or.inr rfl)
  have hN : z.toInt.toNat ≤ 2048 := by omega
  have sk2 : rSk 0 [] [10, 26] D I P F1 γ el P2 F2 (gNw γ A 26) el := rSk_nw hT1 hq hs2 mA2 n2 ⟨z.toInt.toNat, fun _ => 0, e2, by omega⟩
  have hk2 := rSk_tr hk1 sk2 (fun _ z => nomatch z) (fun _ z => z) (fun _ z => nomatch z)
  have hmA : m ≠ A := fun e => by rw [e, A0] at hm; cases hm
  have hm2 : gNw γ A 26 0 m = 10 := (gNw_ne hmA).trans hm
  have g9 : gNw γ A 26 9 = γ 9 := gNw_j (by decide)
  have e2m : F2 m = mdE (gNw γ A 26) r28 r35 v9 v10 v11 v12 v13 v14 v23 v24 v25 v26 v27 0 v32 v33 v34 := (n2 m hmA).trans e1'
  have mm2 := hs2 m mm
  have kA : gNw γ A 26 0 A = 26 := if_pos ⟨rfl, rfl⟩
  have hM2' : rM2 (gNw γ A 26) v9 v10 v34 r35 := by
    unfold rM2
    rw [gNw_j (j := 6) (by decide), gNw_j (j := 23) (by decide), gNw_j (j := 12) (by decide)]
    exact hM2
  refine Gp_put 28 mm2 e2m dr_cX17_input_14 (gk_X17 D I) (Nat.le_of_ble_eq_true rfl) wr_7_102 rfl rfl rfl (Nat.le_of_ble_eq_true rfl) (fun F3 e3 n3 => ?_)
  have e3' : F3 m = mdE (gNw γ A 26) A r35 v9 v10 v11 v12 v13 v14 v23 v24 v25 v26 v27 0 v32 v33 v34 := e3
  have hK3 := mdK_nw A0 hK
  have hT3 := RS_md hk2.1 hm2 n3 e3' hM1' hK3 hM2'
  have hk3 := rSk_put hk2 hT3 n3 (show rKd (gNw γ A 26) m 10 from hm2) (by decide) (fun _ z => nomatch z)
  have t25' : gNw γ A 26 0 (gNw γ A 26 9 31) = 25 := hK3.2.2.2.2.2.2.2.2.2.2.2.2.2.2.2.2.2.2.2.2.1
  have hS3 : inS D I P F γ el P2 (gNw γ A 26) m A z.toInt.toNat (mdE (gNw γ A 26) A r35 v9 v10 v11 v12 v13 v14 v23 v24 v25 v26 v27 0 v32 v33 v34) F3 := ⟨hk3, e3', mA2, kA, fun _ => 0, (n3 A (Ne.symm hmA)).trans e2⟩
  refine G_iconst 0 dr_cX17_input_17 (by decide +kernel) ?_
  refine G_istore_n (L' := [(1, .int 0), (0, .ref m)]) dr_cX17_input_18 (Nat.le_of_ble_eq_true rfl) rfl ?_
  have z0 : Int32.toInt 0 = 0 := by decide
  refine in_l1 hm2 t25' hN (fun F4 i hS4 => ?_) (z.toInt.toNat + 1) F3 0 (by rw [z0]; omega) (by rw [z0]; decide) (by rw [z0]; omega) hS3
  obtain ⟨hk4, he4, -, -, fA, eA4⟩ := id hS4
  refine G_aload_n 1 dr_cX17_input_77 rfl ?_
  refine G_iconst 0 dr_cX17_input_78 (by decide +kernel) ?_
  refine Gp_put 32 mm2 he4 dr_cX17_input_79 (gk_X17 D I) (Nat.le_of_ble_eq_true rfl) wr_7_106 rfl rfl rfl (Nat.le_of_ble_eq_true rfl) (fun F5 e5 n5 => ?_)
  have e5' : F5 m = mdE (gNw γ A 26) A r35 v9 v10 v11 v12 v13 v14 v23 v24 v25 v26 v27 0 0 v33 v34 := e5
  have hT5 := RS_md hk4.1 hm2 n5 e5' ⟨q9, q10, q11, q14, q25, q26, q27, ⟨by decide, by decide⟩, q34⟩ hK3 hM2'
  have hk5 := rSk_put hk4 hT5 n5 (show rKd (gNw γ A 26) m 10 from hm2) (by decide) (fun _ z => nomatch z)
  refine G_aload_n 1 dr_cX17_input_82 rfl ?_
  refine Gp_get 28 mm2 e5' dr_cX17_input_83 (gk_X17 D I) (Nat.le_of_ble_eq_true rfl) wr_7_102 rfl ?_
  refine Gp_alen (Int32.ofNat z.toInt.toNat) 0 mA2 ((n5 A (Ne.symm hmA)).trans eA4) dr_cX17_input_86 rfl rfl (G_nam fun x hx => ?_)
  exact G_iretA dr_cX17_input_87 rfl (show 0 + 1 ≤ 1 by decide) (show 0 + z.toInt.toNat ≤ 2048 by omega) ⟨P2, F5, gNw γ A 26, x, rfl, rfl, hk5, fun j hj => gNw_j hj, by rw [e5', e9]; rfl, by rw [e5', e10]; rfl, by rw [e5']; rfl, by omega, by rw [e32]; omega⟩
