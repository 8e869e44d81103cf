theorem dr_cX17_input_30 : decode cX17_input 30 = .ok (.iload_n 2, 1) := by decide +kernel
theorem dr_cX17_input_31 : decode cX17_input 31 = .ok (.iconst 4, 1) := by decide +kernel
theorem dr_cX17_input_32 : decode cX17_input 32 = .ok (.if_icmp .ge 39, 3) := by decide +kernel
theorem dr_cX17_input_35 : decode cX17_input 35 = .ok (.aload_n 0, 1) := by decide +kernel
theorem dr_cX17_input_36 : decode cX17_input 36 = .ok (.getfield 303, 3) := by decide +kernel
theorem dr_cX17_input_39 : decode cX17_input 39 = .ok (.iload_n 1, 1) := by decide +kernel
theorem dr_cX17_input_40 : decode cX17_input 40 = .ok (.aload_n 0, 1) := by decide +kernel
theorem dr_cX17_input_41 : decode cX17_input 41 = .ok (.getfield 303, 3) := by decide +kernel
theorem dr_cX17_input_44 : decode cX17_input 44 = .ok (.iload_n 1, 1) := by decide +kernel
theorem dr_cX17_input_45 : decode cX17_input 45 = .ok (.iaload, 1) := by decide +kernel
theorem dr_cX17_input_46 : decode cX17_input 46 = .ok (.bipush 8, 2) := by decide +kernel
theorem dr_cX17_input_48 : decode cX17_input 48 = .ok (.ishl, 1) := by decide +kernel
theorem dr_cX17_input_49 : decode cX17_input 49 = .ok (.aload_n 0, 1) := by decide +kernel
theorem dr_cX17_input_50 : decode cX17_input 50 = .ok (.getfield 374, 3) := by decide +kernel
theorem dr_cX17_input_53 : decode cX17_input 53 = .ok (.iconst 4, 1) := by decide +kernel
theorem dr_cX17_input_54 : decode cX17_input 54 = .ok (.iload_n 1, 1) := by decide +kernel
theorem dr_cX17_input_55 : decode cX17_input 55 = .ok (.imul, 1) := by decide +kernel
theorem dr_cX17_input_56 : decode cX17_input 56 = .ok (.iload_n 2, 1) := by decide +kernel
theorem dr_cX17_input_57 : decode cX17_input 57 = .ok (.iadd, 1) := by decide +kernel
theorem dr_cX17_input_58 : decode cX17_input 58 = .ok (.baload, 1) := by decide +kernel
theorem dr_cX17_input_59 : decode cX17_input 59 = .ok (.sipush 255, 3) := by decide +kernel
theorem dr_cX17_input_62 : decode cX17_input 62 = .ok (.iand, 1) := by decide +kernel
theorem dr_cX17_input_63 : decode cX17_input 63 = .ok (.ior, 1) := by decide +kernel
theorem dr_cX17_input_64 : decode cX17_input 64 = .ok (.iastore, 1) := by decide +kernel
theorem dr_cX17_input_65 : decode cX17_input 65 = .ok (.iinc 2 1, 3) := by decide +kernel
theorem dr_cX17_input_68 : decode cX17_input 68 = .ok (.goto (-38), 3) := by decide +kernel
theorem dr_cX17_input_19 : decode cX17_input 19 = .ok (.iload_n 1, 1) := by decide +kernel
theorem dr_cX17_input_20 : decode cX17_input 20 = .ok (.aload_n 0, 1) := by decide +kernel
theorem dr_cX17_input_21 : decode cX17_input 21 = .ok (.getfield 303, 3) := by decide +kernel
theorem dr_cX17_input_24 : decode cX17_input 24 = .ok (.arraylength, 1) := by decide +kernel
theorem dr_cX17_input_25 : decode cX17_input 25 = .ok (.if_icmp .ge 52, 3) := by decide +kernel
theorem dr_cX17_input_28 : decode cX17_input 28 = .ok (.iconst 0, 1) := by decide +kernel
theorem dr_cX17_input_29 : decode cX17_input 29 = .ok (.istore_n 2, 1) := by decide +kernel
theorem dr_cX17_input_71 : decode cX17_input 71 = .ok (.iinc 1 1, 3) := by decide +kernel
theorem dr_cX17_input_74 : decode cX17_input 74 = .ok (.goto (-55), 3) := by decide +kernel
theorem dr_cX17_input_0 : decode cX17_input 0 = .ok (.aload_n 0, 1) := by decide +kernel
theorem dr_cX17_input_1 : decode cX17_input 1 = .ok (.iconst 0, 1) := by decide +kernel
theorem dr_cX17_input_2 : decode cX17_input 2 = .ok (.putfield 380, 3) := by decide +kernel
theorem dr_cX17_input_5 : decode cX17_input 5 = .ok (.aload_n 0, 1) := by decide +kernel
theorem dr_cX17_input_6 : decode cX17_input 6 = .ok (.aload_n 0, 1) := by decide +kernel
theorem dr_cX17_input_7 : decode cX17_input 7 = .ok (.getfield 383, 3) := by decide +kernel
theorem dr_cX17_input_10 : decode cX17_input 10 = .ok (.iconst 4, 1) := by decide +kernel
theorem dr_cX17_input_11 : decode cX17_input 11 = .ok (.idiv, 1) := by decide +kernel
theorem dr_cX17_input_12 : decode cX17_input 12 = .ok (.newarray .int, 2) := by decide +kernel
theorem dr_cX17_input_14 : decode cX17_input 14 = .ok (.putfield 303, 3) := by decide +kernel
theorem dr_cX17_input_17 : decode cX17_input 17 = .ok (.iconst 0, 1) := by decide +kernel
theorem dr_cX17_input_18 : decode cX17_input 18 = .ok (.istore_n 1, 1) := by decide +kernel
theorem dr_cX17_input_77 : decode cX17_input 77 = .ok (.aload_n 0, 1) := by decide +kernel
theorem dr_cX17_input_78 : decode cX17_input 78 = .ok (.iconst 0, 1) := by decide +kernel
theorem dr_cX17_input_79 : decode cX17_input 79 = .ok (.putfield 383, 3) := by decide +kernel
theorem dr_cX17_input_82 : decode cX17_input 82 = .ok (.aload_n 0, 1) := by decide +kernel
theorem dr_cX17_input_83 : decode cX17_input 83 = .ok (.getfield 303, 3) := by decide +kernel
theorem dr_cX17_input_86 : decode cX17_input 86 = .ok (.arraylength, 1) := by decide +kernel
theorem dr_cX17_input_87 : decode cX17_input 87 = .ok (.ireturn, 1) := by decide +kernel
abbrev ky_inp : gKey := (cX17_input, 3, "SpillForgeModel", (some FieldType.int), [], "input", fun _ _ => True)
def inS (D : va_G) (I : FieldType → ClassId) (P0 : List Nat) (F0 : Nat → va_E) (γ0 el : Nat → Nat → Nat) (P : List Nat) (γ : Nat → Nat → Nat) (m A N : Nat) (e : va_E) (F : Nat → va_E) : Prop := rSk 0 [] [10, 26] D I P0 F0 γ0 el P F γ el ∧ F m = e ∧ A ∈ P ∧ γ 0 A = 26 ∧ ∃ f : Nat → Int32, F A = .inl (I .int, N, .inl f)
theorem inS_a {D : va_G} {I : FieldType → ClassId} {P0 P : List Nat} {F0 F F1 : Nat → va_E} {γ0 γ el : Nat → Nat → Nat} {m A N : Nat} {e : va_E} {f1 : Nat → Int32} (h : inS D I P0 F0 γ0 el P γ m A N e F) (hm : γ 0 m = 10) (hN : N ≤ 2048) (e1 : F1 A = .inl (I .int, N, .inl f1)) (n : ∀ b, b ≠ A → F1 b = F b) : inS D I P0 F0 γ0 el P γ m A N e F1 := by
  obtain ⟨h1, h2, h3, h4, -⟩ := h
  have hmA : m ≠ A := fun q => by rw [q, h4] at hm; cases hm
  exact ⟨rSk_put h1 (RS_set h1.1 n (show rKd γ A 26 from h4) (by decide) ⟨N, f1, e1, by omega⟩) n (show rKd γ A 26 from h4) (by decide) (fun _ z => nomatch z), (n m hmA).trans h2, h3, h4, f1, e1⟩
set_option maxRecDepth 100000 in
set_option maxHeartbeats 4000000 in
theorem in_l2 {l : Launch} {D : va_G} {I : FieldType → ClassId} {P0 P : List Nat} {F0 : Nat → va_E} {γ0 γ el : Nat → Nat → Nat} {m A N cs sl mc ms : Nat} {Qf : gFin} {r35 : Nat} {v9 v10 v11 v12 v13 v14 v23 v24 v25 v26 v27 v30 v32 v33 v34 i : Int32} (hm : γ 0 m = 10) (t25 : γ 0 (γ 9 31) = 25) (hN : N ≤ 2048) (hi0 : 0 ≤ i.toInt) (hiN : i.toInt < (N : Int))
    (kk : ∀ (F : Nat → va_E) (jj : Int32), inS D I P0 F0 γ0 el P γ m A N (mdE γ A r35 v9 v10 v11 v12 v13 v14 v23 v24 v25 v26 v27 v30 v32 v33 v34) F → G (gV D I) l (gRm 1 20 mc ms) Qf ky_inp 71 [(2, .int jj), (1, .int i), (0, .ref m)] [] (va_pl P F) cs sl) :
    ∀ (μ : Nat) (F : Nat → va_E) (jj : Int32), 4 - jj.toInt < (μ : Int) → 0 ≤ jj.toInt → jj.toInt ≤ 4 → inS D I P0 F0 γ0 el P γ m A N (mdE γ A r35 v9 v10 v11 v12 v13 v14 v23 v24 v25 v26 v27 v30 v32 v33 v34) F →
    G (gV D I) l (gRm 1 20 mc ms) Qf ky_inp 30 [(2, .int jj), (1, .int i), (0, .ref m)] [] (va_pl P F) cs sl := by
  intro μ
  induction μ with
  | zero => intro F jj h h0 h4 _; exact absurd h (by omega)
  | succ μ ih =>
  intro F jj hμ h0 h4 hS
  obtain ⟨hk, he, mA, kA, fA, eA⟩ := id hS
  have mm : m ∈ P := hk.1.1 m (by omega)
  obtain ⟨ft, f1, f2⟩ := show rk_25 I (F (γ 9 31)) from RS_o hk.1 t25
  have mt : γ 9 31 ∈ P := hk.1.1 _ (by omega)
  refine G_iload_n 0 dr_cX17_input_30 rfl ?_
  refine G_iconst 4 dr_cX17_input_31 (by decide +kernel) ?_
  have z4 : Int32.toInt 4 = 4 := by decide
  refine G_icmp_ge 71 dr_cX17_input_32 (by decide +kernel) (fun _ => kk F jj hS) (fun hc => ?_)
  have hlt : jj.toInt < 4 := gj_nle hc rfl
  refine G_aload_n 2 dr_cX17_input_35 rfl ?_
  refine Gp_get 28 mm he dr_cX17_input_36 (gk_X17 D I) (Nat.le_of_ble_eq_true rfl) wr_7_102 rfl ?_
  refine G_iload_n 1 dr_cX17_input_39 rfl ?_
  refine G_aload_n 2 dr_cX17_input_40 rfl ?_
  refine Gp_get 28 mm he dr_cX17_input_41 (gk_X17 D I) (Nat.le_of_ble_eq_true rfl) wr_7_102 rfl ?_
  refine G_iload_n 1 dr_cX17_input_44 rfl ?_
  refine Gp_iald 0 mA eA dr_cX17_input_45 rfl (gB_inr hi0 hiN) (G_nam fun z1 _ => ?_)
  refine G_bipush 8 dr_cX17_input_46 (by decide +kernel) ?_
  refine G_ishl dr_cX17_input_48 (G_nam fun z2 _ => ?_)
  refine G_aload_n 2 dr_cX17_input_49 rfl ?_
  refine Gp_get 31 mm he dr_cX17_input_50 (gk_X17 D I) (Nat.le_of_ble_eq_true rfl) wr_7_105 rfl ?_
  refine G_iconst 4 dr_cX17_input_53 (by decide +kernel) ?_
  refine G_iload_n 1 dr_cX17_input_54 rfl ?_
  refine G_imul dr_cX17_input_55 (G_nam fun z3 hz3 => ?_)
  have bi : gB i 0 2048 := ⟨hi0, by omega⟩
  have e3 : z3.toInt = 4 * i.toInt := by rw [gI_mul hz3 (gBl z4) bi (by decide) (by decide) (by decide), z4]
  refine G_iload_n 0 dr_cX17_input_56 rfl ?_
  refine G_iadd dr_cX17_input_57 (G_nam fun z5 hz5 => ?_)
  have e5 : z5.toInt = z3.toInt + jj.toInt := gI_add hz5 (⟨by omega, by omega⟩ : gB z3 0 8192) (⟨h0, h4⟩ : gB jj 0 4) (by decide) (by decide)
  refine Gp_bald 1 mt f1 dr_cX17_input_58 rfl (gB_inr (by omega) (by omega)) (G_nam fun z6 _ => ?_)
  refine G_sipush 255 dr_cX17_input_59 (by decide +kernel) ?_
  refine G_iand dr_cX17_input_62 (G_nam fun z7 _ => ?_)
  refine G_ior dr_cX17_input_63 (G_nam fun z8 _ => ?_)
  refine Gp_iast 0 mA eA dr_cX17_input_64 rfl (gB_inr hi0 hiN) (fun F1 e1 n1 => ?_)
  have hS1 := inS_a hS hm hN e1 n1
  obtain ⟨j1, hj1⟩ : ∃ z, z = jj + 1 := ⟨_, rfl⟩
  have ej : j1.toInt = jj.toInt + 1 := by rw [gI_add hj1 (⟨h0, h4⟩ : gB jj 0 4) (gBl (show Int32.toInt 1 = 1 by decide)) (by decide) (by decide), show Int32.toInt 1 = 1 from by decide]
  refine G_iinc (L' := [(2, .int j1), (1, .int i), (0, .ref m)]) j1 0 dr_cX17_input_65 rfl (by rw [hj1]; rfl) (Nat.le_of_ble_eq_true rfl) rfl ?_
  refine G_goto 30 dr_cX17_input_68 (by decide +kernel) ?_
  exact ih F1 j1 (by omega) (by omega) (by omega) hS1
set_option maxRecDepth 100000 in
set_option maxHeartbeats 4000000 in
theorem in_l1 {l : Launch} {D : va_G} {I : FieldType → ClassId} {P0 P : List Nat} {F0 : Nat → va_E} {γ0 γ el : Nat → Nat → Nat} {m A N cs sl mc ms : Nat} {Qf : gFin} {r35 : Nat} {v9 v10 v11 v12 v13 v14 v23 v24 v25 v26 v27 v30 v32 v33 v34 : Int32} (hm : γ 0 m = 10) (t25 : γ 0 (γ 9 31) = 25) (hN : N ≤ 2048)
    (kk : ∀ (F : Nat → va_E) (i : Int32), inS D I P0 F0 γ0 el P γ m A N (mdE γ A r35 v9 v10 v11 v12 v13 v14 v23 v24 v25 v26 v27 v30 v32 v33 v34) F → G (gV D I) l (gRm 1 20 mc ms) Qf ky_inp 77 [(1, .int i), (0, .ref m)] [] (va_pl P F) cs sl) :
    ∀ (μ : Nat) (F : Nat → va_E) (i : Int32), (N : Int) - i.toInt < (μ : Int) → 0 ≤ i.toInt → i.toInt ≤ (N : Int) → inS D I P0 F0 γ0 el P γ m A N (mdE γ A r35 v9 v10 v11 v12 v13 v14 v23 v24 v25 v26 v27 v30 v32 v33 v34) F →
    G (gV D I) l (gRm 1 20 mc ms) Qf ky_inp 19 [(1, .int i), (0, .ref m)] [] (va_pl P F) cs sl := by
  intro μ
  induction μ with
  | zero => intro F i h h0 h4 _; exact absurd h (by omega)
  | succ μ ih =>
  intro F i hμ h0 h4 hS
  obtain ⟨hk, he, mA, kA, fA, eA⟩ := id hS
  have mm : m ∈ P := hk.1.1 m (by omega)
  refine G_iload_n 0 dr_cX17_input_19 rfl ?_
  refine G_aload_n 1 dr_cX17_input_20 rfl ?_
  refine Gp_get 28 mm he dr_cX17_input_21 (gk_X17 D I) (Nat.le_of_ble_eq_true rfl) wr_7_102 rfl ?_
  refine Gp_alen (Int32.ofNat N) 0 mA eA dr_cX17_input_24 rfl rfl (G_nam fun z hz => ?_)
  have ez : z.toInt = (N : Nat) := gI_ofM hz (by omega)
  refine G_icmp_ge 77 dr_cX17_input_25 (by decide +kernel) (fun _ => kk F i hS) (fun hc => ?_)
  have hlt : i.toInt < z.toInt := gj_nle hc rfl
  refine G_iconst 0 dr_cX17_input_28 (by decide +kernel) ?_
  refine G_istore_n (L' := [(2, .int 0), (1, .int i), (0, .ref m)]) dr_cX17_input_29 (Nat.le_of_ble_eq_true rfl) rfl ?_
  have z0 : Int32.toInt 0 = 0 := by decide
  refine in_l2 hm t25 hN h0 (by omega) (fun F1 jj hS1 => ?_) 5 F 0 (by rw [z0]; decide) (by rw [z0]; decide) (by rw [z0]; decide) hS
  obtain ⟨i1, hi1⟩ : ∃ z, z = i + 1 := ⟨_, rfl⟩
  have ei : i1.toInt = i.toInt + 1 := by rw [gI_add hi1 (⟨h0, by omega⟩ : gB i 0 2048) (gBl (show Int32.toInt 1 = 1 by decide)) (by decide) (by decide), show Int32.toInt 1 = 1 from by decide]
  refine G_iinc (L' := [(1, .int i1), (2, .int jj), (0, .ref m)]) i1 1 dr_cX17_input_71 rfl (by rw [hi1]; rfl) (Nat.le_of_ble_eq_true rfl) rfl ?_
  refine G_goto 19 dr_cX17_input_74 (by decide +kernel) ?_
  refine G_lv [0, 2] rfl ?_
  exact ih F1 i1 (by omega) (by omega) (by omega) hS1
set_option maxRecDepth 100000 in
set_option maxHeartbeats 4000000 in
theorem cp_input (l : Launch) (hl0 : l.stackTraces = false) (D : va_G) (I : FieldType → ClassId) {P : List Nat} {F : Nat → va_E} {γ el : Nat → Nat → Nat} {m : Nat} (hT : RS D I P F γ el) (hm : γ 0 m = 10) :
    CtA (gV D I) l yX17_input cX17_input 3 (some FieldType.int) 1 20 1 2048 [.ref m] (va_pl P F) (inP D I P F γ el m) gNA := by
  refine CtA_of hl0 (by decide) (Nat.le_of_ble_eq_true rfl) ?_
  obtain ⟨r28, r35, v9, v10, v11, v12, v13, v14, v23, v24, v25, v26, v27, v30, v32, v33, v34, he, hM1, hK, hM2⟩ := rk10_m (show rk_10 γ (F m) from RS_o hT hm)
  have hM1' := hM1
  obtain ⟨q9, q10, q11, q14, q25, q26, q27, q32, q34⟩ := hM1
  have mm : m ∈ P := hT.1 m (by omega)
  have e32 : fI (F m) 32 = v32 := by rw [he]; rfl
  have e10 : fI (F m) 10 = v10 := by rw [he]; rfl
  have e9 : fI (F m) 9 = v9 := by rw [he]; rfl
  have t25 : γ 0 (γ 9 31) = 25 := hK.2.2.2.2.2.2.2.2.2.2.2.2.2.2.2.2.2.2.2.2.1
  refine G_aload_n 0 dr_cX17_input_0 rfl ?_
  refine G_iconst 0 dr_cX17_input_1 (by decide +kernel) ?_
  refine Gp_put 30 mm he dr_cX17_input_2 (gk_X17 D I) (Nat.le_of_ble_eq_true rfl) wr_7_104 rfl rfl rfl (Nat.le_of_ble_eq_true rfl) (fun F1 e1 n1 => ?_)
  have e1' : F1 m = mdE γ r28 r35 v9 v10 v11 v12 v13 v14 v23 v24 v25 v26 v27 0 v32 v33 v34 := e1
  have hT1 := RS_md hT hm n1 e1' hM1' hK hM2
  have hk1 := rSk_put (rSk_rf (f := 0) (K := []) (KF := [10, 26]) hT) hT1 n1 (show rKd γ m 10 from hm) (by decide) (fun _ z => nomatch z)
  refine G_aload_n 0 dr_cX17_input_5 rfl ?_
  refine G_aload_n 0 dr_cX17_input_6 rfl ?_
  refine Gp_get 32 mm e1' dr_cX17_input_7 (gk_X17 D I) (Nat.le_of_ble_eq_true rfl) wr_7_106 rfl ?_
  refine G_iconst 4 dr_cX17_input_10 (by decide +kernel) ?_
  refine G_idiv dr_cX17_input_11 (by decide) (G_nam fun z hz => ?_)
  have ez : z.toInt = v32.toInt / 4 := gI_div hz q32 (by decide) (by decide) (by decide)
  have q32a := q32.1
  have q32b := q32.2
  have hz0 : 0 ≤ z.toInt := by omega
  have hz1 : z.toInt ≤ 2048 := by omega
  refine G_newa 0 (z.toInt.toNat, .inl (fun _ => 0)) dr_cX17_input_12 rfl rfl (by intro C h; cases h) wr_1_95 (fun _ => ga_int _ _) (g_n0 (by omega)) rfl (show z.toInt.toNat * 4 ≤ 536870912 by omega) (show 0 + 1 ≤ 1 by decide) (show 0 + z.toInt.toNat ≤ 2048 by omega) (fun A => Gp_in (fun P2 F2 hq hP e2 n2 => ?_))
  have hs2 : rSub P P2 := rSub_new (rSub_rf (P := P)) hP
  have A0 : γ 0 A = 0 := RS_new hT hq
  have mA2 : A ∈ P2 := (hP A).mpr (Or.inr rfl)
  have hN : z.toInt.toNat ≤ 2048 := by omega
  have sk2 : rSk 0 [] [10, 26] D I P F1 γ el P2 F2 (gNw γ A 26) el := rSk_nw hT1 hq hs2 mA2 n2 ⟨z.toInt.toNat, fun _ => 0, e2, by omega⟩
  have hk2 := rSk_tr hk1 sk2 (fun _ z => nomatch z) (fun _ z => z) (fun _ z => nomatch z)
  have hmA : m ≠ A := fun e => by rw [e, A0] at hm; cases hm
  have hm2 : gNw γ A 26 0 m = 10 := (gNw_ne hmA).trans hm
  have g9 : gNw γ A 26 9 = γ 9 := gNw_j (by decide)
  have e2m : F2 m = mdE (gNw γ A 26) r28 r35 v9 v10 v11 v12 v13 v14 v23 v24 v25 v26 v27 0 v32 v33 v34 := (n2 m hmA).trans e1'
  have mm2 := hs2 m mm
  have kA : gNw γ A 26 0 A = 26 := if_pos ⟨rfl, rfl⟩
  have hM2' : rM2 (gNw γ A 26) v9 v10 v34 r35 := by
    unfold rM2
    rw [gNw_j (j := 6) (by decide), gNw_j (j := 23) (by decide), gNw_j (j := 12) (by decide)]
    exact hM2
  refine Gp_put 28 mm2 e2m dr_cX17_input_14 (gk_X17 D I) (Nat.le_of_ble_eq_true rfl) wr_7_102 rfl rfl rfl (Nat.le_of_ble_eq_true rfl) (fun F3 e3 n3 => ?_)
  have e3' : F3 m = mdE (gNw γ A 26) A r35 v9 v10 v11 v12 v13 v14 v23 v24 v25 v26 v27 0 v32 v33 v34 := e3
  have hK3 := mdK_nw A0 hK
  have hT3 := RS_md hk2.1 hm2 n3 e3' hM1' hK3 hM2'
  have hk3 := rSk_put hk2 hT3 n3 (show rKd (gNw γ A 26) m 10 from hm2) (by decide) (fun _ z => nomatch z)
  have t25' : gNw γ A 26 0 (gNw γ A 26 9 31) = 25 := hK3.2.2.2.2.2.2.2.2.2.2.2.2.2.2.2.2.2.2.2.2.1
  have hS3 : inS D I P F γ el P2 (gNw γ A 26) m A z.toInt.toNat (mdE (gNw γ A 26) A r35 v9 v10 v11 v12 v13 v14 v23 v24 v25 v26 v27 0 v32 v33 v34) F3 := ⟨hk3, e3', mA2, kA, fun _ => 0, (n3 A (Ne.symm hmA)).trans e2⟩
  refine G_iconst 0 dr_cX17_input_17 (by decide +kernel) ?_
  refine G_istore_n (L' := [(1, .int 0), (0, .ref m)]) dr_cX17_input_18 (Nat.le_of_ble_eq_true rfl) rfl ?_
  have z0 : Int32.toInt 0 = 0 := by decide
  refine in_l1 hm2 t25' hN (fun F4 i hS4 => ?_) (z.toInt.toNat + 1) F3 0 (by rw [z0]; omega) (by rw [z0]; decide) (by rw [z0]; omega) hS3
  obtain ⟨hk4, he4, -, -, fA, eA4⟩ := id hS4
  refine G_aload_n 1 dr_cX17_input_77 rfl ?_
  refine G_iconst 0 dr_cX17_input_78 (by decide +kernel) ?_
  refine Gp_put 32 mm2 he4 dr_cX17_input_79 (gk_X17 D I) (Nat.le_of_ble_eq_true rfl) wr_7_106 rfl rfl rfl (Nat.le_of_ble_eq_true rfl) (fun F5 e5 n5 => ?_)
  have e5' : F5 m = mdE (gNw γ A 26) A r35 v9 v10 v11 v12 v13 v14 v23 v24 v25 v26 v27 0 0 v33 v34 := e5
  have hT5 := RS_md hk4.1 hm2 n5 e5' ⟨q9, q10, q11, q14, q25, q26, q27, ⟨by decide, by decide⟩, q34⟩ hK3 hM2'
  have hk5 := rSk_put hk4 hT5 n5 (show rKd (gNw γ A 26) m 10 from hm2) (by decide) (fun _ z => nomatch z)
  refine G_aload_n 1 dr_cX17_input_82 rfl ?_
  refine Gp_get 28 mm2 e5' dr_cX17_input_83 (gk_X17 D I) (Nat.le_of_ble_eq_true rfl) wr_7_102 rfl ?_
  refine Gp_alen (Int32.ofNat z.toInt.toNat) 0 mA2 ((n5 A (Ne.symm hmA)).trans eA4) dr_cX17_input_86 rfl rfl (G_nam fun x hx => ?_)
  exact G_iretA dr_cX17_input_87 rfl (show 0 + 1 ≤ 1 by decide) (show 0 + z.toInt.toNat ≤ 2048 by omega) ⟨P2, F5, gNw γ A 26, x, rfl, rfl, hk5, fun j hj => gNw_j hj, by rw [e5', e9]; rfl, by rw [e5', e10]; rfl, by rw [e5']; rfl, by omega, by rw [e32]; omega, by rw [e5', he]; rfl, by have ex := gI_ofM hx (by omega); rw [ex, e32]; omega⟩
abbrev ky_658267_AbstractStringBuilder_ensureCapacityInternal : gKey := (cJ5_ensureCapacityInternal_d00df, 3, "java/lang/AbstractStringBuilder", none, [], "ensureCapacityInternal", fun _ _ => True)
def pp_658267_AbstractStringBuilder_ensureCapacityInternal (D : va_G) (I : FieldType → ClassId) (P658256 : List Nat) (F658257 : Nat → va_E) (q658258 : Nat) (q658259 : Nat) (p658260 : Int32) (p658261 : Int32) (p658262 : Int32) (f658263 : Nat → Int32) (n658264 : Nat) : Option Value → va_W → Nat → Nat → Prop := fun r w dc ds => (r = none ∧ w = va_pl P658256 F658257 ∧ dc ≤ 0 ∧ ds ≤ 0 ∧ p658260.toInt ≤ (n658264 : Int) ∧ (n658264 : Int) ≤ (n658264 : Int) ∧ ((n658264 : Int) = (n658264 : Int) ∨ (n658264 : Int) < p658260.toInt) ∧ ((n658264 : Int) ≤ 2 * (n658264 : Int) + 2 ∨ (n658264 : Int) ≤ p658260.toInt) ∧ ((n658264 : Int) = (n658264 : Int) ∨ (n658264 : Int) < p658260.toInt) ∧ ((n658264 : Int) = (n658264 : Int) ∨ 2 * (n658264 : Int) + 2 ≤ (n658264 : Int))) ∨ (∃ (P658315 : List Nat) (F658316 : Nat → va_E) (q658312 : Nat) (n658313 : Nat) (f658314 : Nat → Int32), r = none ∧ w = va_pl P658315 F658316 ∧ rSub P658256 P658315 ∧ rFr [q658258] P658256 F658257 F658316 ∧ F658316 q658258 = .inr (1, [.ref q658312, .int 0, .int p658261, .int p658262]) ∧ F658316 q658312 = .inl (I .byte, n658313, .inl f658314) ∧ q658312 ∈ P658315 ∧ q658312 ∉ P658256 ∧ dc ≤ (min 1 (n658313 - n658264)) ∧ ds ≤ 2 * (n658313 - n658264) ∧ gF f658314 (-128) 127 ∧ p658260.toInt ≤ (n658313 : Int) ∧ (n658264 : Int) ≤ (n658313 : Int) ∧ ((n658313 : Int) = (n658264 : Int) ∨ (n658264 : Int) < p658260.toInt) ∧ ((n658313 : Int) ≤ 2 * (n658264 : Int) + 2 ∨ (n658313 : Int) ≤ p658260.toInt) ∧ ((n658313 : Int) = (n658264 : Int) ∨ (n658264 : Int) < p658260.toInt) ∧ ((n658313 : Int) = (n658264 : Int) ∨ 2 * (n658264 : Int) + 2 ≤ (n658313 : Int)))
set_option maxRecDepth 100000 in
set_option maxHeartbeats 4000000 in
theorem cp_658267_AbstractStringBuilder_ensureCapacityInternal (l : Launch) (hl0 : l.stackTraces = false) (D : va_G) (I : FieldType → ClassId) (P658256 : List Nat) (F658257 : Nat → va_E) (q658258 : Nat) (q658259 : Nat) (p658260 : Int32) (p658261 : Int32) (p658262 : Int32) (f658263 : Nat → Int32) (n658264 : Nat) (hmq658258 : q658258 ∈ P658256) (hmq658259 : q658259 ∈ P658256) (heq658258 : F658257 q658258 = .inr (1, [.ref q658259, .int 0, .int p658261, .int p658262])) (heq658259 : F658257 q658259 = .inl (I .byte, n658264, .inl f658263)) (bp658260 : gB p658260 0 8388608) (bp658261 : gB p658261 0 1) (bp658262 : gB p658262 0 16777216) (bf658263 : gF f658263 (-128) 127) (x658265 : (n658264 : Int) ≤ 8388608) (x658266 : ((n658264 : Int) ≤ 16777216)) : CtA (gV D I) l yJ5_ensureCapacityInternal_d00df cJ5_ensureCapacityInternal_d00df 3 none 3 62 1 (2 * n658264 + 2 + p658260.toInt.toNat) [.ref q658258, .int p658260] (va_pl P658256 F658257) (pp_658267_AbstractStringBuilder_ensureCapacityInternal D I P658256 F658257 q658258 q658259 p658260 p658261 p658262 f658263 n658264) gNA := by
  refine CtA_ofF hl0 (by decide +kernel) (Nat.le_of_ble_eq_true rfl) ?_
  refine G_aload_n 0 dr_cJ5_ensureCapacityInternal_d00df_0 rfl ?_
  refine Gp_get 0 hmq658258 heq658258 dr_cJ5_ensureCapacityInternal_d00df_1 (gk_J4 D I) (Nat.le_of_ble_eq_true rfl) wr_7_60 rfl ?_
  refine Gp_alen (Int32.ofNat n658264) 1 hmq658259 heq658259 dr_cJ5_ensureCapacityInternal_d00df_4 rfl rfl (G_nam fun z658268 hz658268 => ?_)
  have ez658268 : z658268.toInt = (n658264 : Nat) := gI_ofM hz658268 (by omega)
  have bz658268 : gB z658268 0 16777216 := ⟨by omega, by omega⟩
  refine G_aload_n 0 dr_cJ5_ensureCapacityInternal_d00df_5 rfl ?_
  refine Gp_get 1 hmq658258 heq658258 dr_cJ5_ensureCapacityInternal_d00df_6 (gk_J4 D I) (Nat.le_of_ble_eq_true rfl) wr_7_61 rfl ?_
  refine G_ishr dr_cJ5_ensureCapacityInternal_d00df_9 (G_nam fun z658269 hz658269 => ?_)
  have ez658269 : z658269.toInt = z658268.toInt / 1 := gI_shr (k := 0) hz658269 (by decide)
  have bz658269 : gB z658269 0 16777216 := ⟨by omega, by omega⟩
  refine G_istore_n (L' := [(2, .int z658269), (0, .ref q658258), (1, .int p658260)]) dr_cJ5_ensureCapacityInternal_d00df_10 (Nat.le_of_ble_eq_true rfl) rfl ?_
  refine G_iload_n 2 dr_cJ5_ensureCapacityInternal_d00df_11 rfl ?_
  refine G_iload_n 0 dr_cJ5_ensureCapacityInternal_d00df_12 rfl ?_
  refine G_isub dr_cJ5_ensureCapacityInternal_d00df_13 (G_nam fun z658270 hz658270 => ?_)
  have ez658270 : z658270.toInt = p658260.toInt - z658269.toInt := by rw [gI_sub hz658270 bp658260 bz658269 (by decide) (by decide)]
  have bz658270 : gB z658270 (-16777216) 8388608 := gB_sub (gI_sub hz658270 bp658260 bz658269 (by decide) (by decide)) bp658260 bz658269 (by decide) (by decide)
  refine G_if_le 38 dr_cJ5_ensureCapacityInternal_d00df_14 (by decide +kernel) (fun hc658271 => ?_) (fun hc658271 => ?_)
  · have r658272 : z658270.toInt ≤ 0 := gj_le hc658271 (show Int32.toInt 0 = 0 by decide)
    have bz658270' : gB z658270 (-16777216) 0 := ⟨by omega, by omega⟩
    exact G_vretA dr_cJ5_ensureCapacityInternal_d00df_38 rfl (Nat.le_of_ble_eq_true rfl) (Nat.le_of_ble_eq_true rfl) (Or.inl ⟨rfl, rfl, (Nat.le_of_ble_eq_true rfl), (Nat.le_of_ble_eq_true rfl), (by have qa0 : Int32.toInt 0 = 0 := (by decide); omega), (by have qa0 : Int32.toInt 0 = 0 := (by decide); omega), (by have qa0 : Int32.toInt 0 = 0 := (by decide); omega), (by have qa0 : Int32.toInt 0 = 0 := (by decide); omega), (by have qa0 : Int32.toInt 0 = 0 := (by decide); omega), (by have qa0 : Int32.toInt 0 = 0 := (by decide); omega)⟩)
  · have r658273 : 0 < z658270.toInt := gj_nle hc658271 (show Int32.toInt 0 = 0 by decide)
    have bz658270' : gB z658270 1 8388608 := ⟨by omega, by omega⟩
    refine G_aload_n 1 dr_cJ5_ensureCapacityInternal_d00df_17 rfl ?_
    refine G_aload_n 1 dr_cJ5_ensureCapacityInternal_d00df_18 rfl ?_
    refine Gp_get 0 hmq658258 heq658258 dr_cJ5_ensureCapacityInternal_d00df_19 (gk_J4 D I) (Nat.le_of_ble_eq_true rfl) wr_7_60 rfl ?_
    refine G_aload_n 1 dr_cJ5_ensureCapacityInternal_d00df_22 rfl ?_
    refine G_iload_n 2 dr_cJ5_ensureCapacityInternal_d00df_23 rfl ?_
    refine Gw_callVB (As := [.int p658260]) (gV_ok D I) (cp_640260_AbstractStringBuilder_newCapacity l hl0 D I P658256 F658257 q658258 q658259 p658260 p658261 p658262 f658263 n658264 hmq658258 hmq658259 heq658258 heq658259 bp658260 bp658261 bp658262 bf658263 (by have qa0 : Int32.toInt 0 = 0 := (by decide); omega) (by have qa0 : Int32.toInt 0 = 0 := (by decide); omega) (by have qa0 : Int32.toInt 0 = 0 := (by decide); omega)) dr_cJ5_ensureCapacityInternal_d00df_24 ⟨wr_8_8, wr_1_19, wr_8_11, by decide, rfl, (Nat.le_of_ble_eq_true rfl), (Nat.le_of_ble_eq_true rfl)⟩ wr_8_10 wr_s_1 hmq658258 heq658258 rfl (show 0 + 0 ≤ 1 by first | omega | decide) (show 0 + 0 ≤ (2 * n658264 + 2 + p658260.toInt.toNat) by first | omega | decide) (Nat.le_of_ble_eq_true rfl) (fun r658277 w658278 dc658274 ds658275 hp658276 => ?_) (fun _ _ _ _ _ z => z.elim)
    obtain ⟨o658279, rfl, rfl, hdc, hds, bo658279, x658280, x658281, x658282⟩ := hp658276
    change G _ _ _ _ _ _ _ (.int o658279 :: _) _ _ _
    refine G_widen (cs' := 0) (sl' := 0) (by omega) (by omega) ?_
    refine G_aload_n 1 dr_cJ5_ensureCapacityInternal_d00df_27 rfl ?_
    refine Gp_get 1 hmq658258 heq658258 dr_cJ5_ensureCapacityInternal_d00df_28 (gk_J4 D I) (Nat.le_of_ble_eq_true rfl) wr_7_61 rfl ?_
    refine G_ishl dr_cJ5_ensureCapacityInternal_d00df_31 (G_nam fun z658283 hz658283 => ?_)
    have ez658283 : z658283.toInt = o658279.toInt * 1 := gI_shl (k := 0) hz658283 (by decide) bo658279 (by decide) (by decide)
    have bz658283 : gB z658283 1 33554432 := ⟨by omega, by omega⟩
    refine Gw_callS (As := [.ref q658259, .int z658283]) (gV_ok D I) (cp_640293_Arrays_copyOf l hl0 D I P658256 F658257 q658259 z658283 f658263 n658264 hmq658259 heq658259 (gB_w bz658283 (by decide) (by decide)) bf658263 (by have qa0 : Int32.toInt 0 = 0 := (by decide); omega) (by have qa0 : Int32.toInt 0 = 0 := (by decide); omega)) dr_cJ5_ensureCapacityInternal_d00df_32 ⟨wr_8_21, wr_1_30, wr_8_23, by decide, rfl, (Nat.le_of_ble_eq_true rfl), (Nat.le_of_ble_eq_true rfl)⟩ wr_8_22 (show 0 + 1 ≤ 1 by first | omega | decide) (show 0 + z658283.toInt.toNat ≤ (2 * n658264 + 2 + p658260.toInt.toNat) by first | omega | decide) (Nat.le_of_ble_eq_true rfl) (fun r658287 w658288 dc658284 ds658285 hp658286 => ?_) (fun _ _ _ _ _ z => z.elim)
    obtain ⟨P658291, F658292, q658289, f658290, rfl, rfl, hsb658293, hfr658294, he658295, he658296, hm658297, hq658298, hdc, hds, bf658290⟩ := hp658286
    have hm658299 : q658258 ∈ P658291 := hsb658293 q658258 hmq658258
    have hm658300 : q658259 ∈ P658291 := hsb658293 q658259 hmq658259
    have hq658301 : q658289 ∉ P658256 := fun z => hq658298 ((rSub_rf (P := P658256)) q658289 z)
    have hsb658302 : rSub P658256 P658291 := rSub_tr (rSub_rf (P := P658256)) hsb658293
    have he658303 : F658292 q658258 = .inr (1, [.ref q658259, .int 0, .int p658261, .int p658262]) := (hfr658294 q658258 hmq658258 nm_n).trans heq658258
    have hfr658304 : rFr [] P658256 F658257 F658292 := rFr_call (rSub_rf (P := P658256)) (rFr_rf (W := []) (P := P658256) (F := F658257)) hfr658294 (fun b hb hn => ⟨nm_n, nm_n⟩)
    change G _ _ _ _ _ _ _ (.ref q658289 :: _) _ _ _
    refine G_widen (cs' := 1) (sl' := z658283.toInt.toNat) (by omega) (by omega) ?_
    refine Gp_put 0 hm658299 he658303 dr_cJ5_ensureCapacityInternal_d00df_35 (gk_J4 D I) (Nat.le_of_ble_eq_true rfl) wr_7_60 rfl rfl rfl (Nat.le_of_ble_eq_true rfl) (fun F658305 e658306 n658307 => ?_)
    have he658308 : F658305 q658259 = .inl (I .byte, n658264, .inl f658263) := (n658307 q658259 (rn_ao he658295 he658303)).trans he658295
    have he658309 : F658305 q658289 = .inl (I .byte, z658283.toInt.toNat, .inl f658290) := (n658307 q658289 (fun h => hq658301 (h ▸ hmq658258))).trans he658296
    have he658310 : F658305 q658258 = .inr (1, [.ref q658289, .int 0, .int p658261, .int p658262]) := e658306
    have hfr658311 : rFr [q658258] P658256 F658257 F658305 := rFr_put hfr658304 n658307
    exact G_vretA dr_cJ5_ensureCapacityInternal_d00df_38 rfl (Nat.le_of_ble_eq_true rfl) (show z658283.toInt.toNat ≤ (2 * n658264 + 2 + p658260.toInt.toNat) by omega) (Or.inr (⟨P658291, F658305, q658289, z658283.toInt.toNat, f658290, rfl, rfl, hsb658302, hfr658311, he658310, he658309, hm658297, hq658301, (by omega), (by omega), bf658290, (by have qa0 : Int32.toInt 0 = 0 := (by decide); omega), (by have qa0 : Int32.toInt 0 = 0 := (by decide); omega), (by have qa0 : Int32.toInt 0 = 0 := (by decide); omega), (by have qa0 : Int32.toInt 0 = 0 := (by decide); omega), (by have qa0 : Int32.toInt 0 = 0 := (by decide); omega), (by have qa0 : Int32.toInt 0 = 0 := (by decide); omega)⟩))
abbrev ky_658254_AbstractStringBuilder_append : gKey := (cJ5_append_3fe6f, 2, "java/lang/AbstractStringBuilder", (some (FieldType.object "java/lang/AbstractStringBuilder")), [], "append", fun _ _ => True)
def pp_658254_AbstractStringBuilder_append (D : va_G) (I : FieldType → ClassId) (P658242 : List Nat) (F658243 : Nat → va_E) (q658244 : Nat) (q658245 : Nat) (p658246 : Int32) (p658247 : Int32) (p658248 : Int32) (f658249 : Nat → Int32) (n658250 : Nat) : Option Value → va_W → Nat → Nat → Prop := fun r w dc ds => (∃ (F658414 : Nat → va_E) (o658411 : Int32) (f658412 : Nat → Int32), r = some (.ref q658244) ∧ w = va_pl P658242 F658414 ∧ rFr [q658245, q658244] P658242 F658243 F658414 ∧ F658414 q658244 = .inr (1, [.ref q658245, .int 0, .int p658247, .int o658411]) ∧ F658414 q658245 = .inl (I .byte, n658250, .inl f658412) ∧ dc ≤ 0 ∧ ds ≤ 0 ∧ gB o658411 1 16777216 ∧ gF f658412 (-128) 127 ∧ o658411.toInt = p658248.toInt + 1 ∧ o658411.toInt ≤ (n658250 : Int) ∧ (n658250 : Int) ≤ (n658250 : Int) ∧ (n658250 : Int) ≤ 2 * (n658250 : Int) + 2 ∧ ((n658250 : Int) = (n658250 : Int) ∨ (n658250 : Int) < o658411.toInt) ∧ ((n658250 : Int) = (n658250 : Int) ∨ 2 * (n658250 : Int) + 2 ≤ (n658250 : Int))) ∨ (∃ (P658419 : List Nat) (F658420 : Nat → va_E) (o658415 : Int32) (q658416 : Nat) (n658417 : Nat) (f658418 : Nat → Int32), r = some (.ref q658244) ∧ w = va_pl P658419 F658420 ∧ rSub P658242 P658419 ∧ rFr [q658244] P658242 F658243 F658420 ∧ F658420 q658244 = .inr (1, [.ref q658416, .int 0, .int p658247, .int o658415]) ∧ F658420 q658416 = .inl (I .byte, n658417, .inl f658418) ∧ q658416 ∈ P658419 ∧ q658416 ∉ P658242 ∧ dc ≤ (min 1 (n658417 - n658250)) ∧ ds ≤ 2 * (n658417 - n658250) ∧ gB o658415 1 16777216 ∧ gF f658418 (-128) 127 ∧ o658415.toInt = p658248.toInt + 1 ∧ o658415.toInt ≤ (n658417 : Int) ∧ (n658250 : Int) ≤ (n658417 : Int) ∧ (n658417 : Int) ≤ 2 * (n658250 : Int) + 2 ∧ ((n658417 : Int) = (n658250 : Int) ∨ (n658250 : Int) < o658415.toInt) ∧ ((n658417 : Int) = (n658250 : Int) ∨ 2 * (n658250 : Int) + 2 ≤ (n658417 : Int)))
set_option maxRecDepth 100000 in
set_option maxHeartbeats 4000000 in
theorem cp_658254_AbstractStringBuilder_append (l : Launch) (hl0 : l.stackTraces = false) (D : va_G) (I : FieldType → ClassId) (P658242 : List Nat) (F658243 : Nat → va_E) (q658244 : Nat) (q658245 : Nat) (p658246 : Int32) (p658247 : Int32) (p658248 : Int32) (f658249 : Nat → Int32) (n658250 : Nat) (hmq658244 : q658244 ∈ P658242) (hmq658245 : q658245 ∈ P658242) (heq658244 : F658243 q658244 = .inr (1, [.ref q658245, .int 0, .int p658247, .int p658248])) (heq658245 : F658243 q658245 = .inl (I .byte, n658250, .inl f658249)) (bp658246 : gB p658246 0 255) (bp658247 : gB p658247 0 1) (bp658248 : gB p658248 0 16777216) (bf658249 : gF f658249 (-128) 127) (x658251 : (n658250 : Int) ≤ 8388608 - 100000) (x658252 : p658248.toInt ≤ (n658250 : Int)) (x658253 : ((n658250 : Int) ≤ 16777216)) : CtA (gV D I) l yJ5_append_3fe6f cJ5_append_3fe6f 2 (some (FieldType.object "java/lang/AbstractStringBuilder")) 4 84 1 (4 * n658250 + 8) [.ref q658244, .int p658246] (va_pl P658242 F658243) (pp_658254_AbstractStringBuilder_append D I P658242 F658243 q658244 q658245 p658246 p658247 p658248 f658249 n658250) gNA := by
  refine CtA_ofF hl0 (by decide +kernel) (Nat.le_of_ble_eq_true rfl) ?_
  refine G_aload_n 0 dr_cJ5_append_3fe6f_0 rfl ?_
  refine G_aload_n 0 dr_cJ5_append_3fe6f_1 rfl ?_
  refine Gp_get 3 hmq658244 heq658244 dr_cJ5_append_3fe6f_2 (gk_J4 D I) (Nat.le_of_ble_eq_true rfl) wr_7_64 rfl ?_
  refine G_iconst 1 dr_cJ5_append_3fe6f_5 (by decide +kernel) ?_
  refine G_iadd dr_cJ5_append_3fe6f_6 (G_nam fun z658255 hz658255 => ?_)
  have ez658255 : z658255.toInt = p658248.toInt + 1 := by rw [gI_add hz658255 bp658248 (gBl (show Int32.toInt 1 = 1 by decide)) (by decide) (by decide), show Int32.toInt 1 = 1 from by decide]
  have bz658255 : gB z658255 1 16777217 := gB_add (gI_add hz658255 bp658248 (gBl (show Int32.toInt 1 = 1 by decide)) (by decide) (by decide)) bp658248 (gBl (show Int32.toInt 1 = 1 by decide)) (by decide) (by decide)
  refine Gw_callVB (As := [.int z658255]) (gV_ok D I) (cp_658267_AbstractStringBuilder_ensureCapacityInternal l hl0 D I P658242 F658243 q658244 q658245 z658255 p658247 p658248 f658249 n658250 hmq658244 hmq658245 heq658244 heq658245 ⟨by omega, by omega⟩ bp658247 bp658248 bf658249 (by have qa0 : Int32.toInt 0 = 0 := (by decide); omega) (by have qa0 : Int32.toInt 0 = 0 := (by decide); omega)) dr_cJ5_append_3fe6f_7 ⟨wr_8_4, wr_1_19, wr_8_7, by decide, rfl, (Nat.le_of_ble_eq_true rfl), (Nat.le_of_ble_eq_true rfl)⟩ wr_8_6 wr_s_0 hmq658244 heq658244 rfl (show 0 + 1 ≤ 1 by first | omega | decide) (show 0 + (2 * n658250 + 2 + z658255.toInt.toNat) ≤ (4 * n658250 + 8) by first | omega | decide) (Nat.le_of_ble_eq_true rfl) (fun r658320 w658321 dc658317 ds658318 hp658319 => ?_) (fun _ _ _ _ _ z => z.elim)
  rcases hp658319 with hp658322 | hp658323
  · obtain ⟨rfl, rfl, hdc, hds, x658324, x658325, x658326, x658327, x658328, x658329⟩ := hp658322
    change G _ _ _ _ _ _ _ _ _ _ _
    refine G_widen (cs' := 0) (sl' := 0) (by omega) (by omega) ?_
    refine G_aload_n 0 dr_cJ5_append_3fe6f_10 rfl ?_
    refine Gw_callVB (As := []) (gV_ok D I) (cp_640145_AbstractStringBuilder_isLatin1 l hl0 D I P658242 F658243 q658244 q658245 p658247 p658248 f658249 n658250 hmq658244 hmq658245 heq658244 heq658245 bp658247 bp658248 bf658249 (by have qa0 : Int32.toInt 0 = 0 := (by decide); omega)) dr_cJ5_append_3fe6f_11 ⟨wr_8_33, wr_1_19, wr_8_37, by decide, rfl, (Nat.le_of_ble_eq_true rfl), (Nat.le_of_ble_eq_true rfl)⟩ wr_8_34 wr_8_36 hmq658244 heq658244 rfl (show 0 + 0 ≤ 1 by first | omega | decide) (show 0 + 0 ≤ (4 * n658250 + 8) by first | omega | decide) (Nat.le_of_ble_eq_true rfl) (fun r658333 w658334 dc658330 ds658331 hp658332 => ?_) (fun _ _ _ _ _ z => z.elim)
    obtain ⟨rfl, rfl, hdc, hds⟩ := hp658332
    change G _ _ _ _ _ _ _ (.int 1 :: _) _ _ _
    refine G_widen (cs' := 0) (sl' := 0) (by omega) (by omega) ?_
    refine G_if_eq 45 dr_cJ5_append_3fe6f_14 (by decide +kernel) (fun hc => absurd hc (by decide)) (fun _ => ?_)
    refine G_iload_n 1 dr_cJ5_append_3fe6f_17 rfl ?_
    refine Gw_callS (As := [.int p658246]) (gV_ok D I) (cp_640154_StringLatin1_canEncode l hl0 D I P658242 F658243 p658246 (gB_w bp658246 (by decide) (by decide))) dr_cJ5_append_3fe6f_18 ⟨wr_8_38, wr_1_28, wr_8_40, by decide, rfl, (Nat.le_of_ble_eq_true rfl), (Nat.le_of_ble_eq_true rfl)⟩ wr_8_39 (show 0 + 0 ≤ 1 by first | omega | decide) (show 0 + 0 ≤ (4 * n658250 + 8) by first | omega | decide) (Nat.le_of_ble_eq_true rfl) (fun r658338 w658339 dc658335 ds658336 hp658337 => ?_) (fun _ _ _ _ _ z => z.elim)
    rcases hp658337 with ⟨rfl, rfl, hdc, hds, r658340⟩ | ⟨rfl, rfl, hdc, hds, r658341⟩
    · exact absurd (show False by omega) not_false
    · change G _ _ _ _ _ _ _ (.int 1 :: _) _ _ _
      refine G_widen (cs' := 0) (sl' := 0) (by omega) (by omega) ?_
      refine G_if_eq 45 dr_cJ5_append_3fe6f_21 (by decide +kernel) (fun hc => absurd hc (by decide)) (fun _ => ?_)
      refine G_aload_n 0 dr_cJ5_append_3fe6f_24 rfl ?_
      refine Gp_get 0 hmq658244 heq658244 dr_cJ5_append_3fe6f_25 (gk_J4 D I) (Nat.le_of_ble_eq_true rfl) wr_7_60 rfl ?_
      refine G_aload_n 0 dr_cJ5_append_3fe6f_28 rfl ?_
      refine G_dup dr_cJ5_append_3fe6f_29 rfl ?_
      refine Gp_get 3 hmq658244 heq658244 dr_cJ5_append_3fe6f_30 (gk_J4 D I) (Nat.le_of_ble_eq_true rfl) wr_7_64 rfl ?_
      refine G_dup_x1 dr_cJ5_append_3fe6f_33 rfl rfl ?_
      refine G_iconst 1 dr_cJ5_append_3fe6f_34 (by decide +kernel) ?_
      refine G_iadd dr_cJ5_append_3fe6f_35 (G_nam fun z658343 hz658343 => ?_)
      have ez658343 : z658343.toInt = p658248.toInt + 1 := by rw [gI_add hz658343 bp658248 (gBl (show Int32.toInt 1 = 1 by decide)) (by decide) (by decide), show Int32.toInt 1 = 1 from by decide]
      have bz658343 : gB z658343 1 16777217 := gB_add (gI_add hz658343 bp658248 (gBl (show Int32.toInt 1 = 1 by decide)) (by decide) (by decide)) bp658248 (gBl (show Int32.toInt 1 = 1 by decide)) (by decide) (by decide)
      refine Gp_put 3 hmq658244 heq658244 dr_cJ5_append_3fe6f_36 (gk_J4 D I) (Nat.le_of_ble_eq_true rfl) wr_7_64 rfl rfl rfl (Nat.le_of_ble_eq_true rfl) (fun F658344 e658345 n658346 => ?_)
      have he658347 : F658344 q658245 = .inl (I .byte, n658250, .inl f658249) := (n658346 q658245 (rn_ao heq658245 heq658244)).trans heq658245
      have he658348 : F658344 q658244 = .inr (1, [.ref q658245, .int 0, .int p658247, .int z658343]) := e658345
      have hfr658349 : rFr [q658244] P658242 F658243 F658344 := rFr_put (rFr_rf (W := []) (P := P658242) (F := F658243)) n658346
      refine G_iload_n 1 dr_cJ5_append_3fe6f_39 rfl ?_
      refine G_i2b dr_cJ5_append_3fe6f_40 (G_nam fun z658350 hz658350 => ?_)
      have bz658350 : gB z658350 (-128) 127 := gB_i2b hz658350
      refine Gp_bast 1 hmq658245 he658347 dr_cJ5_append_3fe6f_41 rfl (gB_inr (by omega) (by omega)) (fun F658351 e658352 n658353 => ?_)
      obtain ⟨f658354, hf658354⟩ : ∃ z, z = upd f658249 p658248.toNatClampNeg (vp_nar .byte z658350) := ⟨_, rfl⟩
      rw [← hf658354] at e658352
      have he658355 : F658351 q658244 = .inr (1, [.ref q658245, .int 0, .int p658247, .int z658343]) := (n658353 q658244 (rn_oa he658348 he658347)).trans he658348
      have he658356 : F658351 q658245 = .inl (I .byte, n658250, .inl f658354) := e658352
      have hfr658357 : rFr [q658245, q658244] P658242 F658243 F658351 := rFr_put hfr658349 n658353
      have bf658354 : gF f658354 (-128) 127 := gF_upd hf658354 bf658249 gB_byte
      refine G_goto 75 dr_cJ5_append_3fe6f_42 (by decide +kernel) ?_
      refine G_aload_n 0 dr_cJ5_append_3fe6f_75 rfl ?_
      exact G_aretA (FieldType.object "java/lang/AbstractStringBuilder") dr_cJ5_append_3fe6f_76 rfl (by first | exact Or.inl ⟨_, rfl⟩ | exact Or.inr ⟨_, rfl⟩) (Or.inr ⟨_, rfl⟩) (Nat.le_of_ble_eq_true rfl) (Nat.le_of_ble_eq_true rfl) (Or.inl ⟨F658351, z658343, f658354, rfl, rfl, hfr658357, he658355, he658356, (Nat.le_of_ble_eq_true rfl), (Nat.le_of_ble_eq_true rfl), ⟨by omega, by omega⟩, bf658354, (by have qa0 : Int32.toInt 0 = 0 := (by decide); omega), (by have qa0 : Int32.toInt 0 = 0 := (by decide); omega), (by have qa0 : Int32.toInt 0 = 0 := (by decide); omega), (by have qa0 : Int32.toInt 0 = 0 := (by decide); omega), (by have qa0 : Int32.toInt 0 = 0 := (by decide); omega), (by have qa0 : Int32.toInt 0 = 0 := (by decide); omega)⟩)
  · obtain ⟨P658367, F658368, q658358, n658359, f658360, rfl, rfl, hsb658369, hfr658370, he658371, he658372, hm658373, hq658374, hdc, hds, bf658360, x658361, x658362, x658363, x658364, x658365, x658366⟩ := hp658323
    have hm658375 : q658244 ∈ P658367 := hsb658369 q658244 hmq658244
    have hm658376 : q658245 ∈ P658367 := hsb658369 q658245 hmq658245
    have hq658377 : q658358 ∉ P658242 := fun z => hq658374 ((rSub_rf (P := P658242)) q658358 z)
    have hsb658378 : rSub P658242 P658367 := rSub_tr (rSub_rf (P := P658242)) hsb658369
    have he658379 : F658368 q658245 = .inl (I .byte, n658250, .inl f658249) := (hfr658370 q658245 hmq658245 (nm_c (rn_ao heq658245 heq658244) nm_n)).trans heq658245
    have hfr658380 : rFr [q658244] P658242 F658243 F658368 := rFr_call (rSub_rf (P := P658242)) (rFr_rf (W := []) (P := P658242) (F := F658243)) hfr658370 (fun b hb hn => ⟨nm_n, (nm_c (fun e => hn (e ▸ List.mem_cons_self)) nm_n)⟩)
    change G _ _ _ _ _ _ _ _ _ _ _
    refine G_widen (cs' := (min 1 (n658359 - n658250))) (sl' := 2 * (n658359 - n658250)) (by omega) (by omega) ?_
    refine G_aload_n 0 dr_cJ5_append_3fe6f_10 rfl ?_
    refine Gw_callVB (As := []) (gV_ok D I) (cp_640145_AbstractStringBuilder_isLatin1 l hl0 D I P658367 F658368 q658244 q658358 p658247 p658248 f658360 n658359 hm658375 hm658373 he658371 he658372 bp658247 bp658248 bf658360 (by have qa0 : Int32.toInt 0 = 0 := (by decide); omega)) dr_cJ5_append_3fe6f_11 ⟨wr_8_33, wr_1_19, wr_8_37, by decide, rfl, (Nat.le_of_ble_eq_true rfl), (Nat.le_of_ble_eq_true rfl)⟩ wr_8_34 wr_8_36 hm658375 he658371 rfl (show (min 1 (n658359 - n658250)) + 0 ≤ 1 by first | omega | decide) (show 2 * (n658359 - n658250) + 0 ≤ (4 * n658250 + 8) by first | omega | decide) (Nat.le_of_ble_eq_true rfl) (fun r658384 w658385 dc658381 ds658382 hp658383 => ?_) (fun _ _ _ _ _ z => z.elim)
    obtain ⟨rfl, rfl, hdc, hds⟩ := hp658383
    change G _ _ _ _ _ _ _ (.int 1 :: _) _ _ _
    refine G_widen (cs' := (min 1 (n658359 - n658250)) + 0) (sl' := 2 * (n658359 - n658250) + 0) (by omega) (by omega) ?_
    refine G_if_eq 45 dr_cJ5_append_3fe6f_14 (by decide +kernel) (fun hc => absurd hc (by decide)) (fun _ => ?_)
    refine G_iload_n 1 dr_cJ5_append_3fe6f_17 rfl ?_
    refine Gw_callS (As := [.int p658246]) (gV_ok D I) (cp_640154_StringLatin1_canEncode l hl0 D I P658367 F658368 p658246 (gB_w bp658246 (by decide) (by decide))) dr_cJ5_append_3fe6f_18 ⟨wr_8_38, wr_1_28, wr_8_40, by decide, rfl, (Nat.le_of_ble_eq_true rfl), (Nat.le_of_ble_eq_true rfl)⟩ wr_8_39 (show (min 1 (n658359 - n658250)) + 0 + 0 ≤ 1 by first | omega | decide) (show 2 * (n658359 - n658250) + 0 + 0 ≤ (4 * n658250 + 8) by first | omega | decide) (Nat.le_of_ble_eq_true rfl) (fun r658389 w658390 dc658386 ds658387 hp658388 => ?_) (fun _ _ _ _ _ z => z.elim)
    rcases hp658388 with ⟨rfl, rfl, hdc, hds, r658391⟩ | ⟨rfl, rfl, hdc, hds, r658392⟩
    · exact absurd (show False by omega) not_false
    · change G _ _ _ _ _ _ _ (.int 1 :: _) _ _ _
      refine G_widen (cs' := (min 1 (n658359 - n658250)) + 0 + 0) (sl' := 2 * (n658359 - n658250) + 0 + 0) (by omega) (by omega) ?_
      refine G_if_eq 45 dr_cJ5_append_3fe6f_21 (by decide +kernel) (fun hc => absurd hc (by decide)) (fun _ => ?_)
      refine G_aload_n 0 dr_cJ5_append_3fe6f_24 rfl ?_
      refine Gp_get 0 hm658375 he658371 dr_cJ5_append_3fe6f_25 (gk_J4 D I) (Nat.le_of_ble_eq_true rfl) wr_7_60 rfl ?_
      refine G_aload_n 0 dr_cJ5_append_3fe6f_28 rfl ?_
      refine G_dup dr_cJ5_append_3fe6f_29 rfl ?_
      refine Gp_get 3 hm658375 he658371 dr_cJ5_append_3fe6f_30 (gk_J4 D I) (Nat.le_of_ble_eq_true rfl) wr_7_64 rfl ?_
      refine G_dup_x1 dr_cJ5_append_3fe6f_33 rfl rfl ?_
      refine G_iconst 1 dr_cJ5_append_3fe6f_34 (by decide +kernel) ?_
      refine G_iadd dr_cJ5_append_3fe6f_35 (G_nam fun z658394 hz658394 => ?_)
      have ez658394 : z658394.toInt = p658248.toInt + 1 := by rw [gI_add hz658394 bp658248 (gBl (show Int32.toInt 1 = 1 by decide)) (by decide) (by decide), show Int32.toInt 1 = 1 from by decide]
      have bz658394 : gB z658394 1 16777217 := gB_add (gI_add hz658394 bp658248 (gBl (show Int32.toInt 1 = 1 by decide)) (by decide) (by decide)) bp658248 (gBl (show Int32.toInt 1 = 1 by decide)) (by decide) (by decide)
      refine Gp_put 3 hm658375 he658371 dr_cJ5_append_3fe6f_36 (gk_J4 D I) (Nat.le_of_ble_eq_true rfl) wr_7_64 rfl rfl rfl (Nat.le_of_ble_eq_true rfl) (fun F658395 e658396 n658397 => ?_)
      have he658398 : F658395 q658245 = .inl (I .byte, n658250, .inl f658249) := (n658397 q658245 (rn_ao he658379 he658371)).trans he658379
      have he658399 : F658395 q658358 = .inl (I .byte, n658359, .inl f658360) := (n658397 q658358 (fun h => hq658377 (h ▸ hmq658244))).trans he658372
      have he658400 : F658395 q658244 = .inr (1, [.ref q658358, .int 0, .int p658247, .int z658394]) := e658396
      have hfr658401 : rFr [q658244] P658242 F658243 F658395 := rFr_put' List.mem_cons_self hfr658380 n658397
      refine G_iload_n 1 dr_cJ5_append_3fe6f_39 rfl ?_
      refine G_i2b dr_cJ5_append_3fe6f_40 (G_nam fun z658402 hz658402 => ?_)
      have bz658402 : gB z658402 (-128) 127 := gB_i2b hz658402
      refine Gp_bast 1 hm658373 he658399 dr_cJ5_append_3fe6f_41 rfl (gB_inr (by omega) (by omega)) (fun F658403 e658404 n658405 => ?_)
      obtain ⟨f658406, hf658406⟩ : ∃ z, z = upd f658360 p658248.toNatClampNeg (vp_nar .byte z658402) := ⟨_, rfl⟩
      rw [← hf658406] at e658404
      have he658407 : F658403 q658245 = .inl (I .byte, n658250, .inl f658249) := (n658405 q658245 (fun h => hq658377 (h ▸ hmq658245))).trans he658398
      have he658408 : F658403 q658244 = .inr (1, [.ref q658358, .int 0, .int p658247, .int z658394]) := (n658405 q658244 (fun h => hq658377 (h ▸ hmq658244))).trans he658400
      have he658409 : F658403 q658358 = .inl (I .byte, n658359, .inl f658406) := e658404
      have hfr658410 : rFr [q658244] P658242 F658243 F658403 := rFr_newp hq658377 hfr658401 n658405
      have bf658406 : gF f658406 (-128) 127 := gF_upd hf658406 bf658360 gB_byte
      refine G_goto 75 dr_cJ5_append_3fe6f_42 (by decide +kernel) ?_
      refine G_aload_n 0 dr_cJ5_append_3fe6f_75 rfl ?_
      exact G_aretA (FieldType.object "java/lang/AbstractStringBuilder") dr_cJ5_append_3fe6f_76 rfl (by first | exact Or.inl ⟨_, rfl⟩ | exact Or.inr ⟨_, rfl⟩) (Or.inr ⟨_, rfl⟩) (show (min 1 (n658359 - n658250)) + 0 + 0 ≤ 1 by omega) (show 2 * (n658359 - n658250) + 0 + 0 ≤ (4 * n658250 + 8) by omega) (Or.inr (⟨P658367, F658403, z658394, q658358, n658359, f658406, rfl, rfl, hsb658378, hfr658410, he658408, he658409, hm658373, hq658377, (by omega), (by omega), ⟨by omega, by omega⟩, bf658406, (by have qa0 : Int32.toInt 0 = 0 := (by decide); omega), (by have qa0 : Int32.toInt 0 = 0 := (by decide); omega), (by have qa0 : Int32.toInt 0 = 0 := (by decide); omega), (by have qa0 : Int32.toInt 0 = 0 := (by decide); omega), (by have qa0 : Int32.toInt 0 = 0 := (by decide); omega), (by have qa0 : Int32.toInt 0 = 0 := (by decide); omega)⟩))
abbrev ky_658241_StringBuilder_append : gKey := (cJ4_append_cf468, 2, "java/lang/StringBuilder", (some (FieldType.object "java/lang/StringBuilder")), [], "append", fun _ _ => True)
def pp_658241_StringBuilder_append (D : va_G) (I : FieldType → ClassId) (P658229 : List Nat) (F658230 : Nat → va_E) (q658231 : Nat) (q658232 : Nat) (p658233 : Int32) (p658234 : Int32) (p658235 : Int32) (f658236 : Nat → Int32) (n658237 : Nat) : Option Value → va_W → Nat → Nat → Prop := fun r w dc ds => (∃ (F658469 : Nat → va_E) (o658466 : Int32) (f658467 : Nat → Int32), r = some (.ref q658231) ∧ w = va_pl P658229 F658469 ∧ rFr [q658232, q658231] P658229 F658230 F658469 ∧ F658469 q658231 = .inr (1, [.ref q658232, .int 0, .int p658234, .int o658466]) ∧ F658469 q658232 = .inl (I .byte, n658237, .inl f658467) ∧ dc ≤ 0 ∧ ds ≤ 0 ∧ gB o658466 1 16777216 ∧ gF f658467 (-128) 127 ∧ o658466.toInt = p658235.toInt + 1 ∧ o658466.toInt ≤ (n658237 : Int) ∧ (n658237 : Int) ≤ (n658237 : Int) ∧ (n658237 : Int) ≤ 2 * (n658237 : Int) + 2 ∧ ((n658237 : Int) = (n658237 : Int) ∨ (n658237 : Int) < o658466.toInt) ∧ ((n658237 : Int) = (n658237 : Int) ∨ 2 * (n658237 : Int) + 2 ≤ (n658237 : Int))) ∨ (∃ (P658474 : List Nat) (F658475 : Nat → va_E) (o658470 : Int32) (q658471 : Nat) (n658472 : Nat) (f658473 : Nat → Int32), r = some (.ref q658231) ∧ w = va_pl P658474 F658475 ∧ rSub P658229 P658474 ∧ rFr [q658231] P658229 F658230 F658475 ∧ F658475 q658231 = .inr (1, [.ref q658471, .int 0, .int p658234, .int o658470]) ∧ F658475 q658471 = .inl (I .byte, n658472, .inl f658473) ∧ q658471 ∈ P658474 ∧ q658471 ∉ P658229 ∧ dc ≤ (min 1 (n658472 - n658237)) ∧ ds ≤ 2 * (n658472 - n658237) ∧ gB o658470 1 16777216 ∧ gF f658473 (-128) 127 ∧ o658470.toInt = p658235.toInt + 1 ∧ o658470.toInt ≤ (n658472 : Int) ∧ (n658237 : Int) ≤ (n658472 : Int) ∧ (n658472 : Int) ≤ 2 * (n658237 : Int) + 2 ∧ ((n658472 : Int) = (n658237 : Int) ∨ (n658237 : Int) < o658470.toInt) ∧ ((n658472 : Int) = (n658237 : Int) ∨ 2 * (n658237 : Int) + 2 ≤ (n658472 : Int)))
set_option maxRecDepth 100000 in
set_option maxHeartbeats 4000000 in
theorem cp_658241_StringBuilder_append (l : Launch) (hl0 : l.stackTraces = false) (D : va_G) (I : FieldType → ClassId) (P658229 : List Nat) (F658230 : Nat → va_E) (q658231 : Nat) (q658232 : Nat) (p658233 : Int32) (p658234 : Int32) (p658235 : Int32) (f658236 : Nat → Int32) (n658237 : Nat) (hmq658231 : q658231 ∈ P658229) (hmq658232 : q658232 ∈ P658229) (heq658231 : F658230 q658231 = .inr (1, [.ref q658232, .int 0, .int p658234, .int p658235])) (heq658232 : F658230 q658232 = .inl (I .byte, n658237, .inl f658236)) (bp658233 : gB p658233 0 255) (bp658234 : gB p658234 0 1) (bp658235 : gB p658235 0 16777216) (bf658236 : gF f658236 (-128) 127) (x658238 : (n658237 : Int) ≤ 8388608 - 100000) (x658239 : p658235.toInt ≤ (n658237 : Int)) (x658240 : ((n658237 : Int) ≤ 16777216)) : CtA (gV D I) l yJ4_append_cf468 cJ4_append_cf468 2 (some (FieldType.object "java/lang/StringBuilder")) 5 105 1 (4 * n658237 + 8) [.ref q658231, .int p658233] (va_pl P658229 F658230) (pp_658241_StringBuilder_append D I P658229 F658230 q658231 q658232 p658233 p658234 p658235 f658236 n658237) gNA := by
  refine CtA_ofF hl0 (by decide +kernel) (Nat.le_of_ble_eq_true rfl) ?_
  refine G_aload_n 0 dr_cJ4_append_cf468_0 rfl ?_
  refine G_iload_n 1 dr_cJ4_append_cf468_1 rfl ?_
  refine Gw_callSU (As := [.int p658233]) (gV_ok D I) (cp_658254_AbstractStringBuilder_append l hl0 D I P658229 F658230 q658231 q658232 p658233 p658234 p658235 f658236 n658237 hmq658231 hmq658232 heq658231 heq658232 bp658233 bp658234 bp658235 bf658236 (by have qa0 : Int32.toInt 0 = 0 := (by decide); omega) (by have qa0 : Int32.toInt 0 = 0 := (by decide); omega) (by have qa0 : Int32.toInt 0 = 0 := (by decide); omega)) dr_cJ4_append_cf468_2 ⟨wr_8_1, wr_1_19, wr_8_3, by decide, rfl, (Nat.le_of_ble_eq_true rfl), (Nat.le_of_ble_eq_true rfl)⟩ wr_8_2 wr_11_224 wr_7_73 wr_7_44 (by decide) hmq658231 heq658231 rfl (show 0 + 1 ≤ 1 by first | omega | decide) (show 0 + (4 * n658237 + 8) ≤ (4 * n658237 + 8) by first | omega | decide) (Nat.le_of_ble_eq_true rfl) (fun r658424 w658425 dc658421 ds658422 hp658423 => ?_)
  rcases hp658423 with hp658426 | hp658427
  · obtain ⟨F658436, o658428, f658429, rfl, rfl, hfr658438, he658439, he658440, hdc, hds, bo658428, bf658429, x658430, x658431, x658432, x658433, x658434, x658435⟩ := hp658426
    have hfr658441 : rFr [q658232, q658231] P658229 F658230 F658436 := rFr_call (rSub_rf (P := P658229)) (rFr_rf (W := []) (P := P658229) (F := F658230)) hfr658438 (fun b hb hn => ⟨nm_n, (nm_c (fun e => hn (e ▸ List.mem_cons_self)) (nm_c (fun e => hn (e ▸ (List.mem_cons_of_mem _ List.mem_cons_self))) nm_n))⟩)
    change G _ _ _ _ _ _ _ (.ref q658231 :: _) _ _ _
    refine G_widen (cs' := 0) (sl' := 0) (by omega) (by omega) ?_
    refine G_pop dr_cJ4_append_cf468_5 rfl ?_
    refine G_aload_n 0 dr_cJ4_append_cf468_6 rfl ?_
    exact G_aretA (FieldType.object "java/lang/StringBuilder") dr_cJ4_append_cf468_7 rfl (by first | exact Or.inl ⟨_, rfl⟩ | exact Or.inr ⟨_, rfl⟩) (Or.inr ⟨_, rfl⟩) (Nat.le_of_ble_eq_true rfl) (Nat.le_of_ble_eq_true rfl) (Or.inl ⟨F658436, o658428, f658429, rfl, rfl, hfr658441, he658439, he658440, (Nat.le_of_ble_eq_true rfl), (Nat.le_of_ble_eq_true rfl), bo658428, bf658429, (by have qa0 : Int32.toInt 0 = 0 := (by decide); omega), (by have qa0 : Int32.toInt 0 = 0 := (by decide); omega), (by have qa0 : Int32.toInt 0 = 0 := (by decide); omega), (by have qa0 : Int32.toInt 0 = 0 := (by decide); omega), (by have qa0 : Int32.toInt 0 = 0 := (by decide); omega), (by have qa0 : Int32.toInt 0 = 0 := (by decide); omega)⟩)
  · obtain ⟨P658452, F658453, o658442, q658443, n658444, f658445, rfl, rfl, hsb658454, hfr658455, he658456, he658457, hm658458, hq658459, hdc, hds, bo658442, bf658445, x658446, x658447, x658448, x658449, x658450, x658451⟩ := hp658427
    have hm658460 : q658231 ∈ P658452 := hsb658454 q658231 hmq658231
    have hm658461 : q658232 ∈ P658452 := hsb658454 q658232 hmq658232
    have hq658462 : q658443 ∉ P658229 := fun z => hq658459 ((rSub_rf (P := P658229)) q658443 z)
    have hsb658463 : rSub P658229 P658452 := rSub_tr (rSub_rf (P := P658229)) hsb658454
    have he658464 : F658453 q658232 = .inl (I .byte, n658237, .inl f658236) := (hfr658455 q658232 hmq658232 (nm_c (rn_ao heq658232 heq658231) nm_n)).trans heq658232
    have hfr658465 : rFr [q658231] P658229 F658230 F658453 := rFr_call (rSub_rf (P := P658229)) (rFr_rf (W := []) (P := P658229) (F := F658230)) hfr658455 (fun b hb hn => ⟨nm_n, (nm_c (fun e => hn (e ▸ List.mem_cons_self)) nm_n)⟩)
    change G _ _ _ _ _ _ _ (.ref q658231 :: _) _ _ _
    refine G_widen (cs' := (min 1 (n658444 - n658237))) (sl' := 2 * (n658444 - n658237)) (by omega) (by omega) ?_
    refine G_pop dr_cJ4_append_cf468_5 rfl ?_
    refine G_aload_n 0 dr_cJ4_append_cf468_6 rfl ?_
    exact G_aretA (FieldType.object "java/lang/StringBuilder") dr_cJ4_append_cf468_7 rfl (by first | exact Or.inl ⟨_, rfl⟩ | exact Or.inr ⟨_, rfl⟩) (Or.inr ⟨_, rfl⟩) (show (min 1 (n658444 - n658237)) ≤ 1 by omega) (show 2 * (n658444 - n658237) ≤ (4 * n658237 + 8) by omega) (Or.inr (⟨P658452, F658453, o658442, q658443, n658444, f658445, rfl, rfl, hsb658463, hfr658465, he658456, he658457, hm658458, hq658462, (by omega), (by omega), bo658442, bf658445, (by have qa0 : Int32.toInt 0 = 0 := (by decide); omega), (by have qa0 : Int32.toInt 0 = 0 := (by decide); omega), (by have qa0 : Int32.toInt 0 = 0 := (by decide); omega), (by have qa0 : Int32.toInt 0 = 0 := (by decide); omega), (by have qa0 : Int32.toInt 0 = 0 := (by decide); omega), (by have qa0 : Int32.toInt 0 = 0 := (by decide); omega)⟩))
abbrev ky_658501_AbstractStringBuilder_append : gKey := (cJ5_append_c97b9, 4, "java/lang/AbstractStringBuilder", (some (FieldType.object "java/lang/AbstractStringBuilder")), [], "append", fun _ _ => True)
def pp_658501_AbstractStringBuilder_append (D : va_G) (I : FieldType → ClassId) (P658489 : List Nat) (F658490 : Nat → va_E) (q658491 : Nat) (q658492 : Nat) (p658493 : Int32) (p658494 : Int32) (p658495 : Int32) (f658496 : Nat → Int32) (n658497 : Nat) : Option Value → va_W → Nat → Nat → Prop := fun r w dc ds => (∃ (F658599 : Nat → va_E) (o658596 : Int32) (f658597 : Nat → Int32), r = some (.ref q658491) ∧ w = va_pl P658489 F658599 ∧ rFr [q658491, q658492] P658489 F658490 F658599 ∧ F658599 q658491 = .inr (1, [.ref q658492, .int 0, .int p658494, .int o658596]) ∧ F658599 q658492 = .inl (I .byte, n658497, .inl f658597) ∧ dc ≤ 0 ∧ ds ≤ 0 ∧ gB o658596 1 16777216 ∧ gF f658597 (-128) 127 ∧ p658495.toInt ≤ o658596.toInt ∧ o658596.toInt ≤ p658495.toInt + 11 ∧ o658596.toInt ≤ (n658497 : Int) ∧ (n658497 : Int) ≤ (n658497 : Int) ∧ ((n658497 : Int) ≤ 2 * (n658497 : Int) + 2 ∨ (n658497 : Int) ≤ p658495.toInt + 11) ∧ ((n658497 : Int) = (n658497 : Int) ∨ (n658497 : Int) < o658596.toInt) ∧ ((n658497 : Int) = (n658497 : Int) ∨ 2 * (n658497 : Int) + 2 ≤ (n658497 : Int))) ∨ (∃ (P658604 : List Nat) (F658605 : Nat → va_E) (o658600 : Int32) (q658601 : Nat) (n658602 : Nat) (f658603 : Nat → Int32), r = some (.ref q658491) ∧ w = va_pl P658604 F658605 ∧ rSub P658489 P658604 ∧ rFr [q658491] P658489 F658490 F658605 ∧ F658605 q658491 = .inr (1, [.ref q658601, .int 0, .int p658494, .int o658600]) ∧ F658605 q658601 = .inl (I .byte, n658602, .inl f658603) ∧ q658601 ∈ P658604 ∧ q658601 ∉ P658489 ∧ dc ≤ (min 1 (n658602 - n658497)) ∧ ds ≤ 2 * (n658602 - n658497) ∧ gB o658600 1 16777216 ∧ gF f658603 (-128) 127 ∧ p658495.toInt ≤ o658600.toInt ∧ o658600.toInt ≤ p658495.toInt + 11 ∧ o658600.toInt ≤ (n658602 : Int) ∧ (n658497 : Int) ≤ (n658602 : Int) ∧ ((n658602 : Int) ≤ 2 * (n658497 : Int) + 2 ∨ (n658602 : Int) ≤ p658495.toInt + 11) ∧ ((n658602 : Int) = (n658497 : Int) ∨ (n658497 : Int) < o658600.toInt) ∧ ((n658602 : Int) = (n658497 : Int) ∨ 2 * (n658497 : Int) + 2 ≤ (n658602 : Int)))
set_option maxRecDepth 100000 in
set_option maxHeartbeats 4000000 in
theorem cp_658501_AbstractStringBuilder_append (l : Launch) (hl0 : l.stackTraces = false) (D : va_G) (I : FieldType → ClassId) (P658489 : List Nat) (F658490 : Nat → va_E) (q658491 : Nat) (q658492 : Nat) (p658493 : Int32) (p658494 : Int32) (p658495 : Int32) (f658496 : Nat → Int32) (n658497 : Nat) (hmq658491 : q658491 ∈ P658489) (hmq658492 : q658492 ∈ P658489) (heq658491 : F658490 q658491 = .inr (1, [.ref q658492, .int 0, .int p658494, .int p658495])) (heq658492 : F658490 q658492 = .inl (I .byte, n658497, .inl f658496)) (bp658494 : gB p658494 0 1) (bp658495 : gB p658495 0 16777216) (bf658496 : gF f658496 (-128) 127) (x658498 : (n658497 : Int) ≤ 8388608 - 100000) (x658499 : p658495.toInt ≤ (n658497 : Int)) (x658500 : ((n658497 : Int) ≤ 16777216)) : CtA (gV D I) l yJ5_append_c97b9 cJ5_append_c97b9 4 (some (FieldType.object "java/lang/AbstractStringBuilder")) 4 84 1 (4 * n658497 + 64) [.ref q658491, .int p658493] (va_pl P658489 F658490) (pp_658501_AbstractStringBuilder_append D I P658489 F658490 q658491 q658492 p658493 p658494 p658495 f658496 n658497) gNA := by
  refine CtA_ofF hl0 (by decide +kernel) (Nat.le_of_ble_eq_true rfl) ?_
  have bp658493 := gB_any p658493
  refine G_aload_n 0 dr_cJ5_append_c97b9_0 rfl ?_
  refine Gp_get 3 hmq658491 heq658491 dr_cJ5_append_c97b9_1 (gk_J4 D I) (Nat.le_of_ble_eq_true rfl) wr_7_64 rfl ?_
  refine G_istore_n (L' := [(2, .int p658495), (0, .ref q658491), (1, .int p658493)]) dr_cJ5_append_c97b9_4 (Nat.le_of_ble_eq_true rfl) rfl ?_
  refine G_iload_n 0 dr_cJ5_append_c97b9_5 rfl ?_
  refine G_iload_n 2 dr_cJ5_append_c97b9_6 rfl ?_
  refine Gw_callS (As := [.int p658493]) (gV_ok D I) (cp_648933_Integer_stringSize l hl0 D I P658489 F658490 p658493 ) dr_cJ5_append_c97b9_7 ⟨wr_8_112, wr_1_35, wr_8_114, by decide, rfl, (Nat.le_of_ble_eq_true rfl), (Nat.le_of_ble_eq_true rfl)⟩ wr_8_113 (show 0 + 0 ≤ 1 by first | omega | decide) (show 0 + 0 ≤ (4 * n658497 + 64) by first | omega | decide) (Nat.le_of_ble_eq_true rfl) (fun r658505 w658506 dc658502 ds658503 hp658504 => ?_) (fun _ _ _ _ _ z => z.elim)
  obtain ⟨o658507, rfl, rfl, hdc, hds, bo658507, x658508⟩ := hp658504
  change G _ _ _ _ _ _ _ (.int o658507 :: _) _ _ _
  refine G_widen (cs' := 0) (sl' := 0) (by omega) (by omega) ?_
  refine G_iadd dr_cJ5_append_c97b9_10 (G_nam fun z658509 hz658509 => ?_)
  have ez658509 : z658509.toInt = p658495.toInt + o658507.toInt := by rw [gI_add hz658509 bp658495 bo658507 (by decide) (by decide)]
  have bz658509 : gB z658509 1 16777227 := gB_add (gI_add hz658509 bp658495 bo658507 (by decide) (by decide)) bp658495 bo658507 (by decide) (by decide)
  refine G_istore_n (L' := [(3, .int z658509), (2, .int p658495), (0, .ref q658491), (1, .int p658493)]) dr_cJ5_append_c97b9_11 (Nat.le_of_ble_eq_true rfl) rfl ?_
  refine G_aload_n 2 dr_cJ5_append_c97b9_12 rfl ?_
  refine G_iload_n 0 dr_cJ5_append_c97b9_13 rfl ?_
  refine Gw_callVB (As := [.int z658509]) (gV_ok D I) (cp_658267_AbstractStringBuilder_ensureCapacityInternal l hl0 D I P658489 F658490 q658491 q658492 z658509 p658494 p658495 f658496 n658497 hmq658491 hmq658492 heq658491 heq658492 ⟨by omega, by omega⟩ bp658494 bp658495 bf658496 (by have qa0 : Int32.toInt 0 = 0 := (by decide); omega) (by have qa0 : Int32.toInt 0 = 0 := (by decide); omega)) dr_cJ5_append_c97b9_14 ⟨wr_8_4, wr_1_19, wr_8_7, by decide, rfl, (Nat.le_of_ble_eq_true rfl), (Nat.le_of_ble_eq_true rfl)⟩ wr_8_6 wr_s_0 hmq658491 heq658491 rfl (show 0 + 1 ≤ 1 by first | omega | decide) (show 0 + (2 * n658497 + 2 + z658509.toInt.toNat) ≤ (4 * n658497 + 64) by first | omega | decide) (Nat.le_of_ble_eq_true rfl) (fun r658513 w658514 dc658510 ds658511 hp658512 => ?_) (fun _ _ _ _ _ z => z.elim)
  rcases hp658512 with hp658515 | hp658516
  · obtain ⟨rfl, rfl, hdc, hds, x658517, x658518, x658519, x658520, x658521, x658522⟩ := hp658515
    change G _ _ _ _ _ _ _ _ _ _ _
    refine G_widen (cs' := 0) (sl' := 0) (by omega) (by omega) ?_
    refine G_aload_n 2 dr_cJ5_append_c97b9_17 rfl ?_
    refine Gw_callVB (As := []) (gV_ok D I) (cp_640145_AbstractStringBuilder_isLatin1 l hl0 D I P658489 F658490 q658491 q658492 p658494 p658495 f658496 n658497 hmq658491 hmq658492 heq658491 heq658492 bp658494 bp658495 bf658496 (by have qa0 : Int32.toInt 0 = 0 := (by decide); omega)) dr_cJ5_append_c97b9_18 ⟨wr_8_33, wr_1_19, wr_8_37, by decide, rfl, (Nat.le_of_ble_eq_true rfl), (Nat.le_of_ble_eq_true rfl)⟩ wr_8_34 wr_8_36 hmq658491 heq658491 rfl (show 0 + 0 ≤ 1 by first | omega | decide) (show 0 + 0 ≤ (4 * n658497 + 64) by first | omega | decide) (Nat.le_of_ble_eq_true rfl) (fun r658526 w658527 dc658523 ds658524 hp658525 => ?_) (fun _ _ _ _ _ z => z.elim)
    obtain ⟨rfl, rfl, hdc, hds⟩ := hp658525
    change G _ _ _ _ _ _ _ (.int 1 :: _) _ _ _
    refine G_widen (cs' := 0) (sl' := 0) (by omega) (by omega) ?_
    refine G_if_eq 37 dr_cJ5_append_c97b9_21 (by decide +kernel) (fun hc => absurd hc (by decide)) (fun _ => ?_)
    refine G_iload_n 3 dr_cJ5_append_c97b9_24 rfl ?_
    refine G_iload_n 0 dr_cJ5_append_c97b9_25 rfl ?_
    refine G_aload_n 2 dr_cJ5_append_c97b9_26 rfl ?_
    refine Gp_get 0 hmq658491 heq658491 dr_cJ5_append_c97b9_27 (gk_J4 D I) (Nat.le_of_ble_eq_true rfl) wr_7_60 rfl ?_
    refine Gw_callS (As := [.int p658493, .int z658509, .ref q658492]) (gV_ok D I) (cp_649110_Integer_getChars l hl0 D I P658489 F658490 q658492 p658493 z658509 f658496 n658497 hmq658492 heq658492 ⟨by omega, by omega⟩ bf658496 (by have qa0 : Int32.toInt 0 = 0 := (by decide); omega) (by have q10 : Int32.toInt 10 = 10 := (by decide); have q11 : Int32.toInt 11 = 11 := (by decide); first | exact dgS_up (by omega) (by omega) x658508 (by omega)) (by have qa0 : Int32.toInt 0 = 0 := (by decide); omega)) dr_cJ5_append_c97b9_30 ⟨wr_8_115, wr_1_35, wr_8_117, by decide, rfl, (Nat.le_of_ble_eq_true rfl), (Nat.le_of_ble_eq_true rfl)⟩ wr_8_116 (show 0 + 0 ≤ 1 by first | omega | decide) (show 0 + 0 ≤ (4 * n658497 + 64) by first | omega | decide) (Nat.le_of_ble_eq_true rfl) (fun r658531 w658532 dc658528 ds658529 hp658530 => ?_) (fun _ _ _ _ _ z => z.elim)
    obtain ⟨F658535, o658533, f658534, rfl, rfl, hfr658537, he658538, hdc, hds, bo658533, bf658534⟩ := hp658530
    have he658539 : F658535 q658491 = .inr (1, [.ref q658492, .int 0, .int p658494, .int p658495]) := (hfr658537 q658491 hmq658491 (nm_c (rn_oa heq658491 heq658492) nm_n)).trans heq658491
    have hfr658540 : rFr [q658492] P658489 F658490 F658535 := rFr_call (rSub_rf (P := P658489)) (rFr_rf (W := []) (P := P658489) (F := F658490)) hfr658537 (fun b hb hn => ⟨nm_n, (nm_c (fun e => hn (e ▸ List.mem_cons_self)) nm_n)⟩)
    change G _ _ _ _ _ _ _ (.int o658533 :: _) _ _ _
    refine G_widen (cs' := 0) (sl' := 0) (by omega) (by omega) ?_
    refine G_pop dr_cJ5_append_c97b9_33 rfl ?_
    refine G_goto 48 dr_cJ5_append_c97b9_34 (by decide +kernel) ?_
    refine G_aload_n 2 dr_cJ5_append_c97b9_48 rfl ?_
    refine G_iload_n 0 dr_cJ5_append_c97b9_49 rfl ?_
    refine Gp_put 3 hmq658491 he658539 dr_cJ5_append_c97b9_50 (gk_J4 D I) (Nat.le_of_ble_eq_true rfl) wr_7_64 rfl rfl rfl (Nat.le_of_ble_eq_true rfl) (fun F658541 e658542 n658543 => ?_)
    have he658544 : F658541 q658492 = .inl (I .byte, n658497, .inl f658534) := (n658543 q658492 (rn_ao he658538 he658539)).trans he658538
    have he658545 : F658541 q658491 = .inr (1, [.ref q658492, .int 0, .int p658494, .int z658509]) := e658542
    have hfr658546 : rFr [q658491, q658492] P658489 F658490 F658541 := rFr_put hfr658540 n658543
    refine G_aload_n 2 dr_cJ5_append_c97b9_53 rfl ?_
    exact G_aretA (FieldType.object "java/lang/AbstractStringBuilder") dr_cJ5_append_c97b9_54 rfl (by first | exact Or.inl ⟨_, rfl⟩ | exact Or.inr ⟨_, rfl⟩) (Or.inr ⟨_, rfl⟩) (Nat.le_of_ble_eq_true rfl) (Nat.le_of_ble_eq_true rfl) (Or.inl ⟨F658541, z658509, f658534, rfl, rfl, hfr658546, he658545, he658544, (Nat.le_of_ble_eq_true rfl), (Nat.le_of_ble_eq_true rfl), ⟨by omega, by omega⟩, bf658534, (by have qa0 : Int32.toInt 0 = 0 := (by decide); omega), (by have qa0 : Int32.toInt 0 = 0 := (by decide); omega), (by have qa0 : Int32.toInt 0 = 0 := (by decide); omega), (by have qa0 : Int32.toInt 0 = 0 := (by decide); omega), (by have qa0 : Int32.toInt 0 = 0 := (by decide); omega), (by have qa0 : Int32.toInt 0 = 0 := (by decide); omega), (by have qa0 : Int32.toInt 0 = 0 := (by decide); omega)⟩)
  · obtain ⟨P658556, F658557, q658547, n658548, f658549, rfl, rfl, hsb658558, hfr658559, he658560, he658561, hm658562, hq658563, hdc, hds, bf658549, x658550, x658551, x658552, x658553, x658554, x658555⟩ := hp658516
    have hm658564 : q658491 ∈ P658556 := hsb658558 q658491 hmq658491
    have hm658565 : q658492 ∈ P658556 := hsb658558 q658492 hmq658492
    have hq658566 : q658547 ∉ P658489 := fun z => hq658563 ((rSub_rf (P := P658489)) q658547 z)
    have hsb658567 : rSub P658489 P658556 := rSub_tr (rSub_rf (P := P658489)) hsb658558
    have he658568 : F658557 q658492 = .inl (I .byte, n658497, .inl f658496) := (hfr658559 q658492 hmq658492 (nm_c (rn_ao heq658492 heq658491) nm_n)).trans heq658492
    have hfr658569 : rFr [q658491] P658489 F658490 F658557 := rFr_call (rSub_rf (P := P658489)) (rFr_rf (W := []) (P := P658489) (F := F658490)) hfr658559 (fun b hb hn => ⟨nm_n, (nm_c (fun e => hn (e ▸ List.mem_cons_self)) nm_n)⟩)
    change G _ _ _ _ _ _ _ _ _ _ _
    refine G_widen (cs' := (min 1 (n658548 - n658497))) (sl' := 2 * (n658548 - n658497)) (by omega) (by omega) ?_
    refine G_aload_n 2 dr_cJ5_append_c97b9_17 rfl ?_
    refine Gw_callVB (As := []) (gV_ok D I) (cp_640145_AbstractStringBuilder_isLatin1 l hl0 D I P658556 F658557 q658491 q658547 p658494 p658495 f658549 n658548 hm658564 hm658562 he658560 he658561 bp658494 bp658495 bf658549 (by have qa0 : Int32.toInt 0 = 0 := (by decide); omega)) dr_cJ5_append_c97b9_18 ⟨wr_8_33, wr_1_19, wr_8_37, by decide, rfl, (Nat.le_of_ble_eq_true rfl), (Nat.le_of_ble_eq_true rfl)⟩ wr_8_34 wr_8_36 hm658564 he658560 rfl (show (min 1 (n658548 - n658497)) + 0 ≤ 1 by first | omega | decide) (show 2 * (n658548 - n658497) + 0 ≤ (4 * n658497 + 64) by first | omega | decide) (Nat.le_of_ble_eq_true rfl) (fun r658573 w658574 dc658570 ds658571 hp658572 => ?_) (fun _ _ _ _ _ z => z.elim)
    obtain ⟨rfl, rfl, hdc, hds⟩ := hp658572
    change G _ _ _ _ _ _ _ (.int 1 :: _) _ _ _
    refine G_widen (cs' := (min 1 (n658548 - n658497)) + 0) (sl' := 2 * (n658548 - n658497) + 0) (by omega) (by omega) ?_
    refine G_if_eq 37 dr_cJ5_append_c97b9_21 (by decide +kernel) (fun hc => absurd hc (by decide)) (fun _ => ?_)
    refine G_iload_n 3 dr_cJ5_append_c97b9_24 rfl ?_
    refine G_iload_n 0 dr_cJ5_append_c97b9_25 rfl ?_
    refine G_aload_n 2 dr_cJ5_append_c97b9_26 rfl ?_
    refine Gp_get 0 hm658564 he658560 dr_cJ5_append_c97b9_27 (gk_J4 D I) (Nat.le_of_ble_eq_true rfl) wr_7_60 rfl ?_
    refine Gw_callS (As := [.int p658493, .int z658509, .ref q658547]) (gV_ok D I) (cp_649110_Integer_getChars l hl0 D I P658556 F658557 q658547 p658493 z658509 f658549 n658548 hm658562 he658561 ⟨by omega, by omega⟩ bf658549 (by have qa0 : Int32.toInt 0 = 0 := (by decide); omega) (by have q10 : Int32.toInt 10 = 10 := (by decide); have q11 : Int32.toInt 11 = 11 := (by decide); first | exact dgS_up (by omega) (by omega) x658508 (by omega)) (by have qa0 : Int32.toInt 0 = 0 := (by decide); omega)) dr_cJ5_append_c97b9_30 ⟨wr_8_115, wr_1_35, wr_8_117, by decide, rfl, (Nat.le_of_ble_eq_true rfl), (Nat.le_of_ble_eq_true rfl)⟩ wr_8_116 (show (min 1 (n658548 - n658497)) + 0 + 0 ≤ 1 by first | omega | decide) (show 2 * (n658548 - n658497) + 0 + 0 ≤ (4 * n658497 + 64) by first | omega | decide) (Nat.le_of_ble_eq_true rfl) (fun r658578 w658579 dc658575 ds658576 hp658577 => ?_) (fun _ _ _ _ _ z => z.elim)
    obtain ⟨F658582, o658580, f658581, rfl, rfl, hfr658584, he658585, hdc, hds, bo658580, bf658581⟩ := hp658577
    have he658586 : F658582 q658492 = .inl (I .byte, n658497, .inl f658496) := (hfr658584 q658492 hm658565 (nm_c (fun h => hq658566 (h ▸ hmq658492)) nm_n)).trans he658568
    have he658587 : F658582 q658491 = .inr (1, [.ref q658547, .int 0, .int p658494, .int p658495]) := (hfr658584 q658491 hm658564 (nm_c (fun h => hq658566 (h ▸ hmq658491)) nm_n)).trans he658560
    have hfr658588 : rFr [q658491] P658489 F658490 F658582 := rFr_call hsb658567 hfr658569 hfr658584 (fun b hb hn => ⟨(nm_c (fun e => hn (e ▸ List.mem_cons_self)) nm_n), (nm_c (fun e => hq658566 (e ▸ hb)) nm_n)⟩)
    change G _ _ _ _ _ _ _ (.int o658580 :: _) _ _ _
    refine G_widen (cs' := (min 1 (n658548 - n658497)) + 0 + 0) (sl' := 2 * (n658548 - n658497) + 0 + 0) (by omega) (by omega) ?_
    refine G_pop dr_cJ5_append_c97b9_33 rfl ?_
    refine G_goto 48 dr_cJ5_append_c97b9_34 (by decide +kernel) ?_
    refine G_aload_n 2 dr_cJ5_append_c97b9_48 rfl ?_
    refine G_iload_n 0 dr_cJ5_append_c97b9_49 rfl ?_
    refine Gp_put 3 hm658564 he658587 dr_cJ5_append_c97b9_50 (gk_J4 D I) (Nat.le_of_ble_eq_true rfl) wr_7_64 rfl rfl rfl (Nat.le_of_ble_eq_true rfl) (fun F658589 e658590 n658591 => ?_)
    have he658592 : F658589 q658492 = .inl (I .byte, n658497, .inl f658496) := (n658591 q658492 (rn_ao he658586 he658587)).trans he658586
    have he658593 : F658589 q658547 = .inl (I .byte, n658548, .inl f658581) := (n658591 q658547 (fun h => hq658566 (h ▸ hmq658491))).trans he658585
    have he658594 : F658589 q658491 = .inr (1, [.ref q658547, .int 0, .int p658494, .int z658509]) := e658590
    have hfr658595 : rFr [q658491] P658489 F658490 F658589 := rFr_put' List.mem_cons_self hfr658588 n658591
    refine G_aload_n 2 dr_cJ5_append_c97b9_53 rfl ?_
    exact G_aretA (FieldType.object "java/lang/AbstractStringBuilder") dr_cJ5_append_c97b9_54 rfl (by first | exact Or.inl ⟨_, rfl⟩ | exact Or.inr ⟨_, rfl⟩) (Or.inr ⟨_, rfl⟩) (show (min 1 (n658548 - n658497)) + 0 + 0 ≤ 1 by omega) (show 2 * (n658548 - n658497) + 0 + 0 ≤ (4 * n658497 + 64) by omega) (Or.inr (⟨P658556, F658589, z658509, q658547, n658548, f658581, rfl, rfl, hsb658567, hfr658595, he658594, he658593, hm658562, hq658566, (by omega), (by omega), ⟨by omega, by omega⟩, bf658581, (by have qa0 : Int32.toInt 0 = 0 := (by decide); omega), (by have qa0 : Int32.toInt 0 = 0 := (by decide); omega), (by have qa0 : Int32.toInt 0 = 0 := (by decide); omega), (by have qa0 : Int32.toInt 0 = 0 := (by decide); omega), (by have qa0 : Int32.toInt 0 = 0 := (by decide); omega), (by have qa0 : Int32.toInt 0 = 0 := (by decide); omega), (by have qa0 : Int32.toInt 0 = 0 := (by decide); omega)⟩))
