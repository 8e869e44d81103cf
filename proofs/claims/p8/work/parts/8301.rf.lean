theorem dr_cX17_input_30 : decode cX17_input 30 = .ok (.iload_n 2, 1) := by decide +kernel
theorem dr_cX17_input_31 : decode cX17_input 31 = .ok (.iconst 4, 1) := by decide +kernel
theorem dr_cX17_input_32 : decode cX17_input 32 = .ok (.if_icmp .ge 39, 3) := by decide +kernel
theorem dr_cX17_input_35 : decode cX17_input 35 = .ok (.aload_n 0, 1) := by decide +kernel
theorem dr_cX17_input_36 : decode cX17_input 36 = .ok (.getfield 303, 3) := by decide +kernel
theorem dr_cX17_input_39 : decode cX17_input 39 = .ok (.iload_n 1, 1) := by decide +kernel
theorem dr_cX17_input_40 : decode cX17_input 40 = .ok (.aload_n 0, 1) := by decide +kernel
theorem dr_cX17_input_41 : decode cX17_input 41 = .ok (.getfield 303, 3) := by decide +kernel
theorem dr_cX17_input_44 : decode cX17_input 44 = .ok (.iload_n 1, 1) := by decide +kernel
theorem dr_cX17_input_45 : decode cX17_input 45 = .ok (.iaload, 1) := by decide +kernel
theorem dr_cX17_input_46 : decode cX17_input 46 = .ok (.bipush 8, 2) := by decide +kernel
theorem dr_cX17_input_48 : decode cX17_input 48 = .ok (.ishl, 1) := by decide +kernel
theorem dr_cX17_input_49 : decode cX17_input 49 = .ok (.aload_n 0, 1) := by decide +kernel
theorem dr_cX17_input_50 : decode cX17_input 50 = .ok (.getfield 374, 3) := by decide +kernel
theorem dr_cX17_input_53 : decode cX17_input 53 = .ok (.iconst 4, 1) := by decide +kernel
theorem dr_cX17_input_54 : decode cX17_input 54 = .ok (.iload_n 1, 1) := by decide +kernel
theorem dr_cX17_input_55 : decode cX17_input 55 = .ok (.imul, 1) := by decide +kernel
theorem dr_cX17_input_56 : decode cX17_input 56 = .ok (.iload_n 2, 1) := by decide +kernel
theorem dr_cX17_input_57 : decode cX17_input 57 = .ok (.iadd, 1) := by decide +kernel
theorem dr_cX17_input_58 : decode cX17_input 58 = .ok (.baload, 1) := by decide +kernel
theorem dr_cX17_input_59 : decode cX17_input 59 = .ok (.sipush 255, 3) := by decide +kernel
theorem dr_cX17_input_62 : decode cX17_input 62 = .ok (.iand, 1) := by decide +kernel
theorem dr_cX17_input_63 : decode cX17_input 63 = .ok (.ior, 1) := by decide +kernel
theorem dr_cX17_input_64 : decode cX17_input 64 = .ok (.iastore, 1) := by decide +kernel
theorem dr_cX17_input_65 : decode cX17_input 65 = .ok (.iinc 2 1, 3) := by decide +kernel
theorem dr_cX17_input_68 : decode cX17_input 68 = .ok (.goto (-38), 3) := by decide +kernel
theorem dr_cX17_input_19 : decode cX17_input 19 = .ok (.iload_n 1, 1) := by decide +kernel
theorem dr_cX17_input_20 : decode cX17_input 20 = .ok (.aload_n 0, 1) := by decide +kernel
theorem dr_cX17_input_21 : decode cX17_input 21 = .ok (.getfield 303, 3) := by decide +kernel
theorem dr_cX17_input_24 : decode cX17_input 24 = .ok (.arraylength, 1) := by decide +kernel
theorem dr_cX17_input_25 : decode cX17_input 25 = .ok (.if_icmp .ge 52, 3) := by decide +kernel
theorem dr_cX17_input_28 : decode cX17_input 28 = .ok (.iconst 0, 1) := by decide +kernel
theorem dr_cX17_input_29 : decode cX17_input 29 = .ok (.istore_n 2, 1) := by decide +kernel
theorem dr_cX17_input_71 : decode cX17_input 71 = .ok (.iinc 1 1, 3) := by decide +kernel
theorem dr_cX17_input_74 : decode cX17_input 74 = .ok (.goto (-55), 3) := by decide +kernel
theorem dr_cX17_input_0 : decode cX17_input 0 = .ok (.aload_n 0, 1) := by decide +kernel
theorem dr_cX17_input_1 : decode cX17_input 1 = .ok (.iconst 0, 1) := by decide +kernel
theorem dr_cX17_input_2 : decode cX17_input 2 = .ok (.putfield 380, 3) := by decide +kernel
theorem dr_cX17_input_5 : decode cX17_input 5 = .ok (.aload_n 0, 1) := by decide +kernel
theorem dr_cX17_input_6 : decode cX17_input 6 = .ok (.aload_n 0, 1) := by decide +kernel
theorem dr_cX17_input_7 : decode cX17_input 7 = .ok (.getfield 383, 3) := by decide +kernel
theorem dr_cX17_input_10 : decode cX17_input 10 = .ok (.iconst 4, 1) := by decide +kernel
theorem dr_cX17_input_11 : decode cX17_input 11 = .ok (.idiv, 1) := by decide +kernel
theorem dr_cX17_input_12 : decode cX17_input 12 = .ok (.newarray .int, 2) := by decide +kernel
theorem dr_cX17_input_14 : decode cX17_input 14 = .ok (.putfield 303, 3) := by decide +kernel
theorem dr_cX17_input_17 : decode cX17_input 17 = .ok (.iconst 0, 1) := by decide +kernel
theorem dr_cX17_input_18 : decode cX17_input 18 = .ok (.istore_n 1, 1) := by decide +kernel
theorem dr_cX17_input_77 : decode cX17_input 77 = .ok (.aload_n 0, 1) := by decide +kernel
theorem dr_cX17_input_78 : decode cX17_input 78 = .ok (.iconst 0, 1) := by decide +kernel
theorem dr_cX17_input_79 : decode cX17_input 79 = .ok (.putfield 383, 3) := by decide +kernel
theorem dr_cX17_input_82 : decode cX17_input 82 = .ok (.aload_n 0, 1) := by decide +kernel
theorem dr_cX17_input_83 : decode cX17_input 83 = .ok (.getfield 303, 3) := by decide +kernel
theorem dr_cX17_input_86 : decode cX17_input 86 = .ok (.arraylength, 1) := by decide +kernel
theorem dr_cX17_input_87 : decode cX17_input 87 = .ok (.ireturn, 1) := by decide +kernel
abbrev ky_inp : gKey := (cX17_input, 3, "SpillForgeModel", (some FieldType.int), [], "input", fun _ _ => True)
def inS (D : va_G) (I : FieldType → ClassId) (P0 : List Nat) (F0 : Nat → va_E) (γ0 el : Nat → Nat → Nat) (P : List Nat) (γ : Nat → Nat → Nat) (m A N : Nat) (e : va_E) (F : Nat → va_E) : Prop := rSk 0 [] [10, 26] D I P0 F0 γ0 el P F γ el ∧ F m = e ∧ A ∈ P ∧ γ 0 A = 26 ∧ ∃ f : Nat → Int32, F A = .inl (I .int, N, .inl f)
theorem inS_a {D : va_G} {I : FieldType → ClassId} {P0 P : List Nat} {F0 F F1 : Nat → va_E} {γ0 γ el : Nat → Nat → Nat} {m A N : Nat} {e : va_E} {f1 : Nat → Int32} (h : inS D I P0 F0 γ0 el P γ m A N e F) (hm : γ 0 m = 10) (hN : N ≤ 2048) (e1 : F1 A = .inl (I .int, N, .inl f1)) (n : ∀ b, b ≠ A → F1 b = F b) : inS D I P0 F0 γ0 el P γ m A N e F1 := by
  obtain ⟨h1, h2, h3, h4, -⟩ := h
  have hmA : m ≠ A := fun q => by rw [q, h4] at hm; cases hm
  exact ⟨rSk_put h1 (RS_set h1.1 n (show rKd γ A 26 from h4) (by decide) ⟨N, f1, e1, by omega⟩) n (show rKd γ A 26 from h4) (by decide) (fun _ z => nomatch z), (n m hmA).trans h2, h3, h4, f1, e1⟩
set_option maxRecDepth 100000 in
set_option maxHeartbeats 4000000 in
theorem in_l2 {l : Launch} {D : va_G} {I : FieldType → ClassId} {P0 P : List Nat} {F0 : Nat → va_E} {γ0 γ el : Nat → Nat → Nat} {m A N cs sl mc ms : Nat} {Qf : gFin} {r35 : Nat} {v9 v10 v11 v12 v13 v14 v23 v24 v25 v26 v27 v30 v32 v33 v34 i : Int32} (hm : γ 0 m = 10) (t25 : γ 0 (γ 9 31) = 25) (hN : N ≤ 2048) (hi0 : 0 ≤ i.toInt) (hiN : i.toInt < (N : Int))
    (kk : ∀ (F : Nat → va_E) (jj : Int32), inS D I P0 F0 γ0 el P γ m A N (mdE γ A r35 v9 v10 v11 v12 v13 v14 v23 v24 v25 v26 v27 v30 v32 v33 v34) F → G (gV D I) l (gRm 1 20 mc ms) Qf ky_inp 71 [(2, .int jj), (1, .int i), (0, .ref m)] [] (va_pl P F) cs sl) :
    ∀ (μ : Nat) (F : Nat → va_E) (jj : Int32), 4 - jj.toInt < (μ : Int) → 0 ≤ jj.toInt → jj.toInt ≤ 4 → inS D I P0 F0 γ0 el P γ m A N (mdE γ A r35 v9 v10 v11 v12 v13 v14 v23 v24 v25 v26 v27 v30 v32 v33 v34) F →
    G (gV D I) l (gRm 1 20 mc ms) Qf ky_inp 30 [(2, .int jj), (1, .int i), (0, .ref m)] [] (va_pl P F) cs sl := by
  intro μ
  induction μ with
  | zero => intro F jj h h0 h4 _; exact absurd h (by omega)
  | succ μ ih =>
  intro F jj hμ h0 h4 hS
  obtain ⟨hk, he, mA, kA, fA, eA⟩ := id hS
  have mm : m ∈ P := hk.1.1 m (by omega)
  obtain ⟨ft, f1, f2⟩ := show rk_25 I (F (γ 9 31)) from RS_o hk.1 t25
  have mt : γ 9 31 ∈ P := hk.1.1 _ (by omega)
  refine G_iload_n 0 dr_cX17_input_30 rfl ?_
  refine G_iconst 4 dr_cX17_input_31 (by decide +kernel) ?_
  have z4 : Int32.toInt 4 = 4 := by decide
  refine G_icmp_ge 71 dr_cX17_input_32 (by decide +kernel) (fun _ => kk F jj hS) (fun hc => ?_)
  have hlt : jj.toInt < 4 := gj_nle hc rfl
  refine G_aload_n 2 dr_cX17_input_35 rfl ?_
  refine Gp_get 28 mm he dr_cX17_input_36 (gk_X17 D I) (Nat.le_of_ble_eq_true rfl) wr_7_102 rfl ?_
  refine G_iload_n 1 dr_cX17_input_39 rfl ?_
  refine G_aload_n 2 dr_cX17_input_40 rfl ?_
  refine Gp_get 28 mm he dr_cX17_input_41 (gk_X17 D I) (Nat.le_of_ble_eq_true rfl) wr_7_102 rfl ?_
  refine G_iload_n 1 dr_cX17_input_44 rfl ?_
  refine Gp_iald 0 mA eA dr_cX17_input_45 rfl (gB_inr hi0 hiN) (G_nam fun z1 _ => ?_)
  refine G_bipush 8 dr_cX17_input_46 (by decide +kernel) ?_
  refine G_ishl dr_cX17_input_48 (G_nam fun z2 _ => ?_)
  refine G_aload_n 2 dr_cX17_input_49 rfl ?_
  refine Gp_get 31 mm he dr_cX17_input_50 (gk_X17 D I) (Nat.le_of_ble_eq_true rfl) wr_7_105 rfl ?_
  refine G_iconst 4 dr_cX17_input_53 (by decide +kernel) ?_
  refine G_iload_n 1 dr_cX17_input_54 rfl ?_
  refine G_imul dr_cX17_input_55 (G_nam fun z3 hz3 => ?_)
  have bi : gB i 0 2048 := ⟨hi0, by omega⟩
  have e3 : z3.toInt = 4 * i.toInt := by rw [gI_mul hz3 (gBl z4) bi (by decide) (by decide) (by decide), z4]
  refine G_iload_n 0 dr_cX17_input_56 rfl ?_
  refine G_iadd dr_cX17_input_57 (G_nam fun z5 hz5 => ?_)
  have e5 : z5.toInt = z3.toInt + jj.toInt := gI_add hz5 (⟨by omega, by omega⟩ : gB z3 0 8192) (⟨h0, h4⟩ : gB jj 0 4) (by decide) (by decide)
  refine Gp_bald 1 mt f1 dr_cX17_input_58 rfl (gB_inr (by omega) (by omega)) (G_nam fun z6 _ => ?_)
  refine G_sipush 255 dr_cX17_input_59 (by decide +kernel) ?_
  refine G_iand dr_cX17_input_62 (G_nam fun z7 _ => ?_)
  refine G_ior dr_cX17_input_63 (G_nam fun z8 _ => ?_)
  refine Gp_iast 0 mA eA dr_cX17_input_64 rfl (gB_inr hi0 hiN) (fun F1 e1 n1 => ?_)
  have hS1 := inS_a hS hm hN e1 n1
  obtain ⟨j1, hj1⟩ : ∃ z, z = jj + 1 := ⟨_, rfl⟩
  have ej : j1.toInt = jj.toInt + 1 := by rw [gI_add hj1 (⟨h0, h4⟩ : gB jj 0 4) (gBl (show Int32.toInt 1 = 1 by decide)) (by decide) (by decide), show Int32.toInt 1 = 1 from by decide]
  refine G_iinc (L' := [(2, .int j1), (1, .int i), (0, .ref m)]) j1 0 dr_cX17_input_65 rfl (by rw [hj1]; rfl) (Nat.le_of_ble_eq_true rfl) rfl ?_
  refine G_goto 30 dr_cX17_input_68 (by decide +kernel) ?_
  exact ih F1 j1 (by omega) (by omega) (by omega) hS1
set_option maxRecDepth 100000 in
set_option maxHeartbeats 4000000 in
theorem in_l1 {l : Launch} {D : va_G} {I : FieldType → ClassId} {P0 P : List Nat} {F0 : Nat → va_E} {γ0 γ el : Nat → Nat → Nat} {m A N cs sl mc ms : Nat} {Qf : gFin} {r35 : Nat} {v9 v10 v11 v12 v13 v14 v23 v24 v25 v26 v27 v30 v32 v33 v34 : Int32} (hm : γ 0 m = 10) (t25 : γ 0 (γ 9 31) = 25) (hN : N ≤ 2048)
    (kk : ∀ (F : Nat → va_E) (i : Int32), inS D I P0 F0 γ0 el P γ m A N (mdE γ A r35 v9 v10 v11 v12 v13 v14 v23 v24 v25 v26 v27 v30 v32 v33 v34) F → G (gV D I) l (gRm 1 20 mc ms) Qf ky_inp 77 [(1, .int i), (0, .ref m)] [] (va_pl P F) cs sl) :
    ∀ (μ : Nat) (F : Nat → va_E) (i : Int32), (N : Int) - i.toInt < (μ : Int) → 0 ≤ i.toInt → i.toInt ≤ (N : Int) → inS D I P0 F0 γ0 el P γ m A N (mdE γ A r35 v9 v10 v11 v12 v13 v14 v23 v24 v25 v26 v27 v30 v32 v33 v34) F →
    G (gV D I) l (gRm 1 20 mc ms) Qf ky_inp 19 [(1, .int i), (0, .ref m)] [] (va_pl P F) cs sl := by
  intro μ
  induction μ with
  | zero => intro F i h h0 h4 _; exact absurd h (by omega)
  | succ μ ih =>
  intro F i hμ h0 h4 hS
  obtain ⟨hk, he, mA, kA, fA, eA⟩ := id hS
  have mm : m ∈ P := hk.1.1 m (by omega)
  refine G_iload_n 0 dr_cX17_input_19 rfl ?_
  refine G_aload_n 1 dr_cX17_input_20 rfl ?_
  refine Gp_get 28 mm he dr_cX17_input_21 (gk_X17 D I) (Nat.le_of_ble_eq_true rfl) wr_7_102 rfl ?_
  refine Gp_alen (Int32.ofNat N) 0 mA eA dr_cX17_input_24 rfl rfl (G_nam fun z hz => ?_)
  have ez : z.toInt = (N : Nat) := gI_ofM hz (by omega)
  refine G_icmp_ge 77 dr_cX17_input_25 (by decide +kernel) (fun _ => kk F i hS) (fun hc => ?_)
  have hlt : i.toInt < z.toInt := gj_nle hc rfl
  refine G_iconst 0 dr_cX17_input_28 (by decide +kernel) ?_
  refine G_istore_n (L' := [(2, .int 0), (1, .int i), (0, .ref m)]) dr_cX17_input_29 (Nat.le_of_ble_eq_true rfl) rfl ?_
  have z0 : Int32.toInt 0 = 0 := by decide
  refine in_l2 hm t25 hN h0 (by omega) (fun F1 jj hS1 => ?_) 5 F 0 (by rw [z0]; decide) (by rw [z0]; decide) (by rw [z0]; decide) hS
  obtain ⟨i1, hi1⟩ : ∃ z, z = i + 1 := ⟨_, rfl⟩
  have ei : i1.toInt = i.toInt + 1 := by rw [gI_add hi1 (⟨h0, by omega⟩ : gB i 0 2048) (gBl (show Int32.toInt 1 = 1 by decide)) (by decide) (by decide), show Int32.toInt 1 = 1 from by decide]
  refine G_iinc (L' := [(1, .int i1), (2, .int jj), (0, .ref m)]) i1 1 dr_cX17_input_71 rfl (by rw [hi1]; rfl) (Nat.le_of_ble_eq_true rfl) rfl ?_
  refine G_goto 19 dr_cX17_input_74 (by decide +kernel) ?_
  refine G_lv [0, 2] rfl ?_
  exact ih F1 i1 (by omega) (by omega) (by omega) hS1
set_option maxRecDepth 100000 in
set_option maxHeartbeats 4000000 in
theorem cp_input (l : Launch) (hl0 : l.stackTraces = false) (D : va_G) (I : FieldType → ClassId) {P : List Nat} {F : Nat → va_E} {γ el : Nat → Nat → Nat} {m : Nat} (hT : RS D I P F γ el) (hm : γ 0 m = 10) :
    CtA (gV D I) l yX17_input cX17_input 3 (some FieldType.int) 1 20 1 2048 [.ref m] (va_pl P F) (inP D I P F γ el m) gNA := by
  refine CtA_of hl0 (by decide) (Nat.le_of_ble_eq_true rfl) ?_
  obtain ⟨r28, r35, v9, v10, v11, v12, v13, v14, v23, v24, v25, v26, v27, v30, v32, v33, v34, he, hM1, hK, hM2⟩ := rk10_m (show rk_10 γ (F m) from RS_o hT hm)
  have hM1' := hM1
  obtain ⟨q9, q10, q11, q14, q25, q26, q27, q32, q34⟩ := hM1
  have mm : m ∈ P := hT.1 m (by omega)
  have e32 : fI (F m) 32 = v32 := by rw [he]; rfl
  have e10 : fI (F m) 10 = v10 := by rw [he]; rfl
  have e9 : fI (F m) 9 = v9 := by rw [he]; rfl
  have t25 : γ 0 (γ 9 31) = 25 := hK.2.2.2.2.2.2.2.2.2.2.2.2.2.2.2.2.2.2.2.2.1
  refine G_aload_n 0 dr_cX17_input_0 rfl ?_
  refine G_iconst 0 dr_cX17_input_1 (by decide +kernel) ?_
  refine Gp_put 30 mm he dr_cX17_input_2 (gk_X17 D I) (Nat.le_of_ble_eq_true rfl) wr_7_104 rfl rfl rfl (Nat.le_of_ble_eq_true rfl) (fun F1 e1 n1 => ?_)
  have e1' : F1 m = mdE γ r28 r35 v9 v10 v11 v12 v13 v14 v23 v24 v25 v26 v27 0 v32 v33 v34 := e1
  have hT1 := RS_md hT hm n1 e1' hM1' hK hM2
  have hk1 := rSk_put (rSk_rf (f := 0) (K := []) (KF := [10, 26]) hT) hT1 n1 (show rKd γ m 10 from hm) (by decide) (fun _ z => nomatch z)
  refine G_aload_n 0 dr_cX17_input_5 rfl ?_
  refine G_aload_n 0 dr_cX17_input_6 rfl ?_
  refine Gp_get 32 mm e1' dr_cX17_input_7 (gk_X17 D I) (Nat.le_of_ble_eq_true rfl) wr_7_106 rfl ?_
  refine G_iconst 4 dr_cX17_input_10 (by decide +kernel) ?_
  refine G_idiv dr_cX17_input_11 (by decide) (G_nam fun z hz => ?_)
  have ez : z.toInt = v32.toInt / 4 := gI_div hz q32 (by decide) (by decide) (by decide)
  have q32a := q32.1
  have q32b := q32.2
  have hz0 : 0 ≤ z.toInt := by omega
  have hz1 : z.toInt ≤ 2048 := by omega
  refine G_newa 0 (z.toInt.toNat, .inl (fun _ => 0)) dr_cX17_input_12 rfl rfl (by intro C h; cases h) wr_1_95 (fun _ => ga_int _ _) (g_n0 (by omega)) rfl (show z.toInt.toNat * 4 ≤ 536870912 by omega) (show 0 + 1 ≤ 1 by decide) (show 0 + z.toInt.toNat ≤ 2048 by omega) (fun A => Gp_in (fun P2 F2 hq hP e2 n2 => ?_))
  have hs2 : rSub P P2 := rSub_new (rSub_rf (P := P)) hP
  have A0 : γ 0 A = 0 := RS_new hT hq
  have mA2 : A ∈ P2 := (hP A).mpr (Or.inr rfl)
  have hN : z.toInt.toNat ≤ 2048 := by omega
  have sk2 : rSk 0 [] [10, 26] D I P F1 γ el P2 F2 (gNw γ A 26) el := rSk_nw hT1 hq hs2 mA2 n2 ⟨z.toInt.toNat, fun _ => 0, e2, by omega⟩
  have hk2 := rSk_tr hk1 sk2 (fun _ z => nomatch z) (fun _ z => z) (fun _ z => nomatch z)
  have hmA : m ≠ A := fun e => by rw [e, A0] at hm; cases hm
  have hm2 : gNw γ A 26 0 m = 10 := (gNw_ne hmA).trans hm
  have g9 : gNw γ A 26 9 = γ 9 := gNw_j (by decide)
  have e2m : F2 m = mdE (gNw γ A 26) r28 r35 v9 v10 v11 v12 v13 v14 v23 v24 v25 v26 v27 0 v32 v33 v34 := (n2 m hmA).trans e1'
  have mm2 := hs2 m mm
  have kA : gNw γ A 26 0 A = 26 := if_pos ⟨rfl, rfl⟩
  have hM2' : rM2 (gNw γ A 26) v9 v10 v34 r35 := by
    unfold rM2
    rw [gNw_j (j := 6) (by decide), gNw_j (j := 23) (by decide), gNw_j (j := 12) (by decide)]
    exact hM2
  refine Gp_put 28 mm2 e2m dr_cX17_input_14 (gk_X17 D I) (Nat.le_of_ble_eq_true rfl) wr_7_102 rfl rfl rfl (Nat.le_of_ble_eq_true rfl) (fun F3 e3 n3 => ?_)
  have e3' : F3 m = mdE (gNw γ A 26) A r35 v9 v10 v11 v12 v13 v14 v23 v24 v25 v26 v27 0 v32 v33 v34 := e3
  have hK3 := mdK_nw A0 hK
  have hT3 := RS_md hk2.1 hm2 n3 e3' hM1' hK3 hM2'
  have hk3 := rSk_put hk2 hT3 n3 (show rKd (gNw γ A 26) m 10 from hm2) (by decide) (fun _ z => nomatch z)
  have t25' : gNw γ A 26 0 (gNw γ A 26 9 31) = 25 := hK3.2.2.2.2.2.2.2.2.2.2.2.2.2.2.2.2.2.2.2.2.1
  have hS3 : inS D I P F γ el P2 (gNw γ A 26) m A z.toInt.toNat (mdE (gNw γ A 26) A r35 v9 v10 v11 v12 v13 v14 v23 v24 v25 v26 v27 0 v32 v33 v34) F3 := ⟨hk3, e3', mA2, kA, fun _ => 0, (n3 A (Ne.symm hmA)).trans e2⟩
  refine G_iconst 0 dr_cX17_input_17 (by decide +kernel) ?_
  refine G_istore_n (L' := [(1, .int 0), (0, .ref m)]) dr_cX17_input_18 (Nat.le_of_ble_eq_true rfl) rfl ?_
  have z0 : Int32.toInt 0 = 0 := by decide
  refine in_l1 hm2 t25' hN (fun F4 i hS4 => ?_) (z.toInt.toNat + 1) F3 0 (by rw [z0]; omega) (by rw [z0]; decide) (by rw [z0]; omega) hS3
  obtain ⟨hk4, he4, -, -, fA, eA4⟩ := id hS4
  refine G_aload_n 1 dr_cX17_input_77 rfl ?_
  refine G_iconst 0 dr_cX17_input_78 (by decide +kernel) ?_
  refine Gp_put 32 mm2 he4 dr_cX17_input_79 (gk_X17 D I) (Nat.le_of_ble_eq_true rfl) wr_7_106 rfl rfl rfl (Nat.le_of_ble_eq_true rfl) (fun F5 e5 n5 => ?_)
  have e5' : F5 m = mdE (gNw γ A 26) A r35 v9 v10 v11 v12 v13 v14 v23 v24 v25 v26 v27 0 0 v33 v34 := e5
  have hT5 := RS_md hk4.1 hm2 n5 e5' ⟨q9, q10, q11, q14, q25, q26, q27, ⟨by decide, by decide⟩, q34⟩ hK3 hM2'
  have hk5 := rSk_put hk4 hT5 n5 (show rKd (gNw γ A 26) m 10 from hm2) (by decide) (fun _ z => nomatch z)
  refine G_aload_n 1 dr_cX17_input_82 rfl ?_
  refine Gp_get 28 mm2 e5' dr_cX17_input_83 (gk_X17 D I) (Nat.le_of_ble_eq_true rfl) wr_7_102 rfl ?_
  refine Gp_alen (Int32.ofNat z.toInt.toNat) 0 mA2 ((n5 A (Ne.symm hmA)).trans eA4) dr_cX17_input_86 rfl rfl (G_nam fun x hx => ?_)
  exact G_iretA dr_cX17_input_87 rfl (show 0 + 1 ≤ 1 by decide) (show 0 + z.toInt.toNat ≤ 2048 by omega) ⟨P2, F5, gNw γ A 26, x, rfl, rfl, hk5, fun j hj => gNw_j hj, by rw [e5', e9]; rfl, by rw [e5', e10]; rfl, by rw [e5']; rfl, by omega, by rw [e32]; omega, by rw [e5', he]; rfl, by have ex := gI_ofM hx (by omega); rw [ex, e32]; omega⟩
abbrev ky_674007_AbstractStringBuilder_ensureCapacityInternal : gKey := (cJ5_ensureCapacityInternal_d00df, 3, "java/lang/AbstractStringBuilder", none, [], "ensureCapacityInternal", fun _ _ => True)
def pp_674007_AbstractStringBuilder_ensureCapacityInternal (D : va_G) (I : FieldType → ClassId) (P673996 : List Nat) (F673997 : Nat → va_E) (q673998 : Nat) (q673999 : Nat) (p674000 : Int32) (p674001 : Int32) (p674002 : Int32) (f674003 : Nat → Int32) (n674004 : Nat) : Option Value → va_W → Nat → Nat → Prop := fun r w dc ds => (r = none ∧ w = va_pl P673996 F673997 ∧ dc ≤ 0 ∧ ds ≤ 0 ∧ p674000.toInt ≤ (n674004 : Int) ∧ (n674004 : Int) ≤ (n674004 : Int) ∧ ((n674004 : Int) = (n674004 : Int) ∨ (n674004 : Int) < p674000.toInt) ∧ ((n674004 : Int) ≤ 2 * (n674004 : Int) + 2 ∨ (n674004 : Int) ≤ p674000.toInt) ∧ ((n674004 : Int) = (n674004 : Int) ∨ (n674004 : Int) < p674000.toInt) ∧ ((n674004 : Int) = (n674004 : Int) ∨ 2 * (n674004 : Int) + 2 ≤ (n674004 : Int))) ∨ (∃ (P674057 : List Nat) (F674058 : Nat → va_E) (q674054 : Nat) (n674055 : Nat) (f674056 : Nat → Int32), r = none ∧ w = va_pl P674057 F674058 ∧ rSub P673996 P674057 ∧ rFr [q673998] P673996 F673997 F674058 ∧ F674058 q673998 = .inr (1, [.ref q674054, .int 0, .int p674001, .int p674002]) ∧ F674058 q674054 = .inl (I .byte, n674055, .inl f674056) ∧ q674054 ∈ P674057 ∧ q674054 ∉ P673996 ∧ dc ≤ (min 1 (n674055 - n674004)) ∧ ds ≤ 2 * (n674055 - n674004) ∧ gF f674056 (-128) 127 ∧ p674000.toInt ≤ (n674055 : Int) ∧ (n674004 : Int) ≤ (n674055 : Int) ∧ ((n674055 : Int) = (n674004 : Int) ∨ (n674004 : Int) < p674000.toInt) ∧ ((n674055 : Int) ≤ 2 * (n674004 : Int) + 2 ∨ (n674055 : Int) ≤ p674000.toInt) ∧ ((n674055 : Int) = (n674004 : Int) ∨ (n674004 : Int) < p674000.toInt) ∧ ((n674055 : Int) = (n674004 : Int) ∨ 2 * (n674004 : Int) + 2 ≤ (n674055 : Int)))
set_option maxRecDepth 100000 in
set_option maxHeartbeats 4000000 in
theorem cp_674007_AbstractStringBuilder_ensureCapacityInternal (l : Launch) (hl0 : l.stackTraces = false) (D : va_G) (I : FieldType → ClassId) (P673996 : List Nat) (F673997 : Nat → va_E) (q673998 : Nat) (q673999 : Nat) (p674000 : Int32) (p674001 : Int32) (p674002 : Int32) (f674003 : Nat → Int32) (n674004 : Nat) (hmq673998 : q673998 ∈ P673996) (hmq673999 : q673999 ∈ P673996) (heq673998 : F673997 q673998 = .inr (1, [.ref q673999, .int 0, .int p674001, .int p674002])) (heq673999 : F673997 q673999 = .inl (I .byte, n674004, .inl f674003)) (bp674000 : gB p674000 0 8388608) (bp674001 : gB p674001 0 1) (bp674002 : gB p674002 0 16777216) (bf674003 : gF f674003 (-128) 127) (x674005 : (n674004 : Int) ≤ 8388608) (x674006 : ((n674004 : Int) ≤ 16777216)) : CtA (gV D I) l yJ5_ensureCapacityInternal_d00df cJ5_ensureCapacityInternal_d00df 3 none 3 62 1 (2 * n674004 + 2 + p674000.toInt.toNat) [.ref q673998, .int p674000] (va_pl P673996 F673997) (pp_674007_AbstractStringBuilder_ensureCapacityInternal D I P673996 F673997 q673998 q673999 p674000 p674001 p674002 f674003 n674004) gNA := by
  refine CtA_ofF hl0 (by decide +kernel) (Nat.le_of_ble_eq_true rfl) ?_
  refine G_aload_n 0 dr_cJ5_ensureCapacityInternal_d00df_0 rfl ?_
  refine Gp_get 0 hmq673998 heq673998 dr_cJ5_ensureCapacityInternal_d00df_1 (gk_J4 D I) (Nat.le_of_ble_eq_true rfl) wr_7_60 rfl ?_
  refine Gp_alen (Int32.ofNat n674004) 1 hmq673999 heq673999 dr_cJ5_ensureCapacityInternal_d00df_4 rfl rfl (G_nam fun z674008 hz674008 => ?_)
  have ez674008 : z674008.toInt = (n674004 : Nat) := gI_ofM hz674008 (by omega)
  have bz674008 : gB z674008 0 16777216 := ⟨by omega, by omega⟩
  refine G_aload_n 0 dr_cJ5_ensureCapacityInternal_d00df_5 rfl ?_
  refine Gp_get 1 hmq673998 heq673998 dr_cJ5_ensureCapacityInternal_d00df_6 (gk_J4 D I) (Nat.le_of_ble_eq_true rfl) wr_7_61 rfl ?_
  refine G_ishr dr_cJ5_ensureCapacityInternal_d00df_9 (G_nam fun z674009 hz674009 => ?_)
  have ez674009 : z674009.toInt = z674008.toInt / 1 := gI_shr (k := 0) hz674009 (by decide)
  have bz674009 : gB z674009 0 16777216 := ⟨by omega, by omega⟩
  refine G_istore_n (L' := [(2, .int z674009), (0, .ref q673998), (1, .int p674000)]) dr_cJ5_ensureCapacityInternal_d00df_10 (Nat.le_of_ble_eq_true rfl) rfl ?_
  refine G_iload_n 2 dr_cJ5_ensureCapacityInternal_d00df_11 rfl ?_
  refine G_iload_n 0 dr_cJ5_ensureCapacityInternal_d00df_12 rfl ?_
  refine G_isub dr_cJ5_ensureCapacityInternal_d00df_13 (G_nam fun z674010 hz674010 => ?_)
  have ez674010 : z674010.toInt = p674000.toInt - z674009.toInt := by rw [gI_sub hz674010 bp674000 bz674009 (by decide) (by decide)]
  have bz674010 : gB z674010 (-16777216) 8388608 := gB_sub (gI_sub hz674010 bp674000 bz674009 (by decide) (by decide)) bp674000 bz674009 (by decide) (by decide)
  refine G_if_le 38 dr_cJ5_ensureCapacityInternal_d00df_14 (by decide +kernel) (fun hc674011 => ?_) (fun hc674011 => ?_)
  · have r674012 : z674010.toInt ≤ 0 := gj_le hc674011 (show Int32.toInt 0 = 0 by decide)
    have bz674010' : gB z674010 (-16777216) 0 := ⟨by omega, by omega⟩
    exact G_vretA dr_cJ5_ensureCapacityInternal_d00df_38 rfl (Nat.le_of_ble_eq_true rfl) (Nat.le_of_ble_eq_true rfl) (Or.inl ⟨rfl, rfl, (Nat.le_of_ble_eq_true rfl), (Nat.le_of_ble_eq_true rfl), (by have qa0 : Int32.toInt 0 = 0 := (by decide); omega), (by have qa0 : Int32.toInt 0 = 0 := (by decide); omega), (by have qa0 : Int32.toInt 0 = 0 := (by decide); omega), (by have qa0 : Int32.toInt 0 = 0 := (by decide); omega), (by have qa0 : Int32.toInt 0 = 0 := (by decide); omega), (by have qa0 : Int32.toInt 0 = 0 := (by decide); omega)⟩)
  · have r674013 : 0 < z674010.toInt := gj_nle hc674011 (show Int32.toInt 0 = 0 by decide)
    have bz674010' : gB z674010 1 8388608 := ⟨by omega, by omega⟩
    refine G_aload_n 1 dr_cJ5_ensureCapacityInternal_d00df_17 rfl ?_
    refine G_aload_n 1 dr_cJ5_ensureCapacityInternal_d00df_18 rfl ?_
    refine Gp_get 0 hmq673998 heq673998 dr_cJ5_ensureCapacityInternal_d00df_19 (gk_J4 D I) (Nat.le_of_ble_eq_true rfl) wr_7_60 rfl ?_
    refine G_aload_n 1 dr_cJ5_ensureCapacityInternal_d00df_22 rfl ?_
    refine G_iload_n 2 dr_cJ5_ensureCapacityInternal_d00df_23 rfl ?_
    refine Gw_callVB (As := [.int p674000]) (gV_ok D I) (cp_655607_AbstractStringBuilder_newCapacity l hl0 D I P673996 F673997 q673998 q673999 p674000 p674001 p674002 f674003 n674004 hmq673998 hmq673999 heq673998 heq673999 bp674000 bp674001 bp674002 bf674003 (by have qa0 : Int32.toInt 0 = 0 := (by decide); omega) (by have qa0 : Int32.toInt 0 = 0 := (by decide); omega) (by have qa0 : Int32.toInt 0 = 0 := (by decide); omega)) dr_cJ5_ensureCapacityInternal_d00df_24 ⟨wr_8_8, wr_1_19, wr_8_11, by decide, rfl, (Nat.le_of_ble_eq_true rfl), (Nat.le_of_ble_eq_true rfl)⟩ wr_8_10 wr_s_1 hmq673998 heq673998 rfl (show 0 + 0 ≤ 1 by first | omega | decide) (show 0 + 0 ≤ (2 * n674004 + 2 + p674000.toInt.toNat) by first | omega | decide) (Nat.le_of_ble_eq_true rfl) (fun r674017 w674018 dc674014 ds674015 hp674016 => ?_) (fun _ _ _ _ _ z => z.elim)
    obtain ⟨o674019, rfl, rfl, hdc, hds, bo674019, x674020, x674021, x674022, ht674023⟩ := hp674016
    change G _ _ _ _ _ _ _ (.int o674019 :: _) _ _ _
    refine G_widen (cs' := 0) (sl' := 0) (by omega) (by omega) ?_
    refine G_aload_n 1 dr_cJ5_ensureCapacityInternal_d00df_27 rfl ?_
    refine Gp_get 1 hmq673998 heq673998 dr_cJ5_ensureCapacityInternal_d00df_28 (gk_J4 D I) (Nat.le_of_ble_eq_true rfl) wr_7_61 rfl ?_
    refine G_ishl dr_cJ5_ensureCapacityInternal_d00df_31 (G_nam fun z674024 hz674024 => ?_)
    have ez674024 : z674024.toInt = o674019.toInt * 1 := gI_shl (k := 0) hz674024 (by decide) bo674019 (by decide) (by decide)
    have bz674024 : gB z674024 1 33554432 := ⟨by omega, by omega⟩
    refine Gw_callS (As := [.ref q673999, .int z674024]) (gV_ok D I) (cp_655642_Arrays_copyOf l hl0 D I P673996 F673997 q673999 z674024 f674003 n674004 hmq673999 heq673999 (gB_w bz674024 (by decide) (by decide)) bf674003 (by have qa0 : Int32.toInt 0 = 0 := (by decide); omega) (by have qa0 : Int32.toInt 0 = 0 := (by decide); omega)) dr_cJ5_ensureCapacityInternal_d00df_32 ⟨wr_8_21, wr_1_30, wr_8_23, by decide, rfl, (Nat.le_of_ble_eq_true rfl), (Nat.le_of_ble_eq_true rfl)⟩ wr_8_22 (show 0 + 1 ≤ 1 by first | omega | decide) (show 0 + z674024.toInt.toNat ≤ (2 * n674004 + 2 + p674000.toInt.toNat) by first | omega | decide) (Nat.le_of_ble_eq_true rfl) (fun r674028 w674029 dc674025 ds674026 hp674027 => ?_) (fun _ _ _ _ _ z => z.elim)
    obtain ⟨P674033, F674034, q674030, f674031, rfl, rfl, hsb674035, hfr674036, he674037, he674038, hm674039, hq674040, hdc, hds, bf674031, ht674032⟩ := hp674027
    have hm674041 : q673998 ∈ P674033 := hsb674035 q673998 hmq673998
    have hm674042 : q673999 ∈ P674033 := hsb674035 q673999 hmq673999
    have hq674043 : q674030 ∉ P673996 := fun z => hq674040 ((rSub_rf (P := P673996)) q674030 z)
    have hsb674044 : rSub P673996 P674033 := rSub_tr (rSub_rf (P := P673996)) hsb674035
    have he674045 : F674034 q673998 = .inr (1, [.ref q673999, .int 0, .int p674001, .int p674002]) := (hfr674036 q673998 hmq673998 nm_n).trans heq673998
    have hfr674046 : rFr [] P673996 F673997 F674034 := rFr_call (rSub_rf (P := P673996)) (rFr_rf (W := []) (P := P673996) (F := F673997)) hfr674036 (fun b hb hn => ⟨nm_n, nm_n⟩)
    change G _ _ _ _ _ _ _ (.ref q674030 :: _) _ _ _
    refine G_widen (cs' := 1) (sl' := z674024.toInt.toNat) (by omega) (by omega) ?_
    refine Gp_put 0 hm674041 he674045 dr_cJ5_ensureCapacityInternal_d00df_35 (gk_J4 D I) (Nat.le_of_ble_eq_true rfl) wr_7_60 rfl rfl rfl (Nat.le_of_ble_eq_true rfl) (fun F674047 e674048 n674049 => ?_)
    have he674050 : F674047 q673999 = .inl (I .byte, n674004, .inl f674003) := (n674049 q673999 (rn_ao he674037 he674045)).trans he674037
    have he674051 : F674047 q674030 = .inl (I .byte, z674024.toInt.toNat, .inl f674031) := (n674049 q674030 (fun h => hq674043 (h ▸ hmq673998))).trans he674038
    have he674052 : F674047 q673998 = .inr (1, [.ref q674030, .int 0, .int p674001, .int p674002]) := e674048
    have hfr674053 : rFr [q673998] P673996 F673997 F674047 := rFr_put hfr674046 n674049
    exact G_vretA dr_cJ5_ensureCapacityInternal_d00df_38 rfl (Nat.le_of_ble_eq_true rfl) (show z674024.toInt.toNat ≤ (2 * n674004 + 2 + p674000.toInt.toNat) by omega) (Or.inr (⟨P674033, F674047, q674030, z674024.toInt.toNat, f674031, rfl, rfl, hsb674044, hfr674053, he674052, he674051, hm674039, hq674043, (by omega), (by omega), bf674031, (by have qa0 : Int32.toInt 0 = 0 := (by decide); omega), (by have qa0 : Int32.toInt 0 = 0 := (by decide); omega), (by have qa0 : Int32.toInt 0 = 0 := (by decide); omega), (by have qa0 : Int32.toInt 0 = 0 := (by decide); omega), (by have qa0 : Int32.toInt 0 = 0 := (by decide); omega), (by have qa0 : Int32.toInt 0 = 0 := (by decide); omega)⟩))
abbrev ky_673994_AbstractStringBuilder_append : gKey := (cJ5_append_3fe6f, 2, "java/lang/AbstractStringBuilder", (some (FieldType.object "java/lang/AbstractStringBuilder")), [], "append", fun _ _ => True)
def pp_673994_AbstractStringBuilder_append (D : va_G) (I : FieldType → ClassId) (P673982 : List Nat) (F673983 : Nat → va_E) (q673984 : Nat) (q673985 : Nat) (p673986 : Int32) (p673987 : Int32) (p673988 : Int32) (f673989 : Nat → Int32) (n673990 : Nat) : Option Value → va_W → Nat → Nat → Prop := fun r w dc ds => (∃ (F674160 : Nat → va_E) (o674157 : Int32) (f674158 : Nat → Int32), r = some (.ref q673984) ∧ w = va_pl P673982 F674160 ∧ rFr [q673985, q673984] P673982 F673983 F674160 ∧ F674160 q673984 = .inr (1, [.ref q673985, .int 0, .int p673987, .int o674157]) ∧ F674160 q673985 = .inl (I .byte, n673990, .inl f674158) ∧ dc ≤ 0 ∧ ds ≤ 0 ∧ gB o674157 1 16777216 ∧ gF f674158 (-128) 127 ∧ o674157.toInt = p673988.toInt + 1 ∧ o674157.toInt ≤ (n673990 : Int) ∧ (n673990 : Int) ≤ (n673990 : Int) ∧ (n673990 : Int) ≤ 2 * (n673990 : Int) + 2 ∧ ((n673990 : Int) = (n673990 : Int) ∨ (n673990 : Int) < o674157.toInt) ∧ ((n673990 : Int) = (n673990 : Int) ∨ 2 * (n673990 : Int) + 2 ≤ (n673990 : Int))) ∨ (∃ (P674165 : List Nat) (F674166 : Nat → va_E) (o674161 : Int32) (q674162 : Nat) (n674163 : Nat) (f674164 : Nat → Int32), r = some (.ref q673984) ∧ w = va_pl P674165 F674166 ∧ rSub P673982 P674165 ∧ rFr [q673984] P673982 F673983 F674166 ∧ F674166 q673984 = .inr (1, [.ref q674162, .int 0, .int p673987, .int o674161]) ∧ F674166 q674162 = .inl (I .byte, n674163, .inl f674164) ∧ q674162 ∈ P674165 ∧ q674162 ∉ P673982 ∧ dc ≤ (min 1 (n674163 - n673990)) ∧ ds ≤ 2 * (n674163 - n673990) ∧ gB o674161 1 16777216 ∧ gF f674164 (-128) 127 ∧ o674161.toInt = p673988.toInt + 1 ∧ o674161.toInt ≤ (n674163 : Int) ∧ (n673990 : Int) ≤ (n674163 : Int) ∧ (n674163 : Int) ≤ 2 * (n673990 : Int) + 2 ∧ ((n674163 : Int) = (n673990 : Int) ∨ (n673990 : Int) < o674161.toInt) ∧ ((n674163 : Int) = (n673990 : Int) ∨ 2 * (n673990 : Int) + 2 ≤ (n674163 : Int)))
set_option maxRecDepth 100000 in
set_option maxHeartbeats 4000000 in
theorem cp_673994_AbstractStringBuilder_append (l : Launch) (hl0 : l.stackTraces = false) (D : va_G) (I : FieldType → ClassId) (P673982 : List Nat) (F673983 : Nat → va_E) (q673984 : Nat) (q673985 : Nat) (p673986 : Int32) (p673987 : Int32) (p673988 : Int32) (f673989 : Nat → Int32) (n673990 : Nat) (hmq673984 : q673984 ∈ P673982) (hmq673985 : q673985 ∈ P673982) (heq673984 : F673983 q673984 = .inr (1, [.ref q673985, .int 0, .int p673987, .int p673988])) (heq673985 : F673983 q673985 = .inl (I .byte, n673990, .inl f673989)) (bp673986 : gB p673986 0 255) (bp673987 : gB p673987 0 1) (bp673988 : gB p673988 0 16777216) (bf673989 : gF f673989 (-128) 127) (x673991 : (n673990 : Int) ≤ 8388608 - 100000) (x673992 : p673988.toInt ≤ (n673990 : Int)) (x673993 : ((n673990 : Int) ≤ 16777216)) : CtA (gV D I) l yJ5_append_3fe6f cJ5_append_3fe6f 2 (some (FieldType.object "java/lang/AbstractStringBuilder")) 4 84 1 (4 * n673990 + 8) [.ref q673984, .int p673986] (va_pl P673982 F673983) (pp_673994_AbstractStringBuilder_append D I P673982 F673983 q673984 q673985 p673986 p673987 p673988 f673989 n673990) gNA := by
  refine CtA_ofF hl0 (by decide +kernel) (Nat.le_of_ble_eq_true rfl) ?_
  refine G_aload_n 0 dr_cJ5_append_3fe6f_0 rfl ?_
  refine G_aload_n 0 dr_cJ5_append_3fe6f_1 rfl ?_
  refine Gp_get 3 hmq673984 heq673984 dr_cJ5_append_3fe6f_2 (gk_J4 D I) (Nat.le_of_ble_eq_true rfl) wr_7_64 rfl ?_
  refine G_iconst 1 dr_cJ5_append_3fe6f_5 (by decide +kernel) ?_
  refine G_iadd dr_cJ5_append_3fe6f_6 (G_nam fun z673995 hz673995 => ?_)
  have ez673995 : z673995.toInt = p673988.toInt + 1 := by rw [gI_add hz673995 bp673988 (gBl (show Int32.toInt 1 = 1 by decide)) (by decide) (by decide), show Int32.toInt 1 = 1 from by decide]
  have bz673995 : gB z673995 1 16777217 := gB_add (gI_add hz673995 bp673988 (gBl (show Int32.toInt 1 = 1 by decide)) (by decide) (by decide)) bp673988 (gBl (show Int32.toInt 1 = 1 by decide)) (by decide) (by decide)
  refine Gw_callVB (As := [.int z673995]) (gV_ok D I) (cp_674007_AbstractStringBuilder_ensureCapacityInternal l hl0 D I P673982 F673983 q673984 q673985 z673995 p673987 p673988 f673989 n673990 hmq673984 hmq673985 heq673984 heq673985 ⟨by omega, by omega⟩ bp673987 bp673988 bf673989 (by have qa0 : Int32.toInt 0 = 0 := (by decide); omega) (by have qa0 : Int32.toInt 0 = 0 := (by decide); omega)) dr_cJ5_append_3fe6f_7 ⟨wr_8_4, wr_1_19, wr_8_7, by decide, rfl, (Nat.le_of_ble_eq_true rfl), (Nat.le_of_ble_eq_true rfl)⟩ wr_8_6 wr_s_0 hmq673984 heq673984 rfl (show 0 + 1 ≤ 1 by first | omega | decide) (show 0 + (2 * n673990 + 2 + z673995.toInt.toNat) ≤ (4 * n673990 + 8) by first | omega | decide) (Nat.le_of_ble_eq_true rfl) (fun r674062 w674063 dc674059 ds674060 hp674061 => ?_) (fun _ _ _ _ _ z => z.elim)
  rcases hp674061 with hp674064 | hp674065
  · obtain ⟨rfl, rfl, hdc, hds, x674066, x674067, x674068, x674069, x674070, x674071⟩ := hp674064
    change G _ _ _ _ _ _ _ _ _ _ _
    refine G_widen (cs' := 0) (sl' := 0) (by omega) (by omega) ?_
    refine G_aload_n 0 dr_cJ5_append_3fe6f_10 rfl ?_
    refine Gw_callVB (As := []) (gV_ok D I) (cp_655489_AbstractStringBuilder_isLatin1 l hl0 D I P673982 F673983 q673984 q673985 p673987 p673988 f673989 n673990 hmq673984 hmq673985 heq673984 heq673985 bp673987 bp673988 bf673989 (by have qa0 : Int32.toInt 0 = 0 := (by decide); omega)) dr_cJ5_append_3fe6f_11 ⟨wr_8_33, wr_1_19, wr_8_37, by decide, rfl, (Nat.le_of_ble_eq_true rfl), (Nat.le_of_ble_eq_true rfl)⟩ wr_8_34 wr_8_36 hmq673984 heq673984 rfl (show 0 + 0 ≤ 1 by first | omega | decide) (show 0 + 0 ≤ (4 * n673990 + 8) by first | omega | decide) (Nat.le_of_ble_eq_true rfl) (fun r674075 w674076 dc674072 ds674073 hp674074 => ?_) (fun _ _ _ _ _ z => z.elim)
    obtain ⟨rfl, rfl, hdc, hds⟩ := hp674074
    change G _ _ _ _ _ _ _ (.int 1 :: _) _ _ _
    refine G_widen (cs' := 0) (sl' := 0) (by omega) (by omega) ?_
    refine G_if_eq 45 dr_cJ5_append_3fe6f_14 (by decide +kernel) (fun hc => absurd hc (by decide)) (fun _ => ?_)
    refine G_iload_n 1 dr_cJ5_append_3fe6f_17 rfl ?_
    refine Gw_callS (As := [.int p673986]) (gV_ok D I) (cp_655498_StringLatin1_canEncode l hl0 D I P673982 F673983 p673986 (gB_w bp673986 (by decide) (by decide))) dr_cJ5_append_3fe6f_18 ⟨wr_8_38, wr_1_28, wr_8_40, by decide, rfl, (Nat.le_of_ble_eq_true rfl), (Nat.le_of_ble_eq_true rfl)⟩ wr_8_39 (show 0 + 0 ≤ 1 by first | omega | decide) (show 0 + 0 ≤ (4 * n673990 + 8) by first | omega | decide) (Nat.le_of_ble_eq_true rfl) (fun r674080 w674081 dc674077 ds674078 hp674079 => ?_) (fun _ _ _ _ _ z => z.elim)
    rcases hp674079 with ⟨rfl, rfl, hdc, hds, r674082, r674083⟩ | ⟨rfl, rfl, hdc, hds, r674084, r674085⟩
    · exact absurd (show False by omega) not_false
    · change G _ _ _ _ _ _ _ (.int 1 :: _) _ _ _
      refine G_widen (cs' := 0) (sl' := 0) (by omega) (by omega) ?_
      refine G_if_eq 45 dr_cJ5_append_3fe6f_21 (by decide +kernel) (fun hc => absurd hc (by decide)) (fun _ => ?_)
      refine G_aload_n 0 dr_cJ5_append_3fe6f_24 rfl ?_
      refine Gp_get 0 hmq673984 heq673984 dr_cJ5_append_3fe6f_25 (gk_J4 D I) (Nat.le_of_ble_eq_true rfl) wr_7_60 rfl ?_
      refine G_aload_n 0 dr_cJ5_append_3fe6f_28 rfl ?_
      refine G_dup dr_cJ5_append_3fe6f_29 rfl ?_
      refine Gp_get 3 hmq673984 heq673984 dr_cJ5_append_3fe6f_30 (gk_J4 D I) (Nat.le_of_ble_eq_true rfl) wr_7_64 rfl ?_
      refine G_dup_x1 dr_cJ5_append_3fe6f_33 rfl rfl ?_
      refine G_iconst 1 dr_cJ5_append_3fe6f_34 (by decide +kernel) ?_
      refine G_iadd dr_cJ5_append_3fe6f_35 (G_nam fun z674087 hz674087 => ?_)
      have ez674087 : z674087.toInt = p673988.toInt + 1 := by rw [gI_add hz674087 bp673988 (gBl (show Int32.toInt 1 = 1 by decide)) (by decide) (by decide), show Int32.toInt 1 = 1 from by decide]
      have bz674087 : gB z674087 1 16777217 := gB_add (gI_add hz674087 bp673988 (gBl (show Int32.toInt 1 = 1 by decide)) (by decide) (by decide)) bp673988 (gBl (show Int32.toInt 1 = 1 by decide)) (by decide) (by decide)
      refine Gp_put 3 hmq673984 heq673984 dr_cJ5_append_3fe6f_36 (gk_J4 D I) (Nat.le_of_ble_eq_true rfl) wr_7_64 rfl rfl rfl (Nat.le_of_ble_eq_true rfl) (fun F674088 e674089 n674090 => ?_)
      have he674091 : F674088 q673985 = .inl (I .byte, n673990, .inl f673989) := (n674090 q673985 (rn_ao heq673985 heq673984)).trans heq673985
      have he674092 : F674088 q673984 = .inr (1, [.ref q673985, .int 0, .int p673987, .int z674087]) := e674089
      have hfr674093 : rFr [q673984] P673982 F673983 F674088 := rFr_put (rFr_rf (W := []) (P := P673982) (F := F673983)) n674090
      refine G_iload_n 1 dr_cJ5_append_3fe6f_39 rfl ?_
      refine G_i2b dr_cJ5_append_3fe6f_40 (G_nam fun z674094 hz674094 => ?_)
      have bz674094 : gB z674094 (-128) 127 := gB_i2b hz674094
      refine Gp_bast 1 hmq673985 he674091 dr_cJ5_append_3fe6f_41 rfl (gB_inr (by omega) (by omega)) (fun F674095 e674096 n674097 => ?_)
      obtain ⟨f674098, hf674098⟩ : ∃ z, z = upd f673989 p673988.toNatClampNeg (vp_nar .byte z674094) := ⟨_, rfl⟩
      rw [← hf674098] at e674096
      have he674099 : F674095 q673984 = .inr (1, [.ref q673985, .int 0, .int p673987, .int z674087]) := (n674097 q673984 (rn_oa he674092 he674091)).trans he674092
      have he674100 : F674095 q673985 = .inl (I .byte, n673990, .inl f674098) := e674096
      have hfr674101 : rFr [q673985, q673984] P673982 F673983 F674095 := rFr_put hfr674093 n674097
      have bf674098 : gF f674098 (-128) 127 := gF_upd hf674098 bf673989 gB_byte
      refine G_goto 75 dr_cJ5_append_3fe6f_42 (by decide +kernel) ?_
      refine G_aload_n 0 dr_cJ5_append_3fe6f_75 rfl ?_
      exact G_aretA (FieldType.object "java/lang/AbstractStringBuilder") dr_cJ5_append_3fe6f_76 rfl (by first | exact Or.inl ⟨_, rfl⟩ | exact Or.inr ⟨_, rfl⟩) (Or.inr ⟨_, rfl⟩) (Nat.le_of_ble_eq_true rfl) (Nat.le_of_ble_eq_true rfl) (Or.inl ⟨F674095, z674087, f674098, rfl, rfl, hfr674101, he674099, he674100, (Nat.le_of_ble_eq_true rfl), (Nat.le_of_ble_eq_true rfl), ⟨by omega, by omega⟩, bf674098, (by have qa0 : Int32.toInt 0 = 0 := (by decide); omega), (by have qa0 : Int32.toInt 0 = 0 := (by decide); omega), (by have qa0 : Int32.toInt 0 = 0 := (by decide); omega), (by have qa0 : Int32.toInt 0 = 0 := (by decide); omega), (by have qa0 : Int32.toInt 0 = 0 := (by decide); omega), (by have qa0 : Int32.toInt 0 = 0 := (by decide); omega)⟩)
  · obtain ⟨P674111, F674112, q674102, n674103, f674104, rfl, rfl, hsb674113, hfr674114, he674115, he674116, hm674117, hq674118, hdc, hds, bf674104, x674105, x674106, x674107, x674108, x674109, x674110⟩ := hp674065
    have hm674119 : q673984 ∈ P674111 := hsb674113 q673984 hmq673984
    have hm674120 : q673985 ∈ P674111 := hsb674113 q673985 hmq673985
    have hq674121 : q674102 ∉ P673982 := fun z => hq674118 ((rSub_rf (P := P673982)) q674102 z)
    have hsb674122 : rSub P673982 P674111 := rSub_tr (rSub_rf (P := P673982)) hsb674113
    have he674123 : F674112 q673985 = .inl (I .byte, n673990, .inl f673989) := (hfr674114 q673985 hmq673985 (nm_c (rn_ao heq673985 heq673984) nm_n)).trans heq673985
    have hfr674124 : rFr [q673984] P673982 F673983 F674112 := rFr_call (rSub_rf (P := P673982)) (rFr_rf (W := []) (P := P673982) (F := F673983)) hfr674114 (fun b hb hn => ⟨nm_n, (nm_c (fun e => hn (e ▸ List.mem_cons_self)) nm_n)⟩)
    change G _ _ _ _ _ _ _ _ _ _ _
    refine G_widen (cs' := (min 1 (n674103 - n673990))) (sl' := 2 * (n674103 - n673990)) (by omega) (by omega) ?_
    refine G_aload_n 0 dr_cJ5_append_3fe6f_10 rfl ?_
    refine Gw_callVB (As := []) (gV_ok D I) (cp_655489_AbstractStringBuilder_isLatin1 l hl0 D I P674111 F674112 q673984 q674102 p673987 p673988 f674104 n674103 hm674119 hm674117 he674115 he674116 bp673987 bp673988 bf674104 (by have qa0 : Int32.toInt 0 = 0 := (by decide); omega)) dr_cJ5_append_3fe6f_11 ⟨wr_8_33, wr_1_19, wr_8_37, by decide, rfl, (Nat.le_of_ble_eq_true rfl), (Nat.le_of_ble_eq_true rfl)⟩ wr_8_34 wr_8_36 hm674119 he674115 rfl (show (min 1 (n674103 - n673990)) + 0 ≤ 1 by first | omega | decide) (show 2 * (n674103 - n673990) + 0 ≤ (4 * n673990 + 8) by first | omega | decide) (Nat.le_of_ble_eq_true rfl) (fun r674128 w674129 dc674125 ds674126 hp674127 => ?_) (fun _ _ _ _ _ z => z.elim)
    obtain ⟨rfl, rfl, hdc, hds⟩ := hp674127
    change G _ _ _ _ _ _ _ (.int 1 :: _) _ _ _
    refine G_widen (cs' := (min 1 (n674103 - n673990)) + 0) (sl' := 2 * (n674103 - n673990) + 0) (by omega) (by omega) ?_
    refine G_if_eq 45 dr_cJ5_append_3fe6f_14 (by decide +kernel) (fun hc => absurd hc (by decide)) (fun _ => ?_)
    refine G_iload_n 1 dr_cJ5_append_3fe6f_17 rfl ?_
    refine Gw_callS (As := [.int p673986]) (gV_ok D I) (cp_655498_StringLatin1_canEncode l hl0 D I P674111 F674112 p673986 (gB_w bp673986 (by decide) (by decide))) dr_cJ5_append_3fe6f_18 ⟨wr_8_38, wr_1_28, wr_8_40, by decide, rfl, (Nat.le_of_ble_eq_true rfl), (Nat.le_of_ble_eq_true rfl)⟩ wr_8_39 (show (min 1 (n674103 - n673990)) + 0 + 0 ≤ 1 by first | omega | decide) (show 2 * (n674103 - n673990) + 0 + 0 ≤ (4 * n673990 + 8) by first | omega | decide) (Nat.le_of_ble_eq_true rfl) (fun r674133 w674134 dc674130 ds674131 hp674132 => ?_) (fun _ _ _ _ _ z => z.elim)
    rcases hp674132 with ⟨rfl, rfl, hdc, hds, r674135, r674136⟩ | ⟨rfl, rfl, hdc, hds, r674137, r674138⟩
    · exact absurd (show False by omega) not_false
    · change G _ _ _ _ _ _ _ (.int 1 :: _) _ _ _
      refine G_widen (cs' := (min 1 (n674103 - n673990)) + 0 + 0) (sl' := 2 * (n674103 - n673990) + 0 + 0) (by omega) (by omega) ?_
      refine G_if_eq 45 dr_cJ5_append_3fe6f_21 (by decide +kernel) (fun hc => absurd hc (by decide)) (fun _ => ?_)
      refine G_aload_n 0 dr_cJ5_append_3fe6f_24 rfl ?_
      refine Gp_get 0 hm674119 he674115 dr_cJ5_append_3fe6f_25 (gk_J4 D I) (Nat.le_of_ble_eq_true rfl) wr_7_60 rfl ?_
      refine G_aload_n 0 dr_cJ5_append_3fe6f_28 rfl ?_
      refine G_dup dr_cJ5_append_3fe6f_29 rfl ?_
      refine Gp_get 3 hm674119 he674115 dr_cJ5_append_3fe6f_30 (gk_J4 D I) (Nat.le_of_ble_eq_true rfl) wr_7_64 rfl ?_
      refine G_dup_x1 dr_cJ5_append_3fe6f_33 rfl rfl ?_
      refine G_iconst 1 dr_cJ5_append_3fe6f_34 (by decide +kernel) ?_
      refine G_iadd dr_cJ5_append_3fe6f_35 (G_nam fun z674140 hz674140 => ?_)
      have ez674140 : z674140.toInt = p673988.toInt + 1 := by rw [gI_add hz674140 bp673988 (gBl (show Int32.toInt 1 = 1 by decide)) (by decide) (by decide), show Int32.toInt 1 = 1 from by decide]
      have bz674140 : gB z674140 1 16777217 := gB_add (gI_add hz674140 bp673988 (gBl (show Int32.toInt 1 = 1 by decide)) (by decide) (by decide)) bp673988 (gBl (show Int32.toInt 1 = 1 by decide)) (by decide) (by decide)
      refine Gp_put 3 hm674119 he674115 dr_cJ5_append_3fe6f_36 (gk_J4 D I) (Nat.le_of_ble_eq_true rfl) wr_7_64 rfl rfl rfl (Nat.le_of_ble_eq_true rfl) (fun F674141 e674142 n674143 => ?_)
      have he674144 : F674141 q673985 = .inl (I .byte, n673990, .inl f673989) := (n674143 q673985 (rn_ao he674123 he674115)).trans he674123
      have he674145 : F674141 q674102 = .inl (I .byte, n674103, .inl f674104) := (n674143 q674102 (fun h => hq674121 (h ▸ hmq673984))).trans he674116
      have he674146 : F674141 q673984 = .inr (1, [.ref q674102, .int 0, .int p673987, .int z674140]) := e674142
      have hfr674147 : rFr [q673984] P673982 F673983 F674141 := rFr_put' List.mem_cons_self hfr674124 n674143
      refine G_iload_n 1 dr_cJ5_append_3fe6f_39 rfl ?_
      refine G_i2b dr_cJ5_append_3fe6f_40 (G_nam fun z674148 hz674148 => ?_)
      have bz674148 : gB z674148 (-128) 127 := gB_i2b hz674148
      refine Gp_bast 1 hm674117 he674145 dr_cJ5_append_3fe6f_41 rfl (gB_inr (by omega) (by omega)) (fun F674149 e674150 n674151 => ?_)
      obtain ⟨f674152, hf674152⟩ : ∃ z, z = upd f674104 p673988.toNatClampNeg (vp_nar .byte z674148) := ⟨_, rfl⟩
      rw [← hf674152] at e674150
      have he674153 : F674149 q673985 = .inl (I .byte, n673990, .inl f673989) := (n674151 q673985 (fun h => hq674121 (h ▸ hmq673985))).trans he674144
      have he674154 : F674149 q673984 = .inr (1, [.ref q674102, .int 0, .int p673987, .int z674140]) := (n674151 q673984 (fun h => hq674121 (h ▸ hmq673984))).trans he674146
      have he674155 : F674149 q674102 = .inl (I .byte, n674103, .inl f674152) := e674150
      have hfr674156 : rFr [q673984] P673982 F673983 F674149 := rFr_newp hq674121 hfr674147 n674151
      have bf674152 : gF f674152 (-128) 127 := gF_upd hf674152 bf674104 gB_byte
      refine G_goto 75 dr_cJ5_append_3fe6f_42 (by decide +kernel) ?_
      refine G_aload_n 0 dr_cJ5_append_3fe6f_75 rfl ?_
      exact G_aretA (FieldType.object "java/lang/AbstractStringBuilder") dr_cJ5_append_3fe6f_76 rfl (by first | exact Or.inl ⟨_, rfl⟩ | exact Or.inr ⟨_, rfl⟩) (Or.inr ⟨_, rfl⟩) (show (min 1 (n674103 - n673990)) + 0 + 0 ≤ 1 by omega) (show 2 * (n674103 - n673990) + 0 + 0 ≤ (4 * n673990 + 8) by omega) (Or.inr (⟨P674111, F674149, z674140, q674102, n674103, f674152, rfl, rfl, hsb674122, hfr674156, he674154, he674155, hm674117, hq674121, (by omega), (by omega), ⟨by omega, by omega⟩, bf674152, (by have qa0 : Int32.toInt 0 = 0 := (by decide); omega), (by have qa0 : Int32.toInt 0 = 0 := (by decide); omega), (by have qa0 : Int32.toInt 0 = 0 := (by decide); omega), (by have qa0 : Int32.toInt 0 = 0 := (by decide); omega), (by have qa0 : Int32.toInt 0 = 0 := (by decide); omega), (by have qa0 : Int32.toInt 0 = 0 := (by decide); omega)⟩))
abbrev ky_673981_StringBuilder_append : gKey := (cJ4_append_cf468, 2, "java/lang/StringBuilder", (some (FieldType.object "java/lang/StringBuilder")), [], "append", fun _ _ => True)
def pp_673981_StringBuilder_append (D : va_G) (I : FieldType → ClassId) (P673969 : List Nat) (F673970 : Nat → va_E) (q673971 : Nat) (q673972 : Nat) (p673973 : Int32) (p673974 : Int32) (p673975 : Int32) (f673976 : Nat → Int32) (n673977 : Nat) : Option Value → va_W → Nat → Nat → Prop := fun r w dc ds => (∃ (F674215 : Nat → va_E) (o674212 : Int32) (f674213 : Nat → Int32), r = some (.ref q673971) ∧ w = va_pl P673969 F674215 ∧ rFr [q673972, q673971] P673969 F673970 F674215 ∧ F674215 q673971 = .inr (1, [.ref q673972, .int 0, .int p673974, .int o674212]) ∧ F674215 q673972 = .inl (I .byte, n673977, .inl f674213) ∧ dc ≤ 0 ∧ ds ≤ 0 ∧ gB o674212 1 16777216 ∧ gF f674213 (-128) 127 ∧ o674212.toInt = p673975.toInt + 1 ∧ o674212.toInt ≤ (n673977 : Int) ∧ (n673977 : Int) ≤ (n673977 : Int) ∧ (n673977 : Int) ≤ 2 * (n673977 : Int) + 2 ∧ ((n673977 : Int) = (n673977 : Int) ∨ (n673977 : Int) < o674212.toInt) ∧ ((n673977 : Int) = (n673977 : Int) ∨ 2 * (n673977 : Int) + 2 ≤ (n673977 : Int))) ∨ (∃ (P674220 : List Nat) (F674221 : Nat → va_E) (o674216 : Int32) (q674217 : Nat) (n674218 : Nat) (f674219 : Nat → Int32), r = some (.ref q673971) ∧ w = va_pl P674220 F674221 ∧ rSub P673969 P674220 ∧ rFr [q673971] P673969 F673970 F674221 ∧ F674221 q673971 = .inr (1, [.ref q674217, .int 0, .int p673974, .int o674216]) ∧ F674221 q674217 = .inl (I .byte, n674218, .inl f674219) ∧ q674217 ∈ P674220 ∧ q674217 ∉ P673969 ∧ dc ≤ (min 1 (n674218 - n673977)) ∧ ds ≤ 2 * (n674218 - n673977) ∧ gB o674216 1 16777216 ∧ gF f674219 (-128) 127 ∧ o674216.toInt = p673975.toInt + 1 ∧ o674216.toInt ≤ (n674218 : Int) ∧ (n673977 : Int) ≤ (n674218 : Int) ∧ (n674218 : Int) ≤ 2 * (n673977 : Int) + 2 ∧ ((n674218 : Int) = (n673977 : Int) ∨ (n673977 : Int) < o674216.toInt) ∧ ((n674218 : Int) = (n673977 : Int) ∨ 2 * (n673977 : Int) + 2 ≤ (n674218 : Int)))
set_option maxRecDepth 100000 in
set_option maxHeartbeats 4000000 in
theorem cp_673981_StringBuilder_append (l : Launch) (hl0 : l.stackTraces = false) (D : va_G) (I : FieldType → ClassId) (P673969 : List Nat) (F673970 : Nat → va_E) (q673971 : Nat) (q673972 : Nat) (p673973 : Int32) (p673974 : Int32) (p673975 : Int32) (f673976 : Nat → Int32) (n673977 : Nat) (hmq673971 : q673971 ∈ P673969) (hmq673972 : q673972 ∈ P673969) (heq673971 : F673970 q673971 = .inr (1, [.ref q673972, .int 0, .int p673974, .int p673975])) (heq673972 : F673970 q673972 = .inl (I .byte, n673977, .inl f673976)) (bp673973 : gB p673973 0 255) (bp673974 : gB p673974 0 1) (bp673975 : gB p673975 0 16777216) (bf673976 : gF f673976 (-128) 127) (x673978 : (n673977 : Int) ≤ 8388608 - 100000) (x673979 : p673975.toInt ≤ (n673977 : Int)) (x673980 : ((n673977 : Int) ≤ 16777216)) : CtA (gV D I) l yJ4_append_cf468 cJ4_append_cf468 2 (some (FieldType.object "java/lang/StringBuilder")) 5 105 1 (4 * n673977 + 8) [.ref q673971, .int p673973] (va_pl P673969 F673970) (pp_673981_StringBuilder_append D I P673969 F673970 q673971 q673972 p673973 p673974 p673975 f673976 n673977) gNA := by
  refine CtA_ofF hl0 (by decide +kernel) (Nat.le_of_ble_eq_true rfl) ?_
  refine G_aload_n 0 dr_cJ4_append_cf468_0 rfl ?_
  refine G_iload_n 1 dr_cJ4_append_cf468_1 rfl ?_
  refine Gw_callSU (As := [.int p673973]) (gV_ok D I) (cp_673994_AbstractStringBuilder_append l hl0 D I P673969 F673970 q673971 q673972 p673973 p673974 p673975 f673976 n673977 hmq673971 hmq673972 heq673971 heq673972 bp673973 bp673974 bp673975 bf673976 (by have qa0 : Int32.toInt 0 = 0 := (by decide); omega) (by have qa0 : Int32.toInt 0 = 0 := (by decide); omega) (by have qa0 : Int32.toInt 0 = 0 := (by decide); omega)) dr_cJ4_append_cf468_2 ⟨wr_8_1, wr_1_19, wr_8_3, by decide, rfl, (Nat.le_of_ble_eq_true rfl), (Nat.le_of_ble_eq_true rfl)⟩ wr_8_2 wr_11_224 wr_7_73 wr_7_44 (by decide) hmq673971 heq673971 rfl (show 0 + 1 ≤ 1 by first | omega | decide) (show 0 + (4 * n673977 + 8) ≤ (4 * n673977 + 8) by first | omega | decide) (Nat.le_of_ble_eq_true rfl) (fun r674170 w674171 dc674167 ds674168 hp674169 => ?_)
  rcases hp674169 with hp674172 | hp674173
  · obtain ⟨F674182, o674174, f674175, rfl, rfl, hfr674184, he674185, he674186, hdc, hds, bo674174, bf674175, x674176, x674177, x674178, x674179, x674180, x674181⟩ := hp674172
    have hfr674187 : rFr [q673972, q673971] P673969 F673970 F674182 := rFr_call (rSub_rf (P := P673969)) (rFr_rf (W := []) (P := P673969) (F := F673970)) hfr674184 (fun b hb hn => ⟨nm_n, (nm_c (fun e => hn (e ▸ List.mem_cons_self)) (nm_c (fun e => hn (e ▸ (List.mem_cons_of_mem _ List.mem_cons_self))) nm_n))⟩)
    change G _ _ _ _ _ _ _ (.ref q673971 :: _) _ _ _
    refine G_widen (cs' := 0) (sl' := 0) (by omega) (by omega) ?_
    refine G_pop dr_cJ4_append_cf468_5 rfl ?_
    refine G_aload_n 0 dr_cJ4_append_cf468_6 rfl ?_
    exact G_aretA (FieldType.object "java/lang/StringBuilder") dr_cJ4_append_cf468_7 rfl (by first | exact Or.inl ⟨_, rfl⟩ | exact Or.inr ⟨_, rfl⟩) (Or.inr ⟨_, rfl⟩) (Nat.le_of_ble_eq_true rfl) (Nat.le_of_ble_eq_true rfl) (Or.inl ⟨F674182, o674174, f674175, rfl, rfl, hfr674187, he674185, he674186, (Nat.le_of_ble_eq_true rfl), (Nat.le_of_ble_eq_true rfl), bo674174, bf674175, (by have qa0 : Int32.toInt 0 = 0 := (by decide); omega), (by have qa0 : Int32.toInt 0 = 0 := (by decide); omega), (by have qa0 : Int32.toInt 0 = 0 := (by decide); omega), (by have qa0 : Int32.toInt 0 = 0 := (by decide); omega), (by have qa0 : Int32.toInt 0 = 0 := (by decide); omega), (by have qa0 : Int32.toInt 0 = 0 := (by decide); omega)⟩)
  · obtain ⟨P674198, F674199, o674188, q674189, n674190, f674191, rfl, rfl, hsb674200, hfr674201, he674202, he674203, hm674204, hq674205, hdc, hds, bo674188, bf674191, x674192, x674193, x674194, x674195, x674196, x674197⟩ := hp674173
    have hm674206 : q673971 ∈ P674198 := hsb674200 q673971 hmq673971
    have hm674207 : q673972 ∈ P674198 := hsb674200 q673972 hmq673972
    have hq674208 : q674189 ∉ P673969 := fun z => hq674205 ((rSub_rf (P := P673969)) q674189 z)
    have hsb674209 : rSub P673969 P674198 := rSub_tr (rSub_rf (P := P673969)) hsb674200
    have he674210 : F674199 q673972 = .inl (I .byte, n673977, .inl f673976) := (hfr674201 q673972 hmq673972 (nm_c (rn_ao heq673972 heq673971) nm_n)).trans heq673972
    have hfr674211 : rFr [q673971] P673969 F673970 F674199 := rFr_call (rSub_rf (P := P673969)) (rFr_rf (W := []) (P := P673969) (F := F673970)) hfr674201 (fun b hb hn => ⟨nm_n, (nm_c (fun e => hn (e ▸ List.mem_cons_self)) nm_n)⟩)
    change G _ _ _ _ _ _ _ (.ref q673971 :: _) _ _ _
    refine G_widen (cs' := (min 1 (n674190 - n673977))) (sl' := 2 * (n674190 - n673977)) (by omega) (by omega) ?_
    refine G_pop dr_cJ4_append_cf468_5 rfl ?_
    refine G_aload_n 0 dr_cJ4_append_cf468_6 rfl ?_
    exact G_aretA (FieldType.object "java/lang/StringBuilder") dr_cJ4_append_cf468_7 rfl (by first | exact Or.inl ⟨_, rfl⟩ | exact Or.inr ⟨_, rfl⟩) (Or.inr ⟨_, rfl⟩) (show (min 1 (n674190 - n673977)) ≤ 1 by omega) (show 2 * (n674190 - n673977) ≤ (4 * n673977 + 8) by omega) (Or.inr (⟨P674198, F674199, o674188, q674189, n674190, f674191, rfl, rfl, hsb674209, hfr674211, he674202, he674203, hm674204, hq674208, (by omega), (by omega), bo674188, bf674191, (by have qa0 : Int32.toInt 0 = 0 := (by decide); omega), (by have qa0 : Int32.toInt 0 = 0 := (by decide); omega), (by have qa0 : Int32.toInt 0 = 0 := (by decide); omega), (by have qa0 : Int32.toInt 0 = 0 := (by decide); omega), (by have qa0 : Int32.toInt 0 = 0 := (by decide); omega), (by have qa0 : Int32.toInt 0 = 0 := (by decide); omega)⟩))
abbrev ky_674247_AbstractStringBuilder_append : gKey := (cJ5_append_c97b9, 4, "java/lang/AbstractStringBuilder", (some (FieldType.object "java/lang/AbstractStringBuilder")), [], "append", fun _ _ => True)
def pp_674247_AbstractStringBuilder_append (D : va_G) (I : FieldType → ClassId) (P674235 : List Nat) (F674236 : Nat → va_E) (q674237 : Nat) (q674238 : Nat) (p674239 : Int32) (p674240 : Int32) (p674241 : Int32) (f674242 : Nat → Int32) (n674243 : Nat) : Option Value → va_W → Nat → Nat → Prop := fun r w dc ds => (∃ (F674348 : Nat → va_E) (o674345 : Int32) (f674346 : Nat → Int32), r = some (.ref q674237) ∧ w = va_pl P674235 F674348 ∧ rFr [q674237, q674238] P674235 F674236 F674348 ∧ F674348 q674237 = .inr (1, [.ref q674238, .int 0, .int p674240, .int o674345]) ∧ F674348 q674238 = .inl (I .byte, n674243, .inl f674346) ∧ dc ≤ 0 ∧ ds ≤ 0 ∧ gB o674345 1 16777216 ∧ gF f674346 (-128) 127 ∧ p674241.toInt ≤ o674345.toInt ∧ o674345.toInt ≤ p674241.toInt + 11 ∧ o674345.toInt ≤ (n674243 : Int) ∧ (n674243 : Int) ≤ (n674243 : Int) ∧ ((n674243 : Int) ≤ 2 * (n674243 : Int) + 2 ∨ (n674243 : Int) ≤ p674241.toInt + 11) ∧ ((n674243 : Int) = (n674243 : Int) ∨ (n674243 : Int) < o674345.toInt) ∧ ((n674243 : Int) = (n674243 : Int) ∨ 2 * (n674243 : Int) + 2 ≤ (n674243 : Int))) ∨ (∃ (P674353 : List Nat) (F674354 : Nat → va_E) (o674349 : Int32) (q674350 : Nat) (n674351 : Nat) (f674352 : Nat → Int32), r = some (.ref q674237) ∧ w = va_pl P674353 F674354 ∧ rSub P674235 P674353 ∧ rFr [q674237] P674235 F674236 F674354 ∧ F674354 q674237 = .inr (1, [.ref q674350, .int 0, .int p674240, .int o674349]) ∧ F674354 q674350 = .inl (I .byte, n674351, .inl f674352) ∧ q674350 ∈ P674353 ∧ q674350 ∉ P674235 ∧ dc ≤ (min 1 (n674351 - n674243)) ∧ ds ≤ 2 * (n674351 - n674243) ∧ gB o674349 1 16777216 ∧ gF f674352 (-128) 127 ∧ p674241.toInt ≤ o674349.toInt ∧ o674349.toInt ≤ p674241.toInt + 11 ∧ o674349.toInt ≤ (n674351 : Int) ∧ (n674243 : Int) ≤ (n674351 : Int) ∧ ((n674351 : Int) ≤ 2 * (n674243 : Int) + 2 ∨ (n674351 : Int) ≤ p674241.toInt + 11) ∧ ((n674351 : Int) = (n674243 : Int) ∨ (n674243 : Int) < o674349.toInt) ∧ ((n674351 : Int) = (n674243 : Int) ∨ 2 * (n674243 : Int) + 2 ≤ (n674351 : Int)))
set_option maxRecDepth 100000 in
set_option maxHeartbeats 4000000 in
theorem cp_674247_AbstractStringBuilder_append (l : Launch) (hl0 : l.stackTraces = false) (D : va_G) (I : FieldType → ClassId) (P674235 : List Nat) (F674236 : Nat → va_E) (q674237 : Nat) (q674238 : Nat) (p674239 : Int32) (p674240 : Int32) (p674241 : Int32) (f674242 : Nat → Int32) (n674243 : Nat) (hmq674237 : q674237 ∈ P674235) (hmq674238 : q674238 ∈ P674235) (heq674237 : F674236 q674237 = .inr (1, [.ref q674238, .int 0, .int p674240, .int p674241])) (heq674238 : F674236 q674238 = .inl (I .byte, n674243, .inl f674242)) (bp674240 : gB p674240 0 1) (bp674241 : gB p674241 0 16777216) (bf674242 : gF f674242 (-128) 127) (x674244 : (n674243 : Int) ≤ 8388608 - 100000) (x674245 : p674241.toInt ≤ (n674243 : Int)) (x674246 : ((n674243 : Int) ≤ 16777216)) : CtA (gV D I) l yJ5_append_c97b9 cJ5_append_c97b9 4 (some (FieldType.object "java/lang/AbstractStringBuilder")) 4 84 1 (4 * n674243 + 64) [.ref q674237, .int p674239] (va_pl P674235 F674236) (pp_674247_AbstractStringBuilder_append D I P674235 F674236 q674237 q674238 p674239 p674240 p674241 f674242 n674243) gNA := by
  refine CtA_ofF hl0 (by decide +kernel) (Nat.le_of_ble_eq_true rfl) ?_
  have bp674239 := gB_any p674239
  refine G_aload_n 0 dr_cJ5_append_c97b9_0 rfl ?_
  refine Gp_get 3 hmq674237 heq674237 dr_cJ5_append_c97b9_1 (gk_J4 D I) (Nat.le_of_ble_eq_true rfl) wr_7_64 rfl ?_
  refine G_istore_n (L' := [(2, .int p674241), (0, .ref q674237), (1, .int p674239)]) dr_cJ5_append_c97b9_4 (Nat.le_of_ble_eq_true rfl) rfl ?_
  refine G_iload_n 0 dr_cJ5_append_c97b9_5 rfl ?_
  refine G_iload_n 2 dr_cJ5_append_c97b9_6 rfl ?_
  refine Gw_callS (As := [.int p674239]) (gV_ok D I) (cp_664343_Integer_stringSize l hl0 D I P674235 F674236 p674239 ) dr_cJ5_append_c97b9_7 ⟨wr_8_112, wr_1_35, wr_8_114, by decide, rfl, (Nat.le_of_ble_eq_true rfl), (Nat.le_of_ble_eq_true rfl)⟩ wr_8_113 (show 0 + 0 ≤ 1 by first | omega | decide) (show 0 + 0 ≤ (4 * n674243 + 64) by first | omega | decide) (Nat.le_of_ble_eq_true rfl) (fun r674251 w674252 dc674248 ds674249 hp674250 => ?_) (fun _ _ _ _ _ z => z.elim)
  obtain ⟨o674253, rfl, rfl, hdc, hds, bo674253, x674254, ht674255⟩ := hp674250
  change G _ _ _ _ _ _ _ (.int o674253 :: _) _ _ _
  refine G_widen (cs' := 0) (sl' := 0) (by omega) (by omega) ?_
  refine G_iadd dr_cJ5_append_c97b9_10 (G_nam fun z674256 hz674256 => ?_)
  have ez674256 : z674256.toInt = p674241.toInt + o674253.toInt := by rw [gI_add hz674256 bp674241 bo674253 (by decide) (by decide)]
  have bz674256 : gB z674256 1 16777227 := gB_add (gI_add hz674256 bp674241 bo674253 (by decide) (by decide)) bp674241 bo674253 (by decide) (by decide)
  refine G_istore_n (L' := [(3, .int z674256), (2, .int p674241), (0, .ref q674237), (1, .int p674239)]) dr_cJ5_append_c97b9_11 (Nat.le_of_ble_eq_true rfl) rfl ?_
  refine G_aload_n 2 dr_cJ5_append_c97b9_12 rfl ?_
  refine G_iload_n 0 dr_cJ5_append_c97b9_13 rfl ?_
  refine Gw_callVB (As := [.int z674256]) (gV_ok D I) (cp_674007_AbstractStringBuilder_ensureCapacityInternal l hl0 D I P674235 F674236 q674237 q674238 z674256 p674240 p674241 f674242 n674243 hmq674237 hmq674238 heq674237 heq674238 ⟨by omega, by omega⟩ bp674240 bp674241 bf674242 (by have qa0 : Int32.toInt 0 = 0 := (by decide); omega) (by have qa0 : Int32.toInt 0 = 0 := (by decide); omega)) dr_cJ5_append_c97b9_14 ⟨wr_8_4, wr_1_19, wr_8_7, by decide, rfl, (Nat.le_of_ble_eq_true rfl), (Nat.le_of_ble_eq_true rfl)⟩ wr_8_6 wr_s_0 hmq674237 heq674237 rfl (show 0 + 1 ≤ 1 by first | omega | decide) (show 0 + (2 * n674243 + 2 + z674256.toInt.toNat) ≤ (4 * n674243 + 64) by first | omega | decide) (Nat.le_of_ble_eq_true rfl) (fun r674260 w674261 dc674257 ds674258 hp674259 => ?_) (fun _ _ _ _ _ z => z.elim)
  rcases hp674259 with hp674262 | hp674263
  · obtain ⟨rfl, rfl, hdc, hds, x674264, x674265, x674266, x674267, x674268, x674269⟩ := hp674262
    change G _ _ _ _ _ _ _ _ _ _ _
    refine G_widen (cs' := 0) (sl' := 0) (by omega) (by omega) ?_
    refine G_aload_n 2 dr_cJ5_append_c97b9_17 rfl ?_
    refine Gw_callVB (As := []) (gV_ok D I) (cp_655489_AbstractStringBuilder_isLatin1 l hl0 D I P674235 F674236 q674237 q674238 p674240 p674241 f674242 n674243 hmq674237 hmq674238 heq674237 heq674238 bp674240 bp674241 bf674242 (by have qa0 : Int32.toInt 0 = 0 := (by decide); omega)) dr_cJ5_append_c97b9_18 ⟨wr_8_33, wr_1_19, wr_8_37, by decide, rfl, (Nat.le_of_ble_eq_true rfl), (Nat.le_of_ble_eq_true rfl)⟩ wr_8_34 wr_8_36 hmq674237 heq674237 rfl (show 0 + 0 ≤ 1 by first | omega | decide) (show 0 + 0 ≤ (4 * n674243 + 64) by first | omega | decide) (Nat.le_of_ble_eq_true rfl) (fun r674273 w674274 dc674270 ds674271 hp674272 => ?_) (fun _ _ _ _ _ z => z.elim)
    obtain ⟨rfl, rfl, hdc, hds⟩ := hp674272
    change G _ _ _ _ _ _ _ (.int 1 :: _) _ _ _
    refine G_widen (cs' := 0) (sl' := 0) (by omega) (by omega) ?_
    refine G_if_eq 37 dr_cJ5_append_c97b9_21 (by decide +kernel) (fun hc => absurd hc (by decide)) (fun _ => ?_)
    refine G_iload_n 3 dr_cJ5_append_c97b9_24 rfl ?_
    refine G_iload_n 0 dr_cJ5_append_c97b9_25 rfl ?_
    refine G_aload_n 2 dr_cJ5_append_c97b9_26 rfl ?_
    refine Gp_get 0 hmq674237 heq674237 dr_cJ5_append_c97b9_27 (gk_J4 D I) (Nat.le_of_ble_eq_true rfl) wr_7_60 rfl ?_
    refine Gw_callS (As := [.int p674239, .int z674256, .ref q674238]) (gV_ok D I) (cp_664526_Integer_getChars l hl0 D I P674235 F674236 q674238 p674239 z674256 f674242 n674243 hmq674238 heq674238 ⟨by omega, by omega⟩ bf674242 (by have qa0 : Int32.toInt 0 = 0 := (by decide); omega) (by have q10 : Int32.toInt 10 = 10 := (by decide); have q11 : Int32.toInt 11 = 11 := (by decide); first | exact dgS_up (by omega) (by omega) x674254 (by omega)) (by have qa0 : Int32.toInt 0 = 0 := (by decide); omega)) dr_cJ5_append_c97b9_30 ⟨wr_8_115, wr_1_35, wr_8_117, by decide, rfl, (Nat.le_of_ble_eq_true rfl), (Nat.le_of_ble_eq_true rfl)⟩ wr_8_116 (show 0 + 0 ≤ 1 by first | omega | decide) (show 0 + 0 ≤ (4 * n674243 + 64) by first | omega | decide) (Nat.le_of_ble_eq_true rfl) (fun r674278 w674279 dc674275 ds674276 hp674277 => ?_) (fun _ _ _ _ _ z => z.elim)
    obtain ⟨F674283, o674280, f674281, rfl, rfl, hfr674285, he674286, hdc, hds, bo674280, bf674281, ht674282⟩ := hp674277
    have he674287 : F674283 q674237 = .inr (1, [.ref q674238, .int 0, .int p674240, .int p674241]) := (hfr674285 q674237 hmq674237 (nm_c (rn_oa heq674237 heq674238) nm_n)).trans heq674237
    have hfr674288 : rFr [q674238] P674235 F674236 F674283 := rFr_call (rSub_rf (P := P674235)) (rFr_rf (W := []) (P := P674235) (F := F674236)) hfr674285 (fun b hb hn => ⟨nm_n, (nm_c (fun e => hn (e ▸ List.mem_cons_self)) nm_n)⟩)
    change G _ _ _ _ _ _ _ (.int o674280 :: _) _ _ _
    refine G_widen (cs' := 0) (sl' := 0) (by omega) (by omega) ?_
    refine G_pop dr_cJ5_append_c97b9_33 rfl ?_
    refine G_goto 48 dr_cJ5_append_c97b9_34 (by decide +kernel) ?_
    refine G_aload_n 2 dr_cJ5_append_c97b9_48 rfl ?_
    refine G_iload_n 0 dr_cJ5_append_c97b9_49 rfl ?_
    refine Gp_put 3 hmq674237 he674287 dr_cJ5_append_c97b9_50 (gk_J4 D I) (Nat.le_of_ble_eq_true rfl) wr_7_64 rfl rfl rfl (Nat.le_of_ble_eq_true rfl) (fun F674289 e674290 n674291 => ?_)
    have he674292 : F674289 q674238 = .inl (I .byte, n674243, .inl f674281) := (n674291 q674238 (rn_ao he674286 he674287)).trans he674286
    have he674293 : F674289 q674237 = .inr (1, [.ref q674238, .int 0, .int p674240, .int z674256]) := e674290
    have hfr674294 : rFr [q674237, q674238] P674235 F674236 F674289 := rFr_put hfr674288 n674291
    refine G_aload_n 2 dr_cJ5_append_c97b9_53 rfl ?_
    exact G_aretA (FieldType.object "java/lang/AbstractStringBuilder") dr_cJ5_append_c97b9_54 rfl (by first | exact Or.inl ⟨_, rfl⟩ | exact Or.inr ⟨_, rfl⟩) (Or.inr ⟨_, rfl⟩) (Nat.le_of_ble_eq_true rfl) (Nat.le_of_ble_eq_true rfl) (Or.inl ⟨F674289, z674256, f674281, rfl, rfl, hfr674294, he674293, he674292, (Nat.le_of_ble_eq_true rfl), (Nat.le_of_ble_eq_true rfl), ⟨by omega, by omega⟩, bf674281, (by have qa0 : Int32.toInt 0 = 0 := (by decide); omega), (by have qa0 : Int32.toInt 0 = 0 := (by decide); omega), (by have qa0 : Int32.toInt 0 = 0 := (by decide); omega), (by have qa0 : Int32.toInt 0 = 0 := (by decide); omega), (by have qa0 : Int32.toInt 0 = 0 := (by decide); omega), (by have qa0 : Int32.toInt 0 = 0 := (by decide); omega), (by have qa0 : Int32.toInt 0 = 0 := (by decide); omega)⟩)
  · obtain ⟨P674304, F674305, q674295, n674296, f674297, rfl, rfl, hsb674306, hfr674307, he674308, he674309, hm674310, hq674311, hdc, hds, bf674297, x674298, x674299, x674300, x674301, x674302, x674303⟩ := hp674263
    have hm674312 : q674237 ∈ P674304 := hsb674306 q674237 hmq674237
    have hm674313 : q674238 ∈ P674304 := hsb674306 q674238 hmq674238
    have hq674314 : q674295 ∉ P674235 := fun z => hq674311 ((rSub_rf (P := P674235)) q674295 z)
    have hsb674315 : rSub P674235 P674304 := rSub_tr (rSub_rf (P := P674235)) hsb674306
    have he674316 : F674305 q674238 = .inl (I .byte, n674243, .inl f674242) := (hfr674307 q674238 hmq674238 (nm_c (rn_ao heq674238 heq674237) nm_n)).trans heq674238
    have hfr674317 : rFr [q674237] P674235 F674236 F674305 := rFr_call (rSub_rf (P := P674235)) (rFr_rf (W := []) (P := P674235) (F := F674236)) hfr674307 (fun b hb hn => ⟨nm_n, (nm_c (fun e => hn (e ▸ List.mem_cons_self)) nm_n)⟩)
    change G _ _ _ _ _ _ _ _ _ _ _
    refine G_widen (cs' := (min 1 (n674296 - n674243))) (sl' := 2 * (n674296 - n674243)) (by omega) (by omega) ?_
    refine G_aload_n 2 dr_cJ5_append_c97b9_17 rfl ?_
    refine Gw_callVB (As := []) (gV_ok D I) (cp_655489_AbstractStringBuilder_isLatin1 l hl0 D I P674304 F674305 q674237 q674295 p674240 p674241 f674297 n674296 hm674312 hm674310 he674308 he674309 bp674240 bp674241 bf674297 (by have qa0 : Int32.toInt 0 = 0 := (by decide); omega)) dr_cJ5_append_c97b9_18 ⟨wr_8_33, wr_1_19, wr_8_37, by decide, rfl, (Nat.le_of_ble_eq_true rfl), (Nat.le_of_ble_eq_true rfl)⟩ wr_8_34 wr_8_36 hm674312 he674308 rfl (show (min 1 (n674296 - n674243)) + 0 ≤ 1 by first | omega | decide) (show 2 * (n674296 - n674243) + 0 ≤ (4 * n674243 + 64) by first | omega | decide) (Nat.le_of_ble_eq_true rfl) (fun r674321 w674322 dc674318 ds674319 hp674320 => ?_) (fun _ _ _ _ _ z => z.elim)
    obtain ⟨rfl, rfl, hdc, hds⟩ := hp674320
    change G _ _ _ _ _ _ _ (.int 1 :: _) _ _ _
    refine G_widen (cs' := (min 1 (n674296 - n674243)) + 0) (sl' := 2 * (n674296 - n674243) + 0) (by omega) (by omega) ?_
    refine G_if_eq 37 dr_cJ5_append_c97b9_21 (by decide +kernel) (fun hc => absurd hc (by decide)) (fun _ => ?_)
    refine G_iload_n 3 dr_cJ5_append_c97b9_24 rfl ?_
    refine G_iload_n 0 dr_cJ5_append_c97b9_25 rfl ?_
    refine G_aload_n 2 dr_cJ5_append_c97b9_26 rfl ?_
    refine Gp_get 0 hm674312 he674308 dr_cJ5_append_c97b9_27 (gk_J4 D I) (Nat.le_of_ble_eq_true rfl) wr_7_60 rfl ?_
    refine Gw_callS (As := [.int p674239, .int z674256, .ref q674295]) (gV_ok D I) (cp_664526_Integer_getChars l hl0 D I P674304 F674305 q674295 p674239 z674256 f674297 n674296 hm674310 he674309 ⟨by omega, by omega⟩ bf674297 (by have qa0 : Int32.toInt 0 = 0 := (by decide); omega) (by have q10 : Int32.toInt 10 = 10 := (by decide); have q11 : Int32.toInt 11 = 11 := (by decide); first | exact dgS_up (by omega) (by omega) x674254 (by omega)) (by have qa0 : Int32.toInt 0 = 0 := (by decide); omega)) dr_cJ5_append_c97b9_30 ⟨wr_8_115, wr_1_35, wr_8_117, by decide, rfl, (Nat.le_of_ble_eq_true rfl), (Nat.le_of_ble_eq_true rfl)⟩ wr_8_116 (show (min 1 (n674296 - n674243)) + 0 + 0 ≤ 1 by first | omega | decide) (show 2 * (n674296 - n674243) + 0 + 0 ≤ (4 * n674243 + 64) by first | omega | decide) (Nat.le_of_ble_eq_true rfl) (fun r674326 w674327 dc674323 ds674324 hp674325 => ?_) (fun _ _ _ _ _ z => z.elim)
    obtain ⟨F674331, o674328, f674329, rfl, rfl, hfr674333, he674334, hdc, hds, bo674328, bf674329, ht674330⟩ := hp674325
    have he674335 : F674331 q674238 = .inl (I .byte, n674243, .inl f674242) := (hfr674333 q674238 hm674313 (nm_c (fun h => hq674314 (h ▸ hmq674238)) nm_n)).trans he674316
    have he674336 : F674331 q674237 = .inr (1, [.ref q674295, .int 0, .int p674240, .int p674241]) := (hfr674333 q674237 hm674312 (nm_c (fun h => hq674314 (h ▸ hmq674237)) nm_n)).trans he674308
    have hfr674337 : rFr [q674237] P674235 F674236 F674331 := rFr_call hsb674315 hfr674317 hfr674333 (fun b hb hn => ⟨(nm_c (fun e => hn (e ▸ List.mem_cons_self)) nm_n), (nm_c (fun e => hq674314 (e ▸ hb)) nm_n)⟩)
    change G _ _ _ _ _ _ _ (.int o674328 :: _) _ _ _
    refine G_widen (cs' := (min 1 (n674296 - n674243)) + 0 + 0) (sl' := 2 * (n674296 - n674243) + 0 + 0) (by omega) (by omega) ?_
    refine G_pop dr_cJ5_append_c97b9_33 rfl ?_
    refine G_goto 48 dr_cJ5_append_c97b9_34 (by decide +kernel) ?_
    refine G_aload_n 2 dr_cJ5_append_c97b9_48 rfl ?_
    refine G_iload_n 0 dr_cJ5_append_c97b9_49 rfl ?_
    refine Gp_put 3 hm674312 he674336 dr_cJ5_append_c97b9_50 (gk_J4 D I) (Nat.le_of_ble_eq_true rfl) wr_7_64 rfl rfl rfl (Nat.le_of_ble_eq_true rfl) (fun F674338 e674339 n674340 => ?_)
    have he674341 : F674338 q674238 = .inl (I .byte, n674243, .inl f674242) := (n674340 q674238 (rn_ao he674335 he674336)).trans he674335
    have he674342 : F674338 q674295 = .inl (I .byte, n674296, .inl f674329) := (n674340 q674295 (fun h => hq674314 (h ▸ hmq674237))).trans he674334
    have he674343 : F674338 q674237 = .inr (1, [.ref q674295, .int 0, .int p674240, .int z674256]) := e674339
    have hfr674344 : rFr [q674237] P674235 F674236 F674338 := rFr_put' List.mem_cons_self hfr674337 n674340
    refine G_aload_n 2 dr_cJ5_append_c97b9_53 rfl ?_
    exact G_aretA (FieldType.object "java/lang/AbstractStringBuilder") dr_cJ5_append_c97b9_54 rfl (by first | exact Or.inl ⟨_, rfl⟩ | exact Or.inr ⟨_, rfl⟩) (Or.inr ⟨_, rfl⟩) (show (min 1 (n674296 - n674243)) + 0 + 0 ≤ 1 by omega) (show 2 * (n674296 - n674243) + 0 + 0 ≤ (4 * n674243 + 64) by omega) (Or.inr (⟨P674304, F674338, z674256, q674295, n674296, f674329, rfl, rfl, hsb674315, hfr674344, he674343, he674342, hm674310, hq674314, (by omega), (by omega), ⟨by omega, by omega⟩, bf674329, (by have qa0 : Int32.toInt 0 = 0 := (by decide); omega), (by have qa0 : Int32.toInt 0 = 0 := (by decide); omega), (by have qa0 : Int32.toInt 0 = 0 := (by decide); omega), (by have qa0 : Int32.toInt 0 = 0 := (by decide); omega), (by have qa0 : Int32.toInt 0 = 0 := (by decide); omega), (by have qa0 : Int32.toInt 0 = 0 := (by decide); omega), (by have qa0 : Int32.toInt 0 = 0 := (by decide); omega)⟩))
