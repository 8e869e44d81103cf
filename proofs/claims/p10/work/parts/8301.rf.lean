theorem dr_cX17_input_30 : decode cX17_input 30 = .ok (.iload_n 2, 1) := by decide +kernel
theorem dr_cX17_input_31 : decode cX17_input 31 = .ok (.iconst 4, 1) := by decide +kernel
theorem dr_cX17_input_32 : decode cX17_input 32 = .ok (.if_icmp .ge 39, 3) := by decide +kernel
theorem dr_cX17_input_35 : decode cX17_input 35 = .ok (.aload_n 0, 1) := by decide +kernel
theorem dr_cX17_input_36 : decode cX17_input 36 = .ok (.getfield 303, 3) := by decide +kernel
theorem dr_cX17_input_39 : decode cX17_input 39 = .ok (.iload_n 1, 1) := by decide +kernel
theorem dr_cX17_input_40 : decode cX17_input 40 = .ok (.aload_n 0, 1) := by decide +kernel
theorem dr_cX17_input_41 : decode cX17_input 41 = .ok (.getfield 303, 3) := by decide +kernel
theorem dr_cX17_input_44 : decode cX17_input 44 = .ok (.iload_n 1, 1) := by decide +kernel
theorem dr_cX17_input_45 : decode cX17_input 45 = .ok (.iaload, 1) := by decide +kernel
theorem dr_cX17_input_46 : decode cX17_input 46 = .ok (.bipush 8, 2) := by decide +kernel
theorem dr_cX17_input_48 : decode cX17_input 48 = .ok (.ishl, 1) := by decide +kernel
theorem dr_cX17_input_49 : decode cX17_input 49 = .ok (.aload_n 0, 1) := by decide +kernel
theorem dr_cX17_input_50 : decode cX17_input 50 = .ok (.getfield 374, 3) := by decide +kernel
theorem dr_cX17_input_53 : decode cX17_input 53 = .ok (.iconst 4, 1) := by decide +kernel
theorem dr_cX17_input_54 : decode cX17_input 54 = .ok (.iload_n 1, 1) := by decide +kernel
theorem dr_cX17_input_55 : decode cX17_input 55 = .ok (.imul, 1) := by decide +kernel
theorem dr_cX17_input_56 : decode cX17_input 56 = .ok (.iload_n 2, 1) := by decide +kernel
theorem dr_cX17_input_57 : decode cX17_input 57 = .ok (.iadd, 1) := by decide +kernel
theorem dr_cX17_input_58 : decode cX17_input 58 = .ok (.baload, 1) := by decide +kernel
theorem dr_cX17_input_59 : decode cX17_input 59 = .ok (.sipush 255, 3) := by decide +kernel
theorem dr_cX17_input_62 : decode cX17_input 62 = .ok (.iand, 1) := by decide +kernel
theorem dr_cX17_input_63 : decode cX17_input 63 = .ok (.ior, 1) := by decide +kernel
theorem dr_cX17_input_64 : decode cX17_input 64 = .ok (.iastore, 1) := by decide +kernel
theorem dr_cX17_input_65 : decode cX17_input 65 = .ok (.iinc 2 1, 3) := by decide +kernel
theorem dr_cX17_input_68 : decode cX17_input 68 = .ok (.goto (-38), 3) := by decide +kernel
theorem dr_cX17_input_19 : decode cX17_input 19 = .ok (.iload_n 1, 1) := by decide +kernel
theorem dr_cX17_input_20 : decode cX17_input 20 = .ok (.aload_n 0, 1) := by decide +kernel
theorem dr_cX17_input_21 : decode cX17_input 21 = .ok (.getfield 303, 3) := by decide +kernel
theorem dr_cX17_input_24 : decode cX17_input 24 = .ok (.arraylength, 1) := by decide +kernel
theorem dr_cX17_input_25 : decode cX17_input 25 = .ok (.if_icmp .ge 52, 3) := by decide +kernel
theorem dr_cX17_input_28 : decode cX17_input 28 = .ok (.iconst 0, 1) := by decide +kernel
theorem dr_cX17_input_29 : decode cX17_input 29 = .ok (.istore_n 2, 1) := by decide +kernel
theorem dr_cX17_input_71 : decode cX17_input 71 = .ok (.iinc 1 1, 3) := by decide +kernel
theorem dr_cX17_input_74 : decode cX17_input 74 = .ok (.goto (-55), 3) := by decide +kernel
theorem dr_cX17_input_0 : decode cX17_input 0 = .ok (.aload_n 0, 1) := by decide +kernel
theorem dr_cX17_input_1 : decode cX17_input 1 = .ok (.iconst 0, 1) := by decide +kernel
theorem dr_cX17_input_2 : decode cX17_input 2 = .ok (.putfield 380, 3) := by decide +kernel
theorem dr_cX17_input_5 : decode cX17_input 5 = .ok (.aload_n 0, 1) := by decide +kernel
theorem dr_cX17_input_6 : decode cX17_input 6 = .ok (.aload_n 0, 1) := by decide +kernel
theorem dr_cX17_input_7 : decode cX17_input 7 = .ok (.getfield 383, 3) := by decide +kernel
theorem dr_cX17_input_10 : decode cX17_input 10 = .ok (.iconst 4, 1) := by decide +kernel
theorem dr_cX17_input_11 : decode cX17_input 11 = .ok (.idiv, 1) := by decide +kernel
theorem dr_cX17_input_12 : decode cX17_input 12 = .ok (.newarray .int, 2) := by decide +kernel
theorem dr_cX17_input_14 : decode cX17_input 14 = .ok (.putfield 303, 3) := by decide +kernel
theorem dr_cX17_input_17 : decode cX17_input 17 = .ok (.iconst 0, 1) := by decide +kernel
theorem dr_cX17_input_18 : decode cX17_input 18 = .ok (.istore_n 1, 1) := by decide +kernel
theorem dr_cX17_input_77 : decode cX17_input 77 = .ok (.aload_n 0, 1) := by decide +kernel
theorem dr_cX17_input_78 : decode cX17_input 78 = .ok (.iconst 0, 1) := by decide +kernel
theorem dr_cX17_input_79 : decode cX17_input 79 = .ok (.putfield 383, 3) := by decide +kernel
theorem dr_cX17_input_82 : decode cX17_input 82 = .ok (.aload_n 0, 1) := by decide +kernel
theorem dr_cX17_input_83 : decode cX17_input 83 = .ok (.getfield 303, 3) := by decide +kernel
theorem dr_cX17_input_86 : decode cX17_input 86 = .ok (.arraylength, 1) := by decide +kernel
theorem dr_cX17_input_87 : decode cX17_input 87 = .ok (.ireturn, 1) := by decide +kernel
abbrev ky_inp : gKey := (cX17_input, 3, "SpillForgeModel", (some FieldType.int), [], "input", fun _ _ => True)
def inS (D : va_G) (I : FieldType → ClassId) (P0 : List Nat) (F0 : Nat → va_E) (γ0 el : Nat → Nat → Nat) (P : List Nat) (γ : Nat → Nat → Nat) (m A N : Nat) (e : va_E) (C : (Nat → Int32) → Prop) (F : Nat → va_E) : Prop := rSk 0 [] [10, 98] D I P0 F0 γ0 el P F γ el ∧ F m = e ∧ A ∈ P ∧ γ 0 A = 98 ∧ ∃ f : Nat → Int32, F A = .inl (I .int, N, .inl f) ∧ C f
/-- q ints are done, and j bytes of the next -/
def iC9 (t : Nat → Int32) (i j : Nat) (f : Nat → Int32) : Prop := (∀ q, q < i → f q = i4 t q 4) ∧ f i = i4 t i j ∧ ∀ q, i < q → f q = 0
theorem inS_a {D : va_G} {I : FieldType → ClassId} {P0 P : List Nat} {F0 F F1 : Nat → va_E} {γ0 γ el : Nat → Nat → Nat} {m A N : Nat} {e : va_E} {C C2 : (Nat → Int32) → Prop} {f1 : Nat → Int32} (h : inS D I P0 F0 γ0 el P γ m A N e C F) (hm : γ 0 m = 10) (hN : N ≤ 2048) (e1 : F1 A = .inl (I .int, N, .inl f1)) (n : ∀ b, b ≠ A → F1 b = F b) (hC : C2 f1) : inS D I P0 F0 γ0 el P γ m A N e C2 F1 := by
  obtain ⟨h1, h2, h3, h4, -⟩ := h
  have hmA : m ≠ A := fun q => by rw [q, h4] at hm; cases hm
  exact ⟨rSk_put h1 (RS_set h1.1 n (show rKd γ A 98 from h4) (by decide) ⟨N, f1, e1, by omega⟩) n (show rKd γ A 98 from h4) (by decide) (fun _ z => nomatch z), (n m hmA).trans h2, h3, h4, f1, e1, hC⟩
set_option maxRecDepth 100000 in
set_option maxHeartbeats 4000000 in
theorem in_l2 {l : Launch} {D : va_G} {I : FieldType → ClassId} {P0 P : List Nat} {F0 : Nat → va_E} {γ0 γ el : Nat → Nat → Nat} {m A N cs sl mc ms : Nat} {Qf : gFin} {r35 : Nat} {v9 v10 v11 v12 v13 v14 v23 v24 v25 v26 v27 v30 v32 v33 v34 i : Int32} (hm : γ 0 m = 10) (t25 : γ 0 (γ 9 31) = 99) (hN : N ≤ 2048) {ft : Nat → Int32} (htp : F0 (γ0 9 31) = .inl (I .byte, 8192, .inl ft)) (t250 : γ0 0 (γ0 9 31) = 99) (hi0 : 0 ≤ i.toInt) (hiN : i.toInt < (N : Int))
    (kk : ∀ (F : Nat → va_E) (jj : Int32), inS D I P0 F0 γ0 el P γ m A N (mdE γ A r35 v9 v10 v11 v12 v13 v14 v23 v24 v25 v26 v27 v30 v32 v33 v34) (iC9 ft i.toInt.toNat 4) F → G (gV D I) l (gRm 1 20 mc ms) Qf ky_inp 71 [(2, .int jj), (1, .int i), (0, .ref m)] [] (va_pl P F) cs sl) :
    ∀ (μ : Nat) (F : Nat → va_E) (jj : Int32), 4 - jj.toInt < (μ : Int) → 0 ≤ jj.toInt → jj.toInt ≤ 4 → inS D I P0 F0 γ0 el P γ m A N (mdE γ A r35 v9 v10 v11 v12 v13 v14 v23 v24 v25 v26 v27 v30 v32 v33 v34) (iC9 ft i.toInt.toNat jj.toInt.toNat) F →
    G (gV D I) l (gRm 1 20 mc ms) Qf ky_inp 30 [(2, .int jj), (1, .int i), (0, .ref m)] [] (va_pl P F) cs sl := by
  intro μ
  induction μ with
  | zero => intro F jj h h0 h4 _; exact absurd h (by omega)
  | succ μ ih =>
  intro F jj hμ h0 h4 hS
  obtain ⟨hk, he, mA, kA, fA, eA, hC⟩ := id hS
  have mm : m ∈ P := hk.1.1 m (by omega)
  have f1 : F (γ 9 31) = .inl (I .byte, 8192, .inl ft) := by rw [rSk_9 hk]; exact (rSk_F hk (show rKd γ0 _ 99 from t250) (by decide) (by decide)).trans htp
  have mt : γ 9 31 ∈ P := hk.1.1 _ (by omega)
  refine G_iload_n 0 dr_cX17_input_30 rfl ?_
  refine G_iconst 4 dr_cX17_input_31 (by decide +kernel) ?_
  have z4 : Int32.toInt 4 = 4 := by decide
  refine G_icmp_ge 71 dr_cX17_input_32 (by decide +kernel) (fun hc => kk F jj (by have q := Int32.le_iff_toInt_le.mp hc; rw [z4] at q; rw [show jj.toInt.toNat = 4 by omega] at hS; exact hS)) (fun hc => ?_)
  have hlt : jj.toInt < 4 := gj_nle hc rfl
  refine G_aload_n 2 dr_cX17_input_35 rfl ?_
  refine Gp_get 28 mm he dr_cX17_input_36 (gk_X17 D I) (Nat.le_of_ble_eq_true rfl) wr_7_102 rfl ?_
  refine G_iload_n 1 dr_cX17_input_39 rfl ?_
  refine G_aload_n 2 dr_cX17_input_40 rfl ?_
  refine Gp_get 28 mm he dr_cX17_input_41 (gk_X17 D I) (Nat.le_of_ble_eq_true rfl) wr_7_102 rfl ?_
  refine G_iload_n 1 dr_cX17_input_44 rfl ?_
  refine Gp_iald 0 mA eA dr_cX17_input_45 rfl (gB_inr hi0 hiN) (G_nam fun z1 hz1 => ?_)
  refine G_bipush 8 dr_cX17_input_46 (by decide +kernel) ?_
  refine G_ishl dr_cX17_input_48 (G_nam fun z2 hz2 => ?_)
  refine G_aload_n 2 dr_cX17_input_49 rfl ?_
  refine Gp_get 31 mm he dr_cX17_input_50 (gk_X17 D I) (Nat.le_of_ble_eq_true rfl) wr_7_105 rfl ?_
  refine G_iconst 4 dr_cX17_input_53 (by decide +kernel) ?_
  refine G_iload_n 1 dr_cX17_input_54 rfl ?_
  refine G_imul dr_cX17_input_55 (G_nam fun z3 hz3 => ?_)
  have bi : gB i 0 2048 := ⟨hi0, by omega⟩
  have e3 : z3.toInt = 4 * i.toInt := by rw [gI_mul hz3 (gBl z4) bi (by decide) (by decide) (by decide), z4]
  refine G_iload_n 0 dr_cX17_input_56 rfl ?_
  refine G_iadd dr_cX17_input_57 (G_nam fun z5 hz5 => ?_)
  have e5 : z5.toInt = z3.toInt + jj.toInt := gI_add hz5 (⟨by omega, by omega⟩ : gB z3 0 8192) (⟨h0, h4⟩ : gB jj 0 4) (by decide) (by decide)
  refine Gp_bald 1 mt f1 dr_cX17_input_58 rfl (gB_inr (by omega) (by omega)) (G_nam fun z6 hz6 => ?_)
  refine G_sipush 255 dr_cX17_input_59 (by decide +kernel) ?_
  refine G_iand dr_cX17_input_62 (G_nam fun z7 hz7 => ?_)
  refine G_ior dr_cX17_input_63 (G_nam fun z8 hz8 => ?_)
  refine Gp_iast 0 mA eA dr_cX17_input_64 rfl (gB_inr hi0 hiN) (fun F1 e1 n1 => ?_)
  obtain ⟨j1, hj1⟩ : ∃ z, z = jj + 1 := ⟨_, rfl⟩
  have ej : j1.toInt = jj.toInt + 1 := by rw [gI_add hj1 (⟨h0, h4⟩ : gB jj 0 4) (gBl (show Int32.toInt 1 = 1 by decide)) (by decide) (by decide), show Int32.toInt 1 = 1 from by decide]
  have ni : i.toNatClampNeg = i.toInt.toNat := nnE (show i.toInt = ((i.toInt.toNat : Nat) : Int) by omega)
  have n5 : z5.toNatClampNeg = 4 * i.toInt.toNat + jj.toInt.toNat := nnE (show z5.toInt = ((4 * i.toInt.toNat + jj.toInt.toNat : Nat) : Int) by omega)
  obtain ⟨q1, q2, q3⟩ := hC
  have v8 : z8 = i4 ft i.toInt.toNat (jj.toInt.toNat + 1) := by
    rw [hz8, hz7, hz2, hz1, hz6, n5, ni, q2]
    rfl
  have hS1 : inS D I P0 F0 γ0 el P γ m A N (mdE γ A r35 v9 v10 v11 v12 v13 v14 v23 v24 v25 v26 v27 v30 v32 v33 v34) (iC9 ft i.toInt.toNat j1.toInt.toNat) F1 := inS_a hS hm hN e1 n1 (by
    rw [show j1.toInt.toNat = jj.toInt.toNat + 1 by omega]
    refine ⟨fun q hq => ?_, ?_, fun q hq => ?_⟩
    · rw [ni, updN (by omega)]; exact q1 q hq
    · rw [ni, updE]; exact v8
    · rw [ni, updN (by omega)]; exact q3 q hq)
  refine G_iinc (L' := [(2, .int j1), (1, .int i), (0, .ref m)]) j1 0 dr_cX17_input_65 rfl (by rw [hj1]; rfl) (Nat.le_of_ble_eq_true rfl) rfl ?_
  refine G_goto 30 dr_cX17_input_68 (by decide +kernel) ?_
  exact ih F1 j1 (by omega) (by omega) (by omega) hS1
set_option maxRecDepth 100000 in
set_option maxHeartbeats 4000000 in
theorem in_l1 {l : Launch} {D : va_G} {I : FieldType → ClassId} {P0 P : List Nat} {F0 : Nat → va_E} {γ0 γ el : Nat → Nat → Nat} {m A N cs sl mc ms : Nat} {Qf : gFin} {r35 : Nat} {v9 v10 v11 v12 v13 v14 v23 v24 v25 v26 v27 v30 v32 v33 v34 : Int32} (hm : γ 0 m = 10) (t25 : γ 0 (γ 9 31) = 99) (hN : N ≤ 2048) {ft : Nat → Int32} (htp : F0 (γ0 9 31) = .inl (I .byte, 8192, .inl ft)) (t250 : γ0 0 (γ0 9 31) = 99)
    (kk : ∀ (F : Nat → va_E) (i : Int32), inS D I P0 F0 γ0 el P γ m A N (mdE γ A r35 v9 v10 v11 v12 v13 v14 v23 v24 v25 v26 v27 v30 v32 v33 v34) (iC9 ft N 0) F → G (gV D I) l (gRm 1 20 mc ms) Qf ky_inp 77 [(1, .int i), (0, .ref m)] [] (va_pl P F) cs sl) :
    ∀ (μ : Nat) (F : Nat → va_E) (i : Int32), (N : Int) - i.toInt < (μ : Int) → 0 ≤ i.toInt → i.toInt ≤ (N : Int) → inS D I P0 F0 γ0 el P γ m A N (mdE γ A r35 v9 v10 v11 v12 v13 v14 v23 v24 v25 v26 v27 v30 v32 v33 v34) (iC9 ft i.toInt.toNat 0) F →
    G (gV D I) l (gRm 1 20 mc ms) Qf ky_inp 19 [(1, .int i), (0, .ref m)] [] (va_pl P F) cs sl := by
  intro μ
  induction μ with
  | zero => intro F i h h0 h4 _; exact absurd h (by omega)
  | succ μ ih =>
  intro F i hμ h0 h4 hS
  obtain ⟨hk, he, mA, kA, fA, eA, hC⟩ := id hS
  have mm : m ∈ P := hk.1.1 m (by omega)
  refine G_iload_n 0 dr_cX17_input_19 rfl ?_
  refine G_aload_n 1 dr_cX17_input_20 rfl ?_
  refine Gp_get 28 mm he dr_cX17_input_21 (gk_X17 D I) (Nat.le_of_ble_eq_true rfl) wr_7_102 rfl ?_
  refine Gp_alen (Int32.ofNat N) 0 mA eA dr_cX17_input_24 rfl rfl (G_nam fun z hz => ?_)
  have ez : z.toInt = (N : Nat) := gI_ofM hz (by omega)
  refine G_icmp_ge 77 dr_cX17_input_25 (by decide +kernel) (fun hc => kk F i (by have q := Int32.le_iff_toInt_le.mp hc; rw [show i.toInt.toNat = N by omega] at hS; exact hS)) (fun hc => ?_)
  have hlt : i.toInt < z.toInt := gj_nle hc rfl
  refine G_iconst 0 dr_cX17_input_28 (by decide +kernel) ?_
  refine G_istore_n (L' := [(2, .int 0), (1, .int i), (0, .ref m)]) dr_cX17_input_29 (Nat.le_of_ble_eq_true rfl) rfl ?_
  have z0 : Int32.toInt 0 = 0 := by decide
  refine in_l2 hm t25 hN htp t250 h0 (by omega) (fun F1 jj hS1 => ?_) 5 F 0 (by rw [z0]; decide) (by rw [z0]; decide) (by rw [z0]; decide) hS
  obtain ⟨i1, hi1⟩ : ∃ z, z = i + 1 := ⟨_, rfl⟩
  have ei : i1.toInt = i.toInt + 1 := by rw [gI_add hi1 (⟨h0, by omega⟩ : gB i 0 2048) (gBl (show Int32.toInt 1 = 1 by decide)) (by decide) (by decide), show Int32.toInt 1 = 1 from by decide]
  refine G_iinc (L' := [(1, .int i1), (2, .int jj), (0, .ref m)]) i1 1 dr_cX17_input_71 rfl (by rw [hi1]; rfl) (Nat.le_of_ble_eq_true rfl) rfl ?_
  refine G_goto 19 dr_cX17_input_74 (by decide +kernel) ?_
  refine G_lv [0, 2] rfl ?_
  obtain ⟨u1, u2, u3, u4, u5, u6, u7⟩ := hS1
  exact ih F1 i1 (by omega) (by omega) (by omega) ⟨u1, u2, u3, u4, u5, u6, by
    rw [show i1.toInt.toNat = i.toInt.toNat + 1 by omega]
    refine ⟨fun q hq => ?_, u7.2.2 _ (by omega), fun q hq => u7.2.2 q (by omega)⟩
    by_cases e : q = i.toInt.toNat
    · rw [e]; exact u7.2.1
    · exact u7.1 q (by omega)⟩
set_option maxRecDepth 100000 in
set_option maxHeartbeats 4000000 in
theorem cp_input (l : Launch) (hl0 : l.stackTraces = false) (D : va_G) (I : FieldType → ClassId) {P : List Nat} {F : Nat → va_E} {γ el : Nat → Nat → Nat} {m : Nat} (hT : RS D I P F γ el) (hm : γ 0 m = 10) :
    CtA (gV D I) l yX17_input cX17_input 3 (some FieldType.int) 1 20 1 2048 [.ref m] (va_pl P F) (inP D I P F γ el m) gNA := by
  refine CtA_of hl0 (by decide) (Nat.le_of_ble_eq_true rfl) ?_
  obtain ⟨r28, r35, v9, v10, v11, v12, v13, v14, v23, v24, v25, v26, v27, v30, v32, v33, v34, he, hM1, hK, hM2⟩ := rk10_m (show rk_10 γ (F m) from RS_o hT hm)
  have hM1' := hM1
  obtain ⟨q9, q10, q11, q14, q25, q26, q27, q32, q34⟩ := hM1
  have mm : m ∈ P := hT.1 m (by omega)
  have e32 : fI (F m) 32 = v32 := by rw [he]; rfl
  have e10 : fI (F m) 10 = v10 := by rw [he]; rfl
  have e9 : fI (F m) 9 = v9 := by rw [he]; rfl
  have t25 : γ 0 (γ 9 31) = 99 := hK.2.2.2.2.2.2.2.2.2.2.2.2.2.2.2.2.2.2.2.2.1
  refine G_aload_n 0 dr_cX17_input_0 rfl ?_
  refine G_iconst 0 dr_cX17_input_1 (by decide +kernel) ?_
  refine Gp_put 30 mm he dr_cX17_input_2 (gk_X17 D I) (Nat.le_of_ble_eq_true rfl) wr_7_104 rfl rfl rfl (Nat.le_of_ble_eq_true rfl) (fun F1 e1 n1 => ?_)
  have e1' : F1 m = mdE γ r28 r35 v9 v10 v11 v12 v13 v14 v23 v24 v25 v26 v27 0 v32 v33 v34 := e1
  have hT1 := RS_md hT hm n1 e1' hM1' hK hM2
  have hk1 := rSk_put (rSk_rf (f := 0) (K := []) (KF := [10, 98]) hT) hT1 n1 (show rKd γ m 10 from hm) (by decide) (fun _ z => nomatch z)
  refine G_aload_n 0 dr_cX17_input_5 rfl ?_
  refine G_aload_n 0 dr_cX17_input_6 rfl ?_
  refine Gp_get 32 mm e1' dr_cX17_input_7 (gk_X17 D I) (Nat.le_of_ble_eq_true rfl) wr_7_106 rfl ?_
  refine G_iconst 4 dr_cX17_input_10 (by decide +kernel) ?_
  refine G_idiv dr_cX17_input_11 (by decide) (G_nam fun z hz => ?_)
  have ez : z.toInt = v32.toInt / 4 := gI_div hz q32 (by decide) (by decide) (by decide)
  have q32a := q32.1
  have q32b := q32.2
  have hz0 : 0 ≤ z.toInt := by omega
  have hz1 : z.toInt ≤ 2048 := by omega
  refine G_newa 0 (z.toInt.toNat, .inl (fun _ => 0)) dr_cX17_input_12 rfl rfl (by intro C h; cases h) wr_1_95 (fun _ => ga_int _ _) (g_n0 (by omega)) rfl (show z.toInt.toNat * 4 ≤ 536870912 by omega) (show 0 + 1 ≤ 1 by decide) (show 0 + z.toInt.toNat ≤ 2048 by omega) (fun A => Gp_in (fun P2 F2 hq hP e2 n2 => ?_))
  have hs2 : rSub P P2 := rSub_new (rSub_rf (P := P)) hP
  have A0 : γ 0 A = 0 := RS_new hT hq
  have mA2 : A ∈ P2 := (hP A).mpr (Or.inr rfl)
  have hN : z.toInt.toNat ≤ 2048 := by omega
  have sk2 : rSk 0 [] [10, 98] D I P F1 γ el P2 F2 (gNw γ A 98) el := rSk_nw hT1 hq hs2 mA2 n2 ⟨z.toInt.toNat, fun _ => 0, e2, by omega⟩
  have hk2 := rSk_tr hk1 sk2 (fun _ z => nomatch z) (fun _ z => z) (fun _ z => nomatch z)
  have hmA : m ≠ A := fun e => by rw [e, A0] at hm; cases hm
  have hm2 : gNw γ A 98 0 m = 10 := (gNw_ne hmA).trans hm
  have g9 : gNw γ A 98 9 = γ 9 := gNw_j (by decide)
  have e2m : F2 m = mdE (gNw γ A 98) r28 r35 v9 v10 v11 v12 v13 v14 v23 v24 v25 v26 v27 0 v32 v33 v34 := (n2 m hmA).trans e1'
  have mm2 := hs2 m mm
  have kA : gNw γ A 98 0 A = 98 := if_pos ⟨rfl, rfl⟩
  have hM2' : rM2 (gNw γ A 98) v9 v10 v34 r35 := by
    unfold rM2
    rw [gNw_j (j := 6) (by decide), gNw_j (j := 23) (by decide), gNw_j (j := 12) (by decide)]
    exact hM2
  refine Gp_put 28 mm2 e2m dr_cX17_input_14 (gk_X17 D I) (Nat.le_of_ble_eq_true rfl) wr_7_102 rfl rfl rfl (Nat.le_of_ble_eq_true rfl) (fun F3 e3 n3 => ?_)
  have e3' : F3 m = mdE (gNw γ A 98) A r35 v9 v10 v11 v12 v13 v14 v23 v24 v25 v26 v27 0 v32 v33 v34 := e3
  have hK3 := mdK_nw A0 hK
  have hT3 := RS_md hk2.1 hm2 n3 e3' hM1' hK3 hM2'
  have hk3 := rSk_put hk2 hT3 n3 (show rKd (gNw γ A 98) m 10 from hm2) (by decide) (fun _ z => nomatch z)
  have t25' : gNw γ A 98 0 (gNw γ A 98 9 31) = 99 := hK3.2.2.2.2.2.2.2.2.2.2.2.2.2.2.2.2.2.2.2.2.1
  obtain ⟨ft, htp, -⟩ := show rk_99 I (F (γ 9 31)) from RS_o hT t25
  have hS3 : inS D I P F γ el P2 (gNw γ A 98) m A z.toInt.toNat (mdE (gNw γ A 98) A r35 v9 v10 v11 v12 v13 v14 v23 v24 v25 v26 v27 0 v32 v33 v34) (iC9 ft (Int32.toInt 0).toNat 0) F3 := ⟨hk3, e3', mA2, kA, fun _ => 0, (n3 A (Ne.symm hmA)).trans e2, fun q hq => absurd hq (by rw [show (Int32.toInt 0).toNat = 0 from by decide]; omega), rfl, fun _ _ => rfl⟩
  refine G_iconst 0 dr_cX17_input_17 (by decide +kernel) ?_
  refine G_istore_n (L' := [(1, .int 0), (0, .ref m)]) dr_cX17_input_18 (Nat.le_of_ble_eq_true rfl) rfl ?_
  have z0 : Int32.toInt 0 = 0 := by decide
  refine in_l1 hm2 t25' hN htp t25 (fun F4 i hS4 => ?_) (z.toInt.toNat + 1) F3 0 (by rw [z0]; omega) (by rw [z0]; decide) (by rw [z0]; omega) hS3
  obtain ⟨hk4, he4, -, -, fA, eA4, hC4⟩ := id hS4
  refine G_aload_n 1 dr_cX17_input_77 rfl ?_
  refine G_iconst 0 dr_cX17_input_78 (by decide +kernel) ?_
  refine Gp_put 32 mm2 he4 dr_cX17_input_79 (gk_X17 D I) (Nat.le_of_ble_eq_true rfl) wr_7_106 rfl rfl rfl (Nat.le_of_ble_eq_true rfl) (fun F5 e5 n5 => ?_)
  have e5' : F5 m = mdE (gNw γ A 98) A r35 v9 v10 v11 v12 v13 v14 v23 v24 v25 v26 v27 0 0 v33 v34 := e5
  have hT5 := RS_md hk4.1 hm2 n5 e5' ⟨q9, q10, q11, q14, q25, q26, q27, ⟨by decide, by decide⟩, q34⟩ hK3 hM2'
  have hk5 := rSk_put hk4 hT5 n5 (show rKd (gNw γ A 98) m 10 from hm2) (by decide) (fun _ z => nomatch z)
  refine G_aload_n 1 dr_cX17_input_82 rfl ?_
  refine Gp_get 28 mm2 e5' dr_cX17_input_83 (gk_X17 D I) (Nat.le_of_ble_eq_true rfl) wr_7_102 rfl ?_
  refine Gp_alen (Int32.ofNat z.toInt.toNat) 0 mA2 ((n5 A (Ne.symm hmA)).trans eA4) dr_cX17_input_86 rfl rfl (G_nam fun x hx => ?_)
  exact G_iretA dr_cX17_input_87 rfl (show 0 + 1 ≤ 1 by decide) (show 0 + z.toInt.toNat ≤ 2048 by omega) ⟨P2, F5, gNw γ A 98, x, rfl, rfl, hk5, fun j hj => gNw_j hj, by rw [e5', e9]; rfl, by rw [e5', e10]; rfl, by rw [e5']; rfl, by omega, by rw [e32]; omega, by rw [e5', he]; rfl, by have ex := gI_ofM hx (by omega); rw [ex, e32]; omega, by rw [e5', he]; rfl, ft, htp, fA, by rw [e5']; exact ((n5 A (Ne.symm hmA)).trans eA4).trans (by rw [e32, ← ez]), fun q hq => hC4.1 q (by rw [e32, ← ez] at hq; exact hq)⟩
abbrev ky_677241_AbstractStringBuilder_ensureCapacityInternal : gKey := (cJ5_ensureCapacityInternal_d00df, 3, "java/lang/AbstractStringBuilder", none, [], "ensureCapacityInternal", fun _ _ => True)
def pp_677241_AbstractStringBuilder_ensureCapacityInternal (D : va_G) (I : FieldType → ClassId) (P677230 : List Nat) (F677231 : Nat → va_E) (q677232 : Nat) (q677233 : Nat) (p677234 : Int32) (p677235 : Int32) (p677236 : Int32) (f677237 : Nat → Int32) (n677238 : Nat) : Option Value → va_W → Nat → Nat → Prop := fun r w dc ds => (r = none ∧ w = va_pl P677230 F677231 ∧ dc ≤ 0 ∧ ds ≤ 0 ∧ p677234.toInt ≤ (n677238 : Int) ∧ (n677238 : Int) ≤ (n677238 : Int) ∧ ((n677238 : Int) = (n677238 : Int) ∨ (n677238 : Int) < p677234.toInt) ∧ ((n677238 : Int) ≤ 2 * (n677238 : Int) + 2 ∨ (n677238 : Int) ≤ p677234.toInt) ∧ ((n677238 : Int) = (n677238 : Int) ∨ (n677238 : Int) < p677234.toInt) ∧ ((n677238 : Int) = (n677238 : Int) ∨ 2 * (n677238 : Int) + 2 ≤ (n677238 : Int))) ∨ (∃ (P677291 : List Nat) (F677292 : Nat → va_E) (q677288 : Nat) (n677289 : Nat) (f677290 : Nat → Int32), r = none ∧ w = va_pl P677291 F677292 ∧ rSub P677230 P677291 ∧ rFr [q677232] P677230 F677231 F677292 ∧ F677292 q677232 = .inr (1, [.ref q677288, .int 0, .int p677235, .int p677236]) ∧ F677292 q677288 = .inl (I .byte, n677289, .inl f677290) ∧ q677288 ∈ P677291 ∧ q677288 ∉ P677230 ∧ dc ≤ (min 1 (n677289 - n677238)) ∧ ds ≤ 2 * (n677289 - n677238) ∧ gF f677290 (-128) 127 ∧ p677234.toInt ≤ (n677289 : Int) ∧ (n677238 : Int) ≤ (n677289 : Int) ∧ ((n677289 : Int) = (n677238 : Int) ∨ (n677238 : Int) < p677234.toInt) ∧ ((n677289 : Int) ≤ 2 * (n677238 : Int) + 2 ∨ (n677289 : Int) ≤ p677234.toInt) ∧ ((n677289 : Int) = (n677238 : Int) ∨ (n677238 : Int) < p677234.toInt) ∧ ((n677289 : Int) = (n677238 : Int) ∨ 2 * (n677238 : Int) + 2 ≤ (n677289 : Int)))
set_option maxRecDepth 100000 in
set_option maxHeartbeats 4000000 in
theorem cp_677241_AbstractStringBuilder_ensureCapacityInternal (l : Launch) (hl0 : l.stackTraces = false) (D : va_G) (I : FieldType → ClassId) (P677230 : List Nat) (F677231 : Nat → va_E) (q677232 : Nat) (q677233 : Nat) (p677234 : Int32) (p677235 : Int32) (p677236 : Int32) (f677237 : Nat → Int32) (n677238 : Nat) (hmq677232 : q677232 ∈ P677230) (hmq677233 : q677233 ∈ P677230) (heq677232 : F677231 q677232 = .inr (1, [.ref q677233, .int 0, .int p677235, .int p677236])) (heq677233 : F677231 q677233 = .inl (I .byte, n677238, .inl f677237)) (bp677234 : gB p677234 0 8388608) (bp677235 : gB p677235 0 1) (bp677236 : gB p677236 0 16777216) (bf677237 : gF f677237 (-128) 127) (x677239 : (n677238 : Int) ≤ 8388608) (x677240 : ((n677238 : Int) ≤ 16777216)) : CtA (gV D I) l yJ5_ensureCapacityInternal_d00df cJ5_ensureCapacityInternal_d00df 3 none 3 62 1 (2 * n677238 + 2 + p677234.toInt.toNat) [.ref q677232, .int p677234] (va_pl P677230 F677231) (pp_677241_AbstractStringBuilder_ensureCapacityInternal D I P677230 F677231 q677232 q677233 p677234 p677235 p677236 f677237 n677238) gNA := by
  refine CtA_ofF hl0 (by decide +kernel) (Nat.le_of_ble_eq_true rfl) ?_
  refine G_aload_n 0 dr_cJ5_ensureCapacityInternal_d00df_0 rfl ?_
  refine Gp_get 0 hmq677232 heq677232 dr_cJ5_ensureCapacityInternal_d00df_1 (gk_J4 D I) (Nat.le_of_ble_eq_true rfl) wr_7_60 rfl ?_
  refine Gp_alen (Int32.ofNat n677238) 1 hmq677233 heq677233 dr_cJ5_ensureCapacityInternal_d00df_4 rfl rfl (G_nam fun z677242 hz677242 => ?_)
  have ez677242 : z677242.toInt = (n677238 : Nat) := gI_ofM hz677242 (by omega)
  have bz677242 : gB z677242 0 16777216 := ⟨by omega, by omega⟩
  refine G_aload_n 0 dr_cJ5_ensureCapacityInternal_d00df_5 rfl ?_
  refine Gp_get 1 hmq677232 heq677232 dr_cJ5_ensureCapacityInternal_d00df_6 (gk_J4 D I) (Nat.le_of_ble_eq_true rfl) wr_7_61 rfl ?_
  refine G_ishr dr_cJ5_ensureCapacityInternal_d00df_9 (G_nam fun z677243 hz677243 => ?_)
  have ez677243 : z677243.toInt = z677242.toInt / 1 := gI_shr (k := 0) hz677243 (by decide)
  have bz677243 : gB z677243 0 16777216 := ⟨by omega, by omega⟩
  refine G_istore_n (L' := [(2, .int z677243), (0, .ref q677232), (1, .int p677234)]) dr_cJ5_ensureCapacityInternal_d00df_10 (Nat.le_of_ble_eq_true rfl) rfl ?_
  refine G_iload_n 2 dr_cJ5_ensureCapacityInternal_d00df_11 rfl ?_
  refine G_iload_n 0 dr_cJ5_ensureCapacityInternal_d00df_12 rfl ?_
  refine G_isub dr_cJ5_ensureCapacityInternal_d00df_13 (G_nam fun z677244 hz677244 => ?_)
  have ez677244 : z677244.toInt = p677234.toInt - z677243.toInt := by rw [gI_sub hz677244 bp677234 bz677243 (by decide) (by decide)]
  have bz677244 : gB z677244 (-16777216) 8388608 := gB_sub (gI_sub hz677244 bp677234 bz677243 (by decide) (by decide)) bp677234 bz677243 (by decide) (by decide)
  refine G_if_le 38 dr_cJ5_ensureCapacityInternal_d00df_14 (by decide +kernel) (fun hc677245 => ?_) (fun hc677245 => ?_)
  · have r677246 : z677244.toInt ≤ 0 := gj_le hc677245 (show Int32.toInt 0 = 0 by decide)
    have bz677244' : gB z677244 (-16777216) 0 := ⟨by omega, by omega⟩
    exact G_vretA dr_cJ5_ensureCapacityInternal_d00df_38 rfl (Nat.le_of_ble_eq_true rfl) (Nat.le_of_ble_eq_true rfl) (Or.inl ⟨rfl, rfl, (Nat.le_of_ble_eq_true rfl), (Nat.le_of_ble_eq_true rfl), (by have qa0 : Int32.toInt 0 = 0 := (by decide); omega), (by have qa0 : Int32.toInt 0 = 0 := (by decide); omega), (by have qa0 : Int32.toInt 0 = 0 := (by decide); omega), (by have qa0 : Int32.toInt 0 = 0 := (by decide); omega), (by have qa0 : Int32.toInt 0 = 0 := (by decide); omega), (by have qa0 : Int32.toInt 0 = 0 := (by decide); omega)⟩)
  · have r677247 : 0 < z677244.toInt := gj_nle hc677245 (show Int32.toInt 0 = 0 by decide)
    have bz677244' : gB z677244 1 8388608 := ⟨by omega, by omega⟩
    refine G_aload_n 1 dr_cJ5_ensureCapacityInternal_d00df_17 rfl ?_
    refine G_aload_n 1 dr_cJ5_ensureCapacityInternal_d00df_18 rfl ?_
    refine Gp_get 0 hmq677232 heq677232 dr_cJ5_ensureCapacityInternal_d00df_19 (gk_J4 D I) (Nat.le_of_ble_eq_true rfl) wr_7_60 rfl ?_
    refine G_aload_n 1 dr_cJ5_ensureCapacityInternal_d00df_22 rfl ?_
    refine G_iload_n 2 dr_cJ5_ensureCapacityInternal_d00df_23 rfl ?_
    refine Gw_callVB (As := [.int p677234]) (gV_ok D I) (cp_658841_AbstractStringBuilder_newCapacity l hl0 D I P677230 F677231 q677232 q677233 p677234 p677235 p677236 f677237 n677238 hmq677232 hmq677233 heq677232 heq677233 bp677234 bp677235 bp677236 bf677237 (by have qa0 : Int32.toInt 0 = 0 := (by decide); omega) (by have qa0 : Int32.toInt 0 = 0 := (by decide); omega) (by have qa0 : Int32.toInt 0 = 0 := (by decide); omega)) dr_cJ5_ensureCapacityInternal_d00df_24 ⟨wr_8_8, wr_1_19, wr_8_11, by decide, rfl, (Nat.le_of_ble_eq_true rfl), (Nat.le_of_ble_eq_true rfl)⟩ wr_8_10 wr_s_1 hmq677232 heq677232 rfl (show 0 + 0 ≤ 1 by first | omega | decide) (show 0 + 0 ≤ (2 * n677238 + 2 + p677234.toInt.toNat) by first | omega | decide) (Nat.le_of_ble_eq_true rfl) (fun r677251 w677252 dc677248 ds677249 hp677250 => ?_) (fun _ _ _ _ _ z => z.elim)
    obtain ⟨o677253, rfl, rfl, hdc, hds, bo677253, x677254, x677255, x677256, ht677257⟩ := hp677250
    change G _ _ _ _ _ _ _ (.int o677253 :: _) _ _ _
    refine G_widen (cs' := 0) (sl' := 0) (by omega) (by omega) ?_
    refine G_aload_n 1 dr_cJ5_ensureCapacityInternal_d00df_27 rfl ?_
    refine Gp_get 1 hmq677232 heq677232 dr_cJ5_ensureCapacityInternal_d00df_28 (gk_J4 D I) (Nat.le_of_ble_eq_true rfl) wr_7_61 rfl ?_
    refine G_ishl dr_cJ5_ensureCapacityInternal_d00df_31 (G_nam fun z677258 hz677258 => ?_)
    have ez677258 : z677258.toInt = o677253.toInt * 1 := gI_shl (k := 0) hz677258 (by decide) bo677253 (by decide) (by decide)
    have bz677258 : gB z677258 1 33554432 := ⟨by omega, by omega⟩
    refine Gw_callS (As := [.ref q677233, .int z677258]) (gV_ok D I) (cp_658876_Arrays_copyOf l hl0 D I P677230 F677231 q677233 z677258 f677237 n677238 hmq677233 heq677233 (gB_w bz677258 (by decide) (by decide)) bf677237 (by have qa0 : Int32.toInt 0 = 0 := (by decide); omega) (by have qa0 : Int32.toInt 0 = 0 := (by decide); omega)) dr_cJ5_ensureCapacityInternal_d00df_32 ⟨wr_8_21, wr_1_30, wr_8_23, by decide, rfl, (Nat.le_of_ble_eq_true rfl), (Nat.le_of_ble_eq_true rfl)⟩ wr_8_22 (show 0 + 1 ≤ 1 by first | omega | decide) (show 0 + z677258.toInt.toNat ≤ (2 * n677238 + 2 + p677234.toInt.toNat) by first | omega | decide) (Nat.le_of_ble_eq_true rfl) (fun r677262 w677263 dc677259 ds677260 hp677261 => ?_) (fun _ _ _ _ _ z => z.elim)
    obtain ⟨P677267, F677268, q677264, f677265, rfl, rfl, hsb677269, hfr677270, he677271, he677272, hm677273, hq677274, hdc, hds, bf677265, ht677266⟩ := hp677261
    have hm677275 : q677232 ∈ P677267 := hsb677269 q677232 hmq677232
    have hm677276 : q677233 ∈ P677267 := hsb677269 q677233 hmq677233
    have hq677277 : q677264 ∉ P677230 := fun z => hq677274 ((rSub_rf (P := P677230)) q677264 z)
    have hsb677278 : rSub P677230 P677267 := rSub_tr (rSub_rf (P := P677230)) hsb677269
    have he677279 : F677268 q677232 = .inr (1, [.ref q677233, .int 0, .int p677235, .int p677236]) := (hfr677270 q677232 hmq677232 nm_n).trans heq677232
    have hfr677280 : rFr [] P677230 F677231 F677268 := rFr_call (rSub_rf (P := P677230)) (rFr_rf (W := []) (P := P677230) (F := F677231)) hfr677270 (fun b hb hn => ⟨nm_n, nm_n⟩)
    change G _ _ _ _ _ _ _ (.ref q677264 :: _) _ _ _
    refine G_widen (cs' := 1) (sl' := z677258.toInt.toNat) (by omega) (by omega) ?_
    refine Gp_put 0 hm677275 he677279 dr_cJ5_ensureCapacityInternal_d00df_35 (gk_J4 D I) (Nat.le_of_ble_eq_true rfl) wr_7_60 rfl rfl rfl (Nat.le_of_ble_eq_true rfl) (fun F677281 e677282 n677283 => ?_)
    have he677284 : F677281 q677233 = .inl (I .byte, n677238, .inl f677237) := (n677283 q677233 (rn_ao he677271 he677279)).trans he677271
    have he677285 : F677281 q677264 = .inl (I .byte, z677258.toInt.toNat, .inl f677265) := (n677283 q677264 (fun h => hq677277 (h ▸ hmq677232))).trans he677272
    have he677286 : F677281 q677232 = .inr (1, [.ref q677264, .int 0, .int p677235, .int p677236]) := e677282
    have hfr677287 : rFr [q677232] P677230 F677231 F677281 := rFr_put hfr677280 n677283
    exact G_vretA dr_cJ5_ensureCapacityInternal_d00df_38 rfl (Nat.le_of_ble_eq_true rfl) (show z677258.toInt.toNat ≤ (2 * n677238 + 2 + p677234.toInt.toNat) by omega) (Or.inr (⟨P677267, F677281, q677264, z677258.toInt.toNat, f677265, rfl, rfl, hsb677278, hfr677287, he677286, he677285, hm677273, hq677277, (by omega), (by omega), bf677265, (by have qa0 : Int32.toInt 0 = 0 := (by decide); omega), (by have qa0 : Int32.toInt 0 = 0 := (by decide); omega), (by have qa0 : Int32.toInt 0 = 0 := (by decide); omega), (by have qa0 : Int32.toInt 0 = 0 := (by decide); omega), (by have qa0 : Int32.toInt 0 = 0 := (by decide); omega), (by have qa0 : Int32.toInt 0 = 0 := (by decide); omega)⟩))
abbrev ky_677228_AbstractStringBuilder_append : gKey := (cJ5_append_3fe6f, 2, "java/lang/AbstractStringBuilder", (some (FieldType.object "java/lang/AbstractStringBuilder")), [], "append", fun _ _ => True)
def pp_677228_AbstractStringBuilder_append (D : va_G) (I : FieldType → ClassId) (P677216 : List Nat) (F677217 : Nat → va_E) (q677218 : Nat) (q677219 : Nat) (p677220 : Int32) (p677221 : Int32) (p677222 : Int32) (f677223 : Nat → Int32) (n677224 : Nat) : Option Value → va_W → Nat → Nat → Prop := fun r w dc ds => (∃ (F677394 : Nat → va_E) (o677391 : Int32) (f677392 : Nat → Int32), r = some (.ref q677218) ∧ w = va_pl P677216 F677394 ∧ rFr [q677219, q677218] P677216 F677217 F677394 ∧ F677394 q677218 = .inr (1, [.ref q677219, .int 0, .int p677221, .int o677391]) ∧ F677394 q677219 = .inl (I .byte, n677224, .inl f677392) ∧ dc ≤ 0 ∧ ds ≤ 0 ∧ gB o677391 1 16777216 ∧ gF f677392 (-128) 127 ∧ o677391.toInt = p677222.toInt + 1 ∧ o677391.toInt ≤ (n677224 : Int) ∧ (n677224 : Int) ≤ (n677224 : Int) ∧ (n677224 : Int) ≤ 2 * (n677224 : Int) + 2 ∧ ((n677224 : Int) = (n677224 : Int) ∨ (n677224 : Int) < o677391.toInt) ∧ ((n677224 : Int) = (n677224 : Int) ∨ 2 * (n677224 : Int) + 2 ≤ (n677224 : Int))) ∨ (∃ (P677399 : List Nat) (F677400 : Nat → va_E) (o677395 : Int32) (q677396 : Nat) (n677397 : Nat) (f677398 : Nat → Int32), r = some (.ref q677218) ∧ w = va_pl P677399 F677400 ∧ rSub P677216 P677399 ∧ rFr [q677218] P677216 F677217 F677400 ∧ F677400 q677218 = .inr (1, [.ref q677396, .int 0, .int p677221, .int o677395]) ∧ F677400 q677396 = .inl (I .byte, n677397, .inl f677398) ∧ q677396 ∈ P677399 ∧ q677396 ∉ P677216 ∧ dc ≤ (min 1 (n677397 - n677224)) ∧ ds ≤ 2 * (n677397 - n677224) ∧ gB o677395 1 16777216 ∧ gF f677398 (-128) 127 ∧ o677395.toInt = p677222.toInt + 1 ∧ o677395.toInt ≤ (n677397 : Int) ∧ (n677224 : Int) ≤ (n677397 : Int) ∧ (n677397 : Int) ≤ 2 * (n677224 : Int) + 2 ∧ ((n677397 : Int) = (n677224 : Int) ∨ (n677224 : Int) < o677395.toInt) ∧ ((n677397 : Int) = (n677224 : Int) ∨ 2 * (n677224 : Int) + 2 ≤ (n677397 : Int)))
set_option maxRecDepth 100000 in
set_option maxHeartbeats 4000000 in
theorem cp_677228_AbstractStringBuilder_append (l : Launch) (hl0 : l.stackTraces = false) (D : va_G) (I : FieldType → ClassId) (P677216 : List Nat) (F677217 : Nat → va_E) (q677218 : Nat) (q677219 : Nat) (p677220 : Int32) (p677221 : Int32) (p677222 : Int32) (f677223 : Nat → Int32) (n677224 : Nat) (hmq677218 : q677218 ∈ P677216) (hmq677219 : q677219 ∈ P677216) (heq677218 : F677217 q677218 = .inr (1, [.ref q677219, .int 0, .int p677221, .int p677222])) (heq677219 : F677217 q677219 = .inl (I .byte, n677224, .inl f677223)) (bp677220 : gB p677220 0 255) (bp677221 : gB p677221 0 1) (bp677222 : gB p677222 0 16777216) (bf677223 : gF f677223 (-128) 127) (x677225 : (n677224 : Int) ≤ 8388608 - 100000) (x677226 : p677222.toInt ≤ (n677224 : Int)) (x677227 : ((n677224 : Int) ≤ 16777216)) : CtA (gV D I) l yJ5_append_3fe6f cJ5_append_3fe6f 2 (some (FieldType.object "java/lang/AbstractStringBuilder")) 4 84 1 (4 * n677224 + 8) [.ref q677218, .int p677220] (va_pl P677216 F677217) (pp_677228_AbstractStringBuilder_append D I P677216 F677217 q677218 q677219 p677220 p677221 p677222 f677223 n677224) gNA := by
  refine CtA_ofF hl0 (by decide +kernel) (Nat.le_of_ble_eq_true rfl) ?_
  refine G_aload_n 0 dr_cJ5_append_3fe6f_0 rfl ?_
  refine G_aload_n 0 dr_cJ5_append_3fe6f_1 rfl ?_
  refine Gp_get 3 hmq677218 heq677218 dr_cJ5_append_3fe6f_2 (gk_J4 D I) (Nat.le_of_ble_eq_true rfl) wr_7_64 rfl ?_
  refine G_iconst 1 dr_cJ5_append_3fe6f_5 (by decide +kernel) ?_
  refine G_iadd dr_cJ5_append_3fe6f_6 (G_nam fun z677229 hz677229 => ?_)
  have ez677229 : z677229.toInt = p677222.toInt + 1 := by rw [gI_add hz677229 bp677222 (gBl (show Int32.toInt 1 = 1 by decide)) (by decide) (by decide), show Int32.toInt 1 = 1 from by decide]
  have bz677229 : gB z677229 1 16777217 := gB_add (gI_add hz677229 bp677222 (gBl (show Int32.toInt 1 = 1 by decide)) (by decide) (by decide)) bp677222 (gBl (show Int32.toInt 1 = 1 by decide)) (by decide) (by decide)
  refine Gw_callVB (As := [.int z677229]) (gV_ok D I) (cp_677241_AbstractStringBuilder_ensureCapacityInternal l hl0 D I P677216 F677217 q677218 q677219 z677229 p677221 p677222 f677223 n677224 hmq677218 hmq677219 heq677218 heq677219 ⟨by omega, by omega⟩ bp677221 bp677222 bf677223 (by have qa0 : Int32.toInt 0 = 0 := (by decide); omega) (by have qa0 : Int32.toInt 0 = 0 := (by decide); omega)) dr_cJ5_append_3fe6f_7 ⟨wr_8_4, wr_1_19, wr_8_7, by decide, rfl, (Nat.le_of_ble_eq_true rfl), (Nat.le_of_ble_eq_true rfl)⟩ wr_8_6 wr_s_0 hmq677218 heq677218 rfl (show 0 + 1 ≤ 1 by first | omega | decide) (show 0 + (2 * n677224 + 2 + z677229.toInt.toNat) ≤ (4 * n677224 + 8) by first | omega | decide) (Nat.le_of_ble_eq_true rfl) (fun r677296 w677297 dc677293 ds677294 hp677295 => ?_) (fun _ _ _ _ _ z => z.elim)
  rcases hp677295 with hp677298 | hp677299
  · obtain ⟨rfl, rfl, hdc, hds, x677300, x677301, x677302, x677303, x677304, x677305⟩ := hp677298
    change G _ _ _ _ _ _ _ _ _ _ _
    refine G_widen (cs' := 0) (sl' := 0) (by omega) (by omega) ?_
    refine G_aload_n 0 dr_cJ5_append_3fe6f_10 rfl ?_
    refine Gw_callVB (As := []) (gV_ok D I) (cp_658723_AbstractStringBuilder_isLatin1 l hl0 D I P677216 F677217 q677218 q677219 p677221 p677222 f677223 n677224 hmq677218 hmq677219 heq677218 heq677219 bp677221 bp677222 bf677223 (by have qa0 : Int32.toInt 0 = 0 := (by decide); omega)) dr_cJ5_append_3fe6f_11 ⟨wr_8_33, wr_1_19, wr_8_37, by decide, rfl, (Nat.le_of_ble_eq_true rfl), (Nat.le_of_ble_eq_true rfl)⟩ wr_8_34 wr_8_36 hmq677218 heq677218 rfl (show 0 + 0 ≤ 1 by first | omega | decide) (show 0 + 0 ≤ (4 * n677224 + 8) by first | omega | decide) (Nat.le_of_ble_eq_true rfl) (fun r677309 w677310 dc677306 ds677307 hp677308 => ?_) (fun _ _ _ _ _ z => z.elim)
    obtain ⟨rfl, rfl, hdc, hds⟩ := hp677308
    change G _ _ _ _ _ _ _ (.int 1 :: _) _ _ _
    refine G_widen (cs' := 0) (sl' := 0) (by omega) (by omega) ?_
    refine G_if_eq 45 dr_cJ5_append_3fe6f_14 (by decide +kernel) (fun hc => absurd hc (by decide)) (fun _ => ?_)
    refine G_iload_n 1 dr_cJ5_append_3fe6f_17 rfl ?_
    refine Gw_callS (As := [.int p677220]) (gV_ok D I) (cp_658732_StringLatin1_canEncode l hl0 D I P677216 F677217 p677220 (gB_w bp677220 (by decide) (by decide))) dr_cJ5_append_3fe6f_18 ⟨wr_8_38, wr_1_28, wr_8_40, by decide, rfl, (Nat.le_of_ble_eq_true rfl), (Nat.le_of_ble_eq_true rfl)⟩ wr_8_39 (show 0 + 0 ≤ 1 by first | omega | decide) (show 0 + 0 ≤ (4 * n677224 + 8) by first | omega | decide) (Nat.le_of_ble_eq_true rfl) (fun r677314 w677315 dc677311 ds677312 hp677313 => ?_) (fun _ _ _ _ _ z => z.elim)
    rcases hp677313 with ⟨rfl, rfl, hdc, hds, r677316, r677317⟩ | ⟨rfl, rfl, hdc, hds, r677318, r677319⟩
    · exact absurd (show False by omega) not_false
    · change G _ _ _ _ _ _ _ (.int 1 :: _) _ _ _
      refine G_widen (cs' := 0) (sl' := 0) (by omega) (by omega) ?_
      refine G_if_eq 45 dr_cJ5_append_3fe6f_21 (by decide +kernel) (fun hc => absurd hc (by decide)) (fun _ => ?_)
      refine G_aload_n 0 dr_cJ5_append_3fe6f_24 rfl ?_
      refine Gp_get 0 hmq677218 heq677218 dr_cJ5_append_3fe6f_25 (gk_J4 D I) (Nat.le_of_ble_eq_true rfl) wr_7_60 rfl ?_
      refine G_aload_n 0 dr_cJ5_append_3fe6f_28 rfl ?_
      refine G_dup dr_cJ5_append_3fe6f_29 rfl ?_
      refine Gp_get 3 hmq677218 heq677218 dr_cJ5_append_3fe6f_30 (gk_J4 D I) (Nat.le_of_ble_eq_true rfl) wr_7_64 rfl ?_
      refine G_dup_x1 dr_cJ5_append_3fe6f_33 rfl rfl ?_
      refine G_iconst 1 dr_cJ5_append_3fe6f_34 (by decide +kernel) ?_
      refine G_iadd dr_cJ5_append_3fe6f_35 (G_nam fun z677321 hz677321 => ?_)
      have ez677321 : z677321.toInt = p677222.toInt + 1 := by rw [gI_add hz677321 bp677222 (gBl (show Int32.toInt 1 = 1 by decide)) (by decide) (by decide), show Int32.toInt 1 = 1 from by decide]
      have bz677321 : gB z677321 1 16777217 := gB_add (gI_add hz677321 bp677222 (gBl (show Int32.toInt 1 = 1 by decide)) (by decide) (by decide)) bp677222 (gBl (show Int32.toInt 1 = 1 by decide)) (by decide) (by decide)
      refine Gp_put 3 hmq677218 heq677218 dr_cJ5_append_3fe6f_36 (gk_J4 D I) (Nat.le_of_ble_eq_true rfl) wr_7_64 rfl rfl rfl (Nat.le_of_ble_eq_true rfl) (fun F677322 e677323 n677324 => ?_)
      have he677325 : F677322 q677219 = .inl (I .byte, n677224, .inl f677223) := (n677324 q677219 (rn_ao heq677219 heq677218)).trans heq677219
      have he677326 : F677322 q677218 = .inr (1, [.ref q677219, .int 0, .int p677221, .int z677321]) := e677323
      have hfr677327 : rFr [q677218] P677216 F677217 F677322 := rFr_put (rFr_rf (W := []) (P := P677216) (F := F677217)) n677324
      refine G_iload_n 1 dr_cJ5_append_3fe6f_39 rfl ?_
      refine G_i2b dr_cJ5_append_3fe6f_40 (G_nam fun z677328 hz677328 => ?_)
      have bz677328 : gB z677328 (-128) 127 := gB_i2b hz677328
      refine Gp_bast 1 hmq677219 he677325 dr_cJ5_append_3fe6f_41 rfl (gB_inr (by omega) (by omega)) (fun F677329 e677330 n677331 => ?_)
      obtain ⟨f677332, hf677332⟩ : ∃ z, z = upd f677223 p677222.toNatClampNeg (vp_nar .byte z677328) := ⟨_, rfl⟩
      rw [← hf677332] at e677330
      have he677333 : F677329 q677218 = .inr (1, [.ref q677219, .int 0, .int p677221, .int z677321]) := (n677331 q677218 (rn_oa he677326 he677325)).trans he677326
      have he677334 : F677329 q677219 = .inl (I .byte, n677224, .inl f677332) := e677330
      have hfr677335 : rFr [q677219, q677218] P677216 F677217 F677329 := rFr_put hfr677327 n677331
      have bf677332 : gF f677332 (-128) 127 := gF_upd hf677332 bf677223 gB_byte
      refine G_goto 75 dr_cJ5_append_3fe6f_42 (by decide +kernel) ?_
      refine G_aload_n 0 dr_cJ5_append_3fe6f_75 rfl ?_
      exact G_aretA (FieldType.object "java/lang/AbstractStringBuilder") dr_cJ5_append_3fe6f_76 rfl (by first | exact Or.inl ⟨_, rfl⟩ | exact Or.inr ⟨_, rfl⟩) (Or.inr ⟨_, rfl⟩) (Nat.le_of_ble_eq_true rfl) (Nat.le_of_ble_eq_true rfl) (Or.inl ⟨F677329, z677321, f677332, rfl, rfl, hfr677335, he677333, he677334, (Nat.le_of_ble_eq_true rfl), (Nat.le_of_ble_eq_true rfl), ⟨by omega, by omega⟩, bf677332, (by have qa0 : Int32.toInt 0 = 0 := (by decide); omega), (by have qa0 : Int32.toInt 0 = 0 := (by decide); omega), (by have qa0 : Int32.toInt 0 = 0 := (by decide); omega), (by have qa0 : Int32.toInt 0 = 0 := (by decide); omega), (by have qa0 : Int32.toInt 0 = 0 := (by decide); omega), (by have qa0 : Int32.toInt 0 = 0 := (by decide); omega)⟩)
  · obtain ⟨P677345, F677346, q677336, n677337, f677338, rfl, rfl, hsb677347, hfr677348, he677349, he677350, hm677351, hq677352, hdc, hds, bf677338, x677339, x677340, x677341, x677342, x677343, x677344⟩ := hp677299
    have hm677353 : q677218 ∈ P677345 := hsb677347 q677218 hmq677218
    have hm677354 : q677219 ∈ P677345 := hsb677347 q677219 hmq677219
    have hq677355 : q677336 ∉ P677216 := fun z => hq677352 ((rSub_rf (P := P677216)) q677336 z)
    have hsb677356 : rSub P677216 P677345 := rSub_tr (rSub_rf (P := P677216)) hsb677347
    have he677357 : F677346 q677219 = .inl (I .byte, n677224, .inl f677223) := (hfr677348 q677219 hmq677219 (nm_c (rn_ao heq677219 heq677218) nm_n)).trans heq677219
    have hfr677358 : rFr [q677218] P677216 F677217 F677346 := rFr_call (rSub_rf (P := P677216)) (rFr_rf (W := []) (P := P677216) (F := F677217)) hfr677348 (fun b hb hn => ⟨nm_n, (nm_c (fun e => hn (e ▸ List.mem_cons_self)) nm_n)⟩)
    change G _ _ _ _ _ _ _ _ _ _ _
    refine G_widen (cs' := (min 1 (n677337 - n677224))) (sl' := 2 * (n677337 - n677224)) (by omega) (by omega) ?_
    refine G_aload_n 0 dr_cJ5_append_3fe6f_10 rfl ?_
    refine Gw_callVB (As := []) (gV_ok D I) (cp_658723_AbstractStringBuilder_isLatin1 l hl0 D I P677345 F677346 q677218 q677336 p677221 p677222 f677338 n677337 hm677353 hm677351 he677349 he677350 bp677221 bp677222 bf677338 (by have qa0 : Int32.toInt 0 = 0 := (by decide); omega)) dr_cJ5_append_3fe6f_11 ⟨wr_8_33, wr_1_19, wr_8_37, by decide, rfl, (Nat.le_of_ble_eq_true rfl), (Nat.le_of_ble_eq_true rfl)⟩ wr_8_34 wr_8_36 hm677353 he677349 rfl (show (min 1 (n677337 - n677224)) + 0 ≤ 1 by first | omega | decide) (show 2 * (n677337 - n677224) + 0 ≤ (4 * n677224 + 8) by first | omega | decide) (Nat.le_of_ble_eq_true rfl) (fun r677362 w677363 dc677359 ds677360 hp677361 => ?_) (fun _ _ _ _ _ z => z.elim)
    obtain ⟨rfl, rfl, hdc, hds⟩ := hp677361
    change G _ _ _ _ _ _ _ (.int 1 :: _) _ _ _
    refine G_widen (cs' := (min 1 (n677337 - n677224)) + 0) (sl' := 2 * (n677337 - n677224) + 0) (by omega) (by omega) ?_
    refine G_if_eq 45 dr_cJ5_append_3fe6f_14 (by decide +kernel) (fun hc => absurd hc (by decide)) (fun _ => ?_)
    refine G_iload_n 1 dr_cJ5_append_3fe6f_17 rfl ?_
    refine Gw_callS (As := [.int p677220]) (gV_ok D I) (cp_658732_StringLatin1_canEncode l hl0 D I P677345 F677346 p677220 (gB_w bp677220 (by decide) (by decide))) dr_cJ5_append_3fe6f_18 ⟨wr_8_38, wr_1_28, wr_8_40, by decide, rfl, (Nat.le_of_ble_eq_true rfl), (Nat.le_of_ble_eq_true rfl)⟩ wr_8_39 (show (min 1 (n677337 - n677224)) + 0 + 0 ≤ 1 by first | omega | decide) (show 2 * (n677337 - n677224) + 0 + 0 ≤ (4 * n677224 + 8) by first | omega | decide) (Nat.le_of_ble_eq_true rfl) (fun r677367 w677368 dc677364 ds677365 hp677366 => ?_) (fun _ _ _ _ _ z => z.elim)
    rcases hp677366 with ⟨rfl, rfl, hdc, hds, r677369, r677370⟩ | ⟨rfl, rfl, hdc, hds, r677371, r677372⟩
    · exact absurd (show False by omega) not_false
    · change G _ _ _ _ _ _ _ (.int 1 :: _) _ _ _
      refine G_widen (cs' := (min 1 (n677337 - n677224)) + 0 + 0) (sl' := 2 * (n677337 - n677224) + 0 + 0) (by omega) (by omega) ?_
      refine G_if_eq 45 dr_cJ5_append_3fe6f_21 (by decide +kernel) (fun hc => absurd hc (by decide)) (fun _ => ?_)
      refine G_aload_n 0 dr_cJ5_append_3fe6f_24 rfl ?_
      refine Gp_get 0 hm677353 he677349 dr_cJ5_append_3fe6f_25 (gk_J4 D I) (Nat.le_of_ble_eq_true rfl) wr_7_60 rfl ?_
      refine G_aload_n 0 dr_cJ5_append_3fe6f_28 rfl ?_
      refine G_dup dr_cJ5_append_3fe6f_29 rfl ?_
      refine Gp_get 3 hm677353 he677349 dr_cJ5_append_3fe6f_30 (gk_J4 D I) (Nat.le_of_ble_eq_true rfl) wr_7_64 rfl ?_
      refine G_dup_x1 dr_cJ5_append_3fe6f_33 rfl rfl ?_
      refine G_iconst 1 dr_cJ5_append_3fe6f_34 (by decide +kernel) ?_
      refine G_iadd dr_cJ5_append_3fe6f_35 (G_nam fun z677374 hz677374 => ?_)
      have ez677374 : z677374.toInt = p677222.toInt + 1 := by rw [gI_add hz677374 bp677222 (gBl (show Int32.toInt 1 = 1 by decide)) (by decide) (by decide), show Int32.toInt 1 = 1 from by decide]
      have bz677374 : gB z677374 1 16777217 := gB_add (gI_add hz677374 bp677222 (gBl (show Int32.toInt 1 = 1 by decide)) (by decide) (by decide)) bp677222 (gBl (show Int32.toInt 1 = 1 by decide)) (by decide) (by decide)
      refine Gp_put 3 hm677353 he677349 dr_cJ5_append_3fe6f_36 (gk_J4 D I) (Nat.le_of_ble_eq_true rfl) wr_7_64 rfl rfl rfl (Nat.le_of_ble_eq_true rfl) (fun F677375 e677376 n677377 => ?_)
      have he677378 : F677375 q677219 = .inl (I .byte, n677224, .inl f677223) := (n677377 q677219 (rn_ao he677357 he677349)).trans he677357
      have he677379 : F677375 q677336 = .inl (I .byte, n677337, .inl f677338) := (n677377 q677336 (fun h => hq677355 (h ▸ hmq677218))).trans he677350
      have he677380 : F677375 q677218 = .inr (1, [.ref q677336, .int 0, .int p677221, .int z677374]) := e677376
      have hfr677381 : rFr [q677218] P677216 F677217 F677375 := rFr_put' List.mem_cons_self hfr677358 n677377
      refine G_iload_n 1 dr_cJ5_append_3fe6f_39 rfl ?_
      refine G_i2b dr_cJ5_append_3fe6f_40 (G_nam fun z677382 hz677382 => ?_)
      have bz677382 : gB z677382 (-128) 127 := gB_i2b hz677382
      refine Gp_bast 1 hm677351 he677379 dr_cJ5_append_3fe6f_41 rfl (gB_inr (by omega) (by omega)) (fun F677383 e677384 n677385 => ?_)
      obtain ⟨f677386, hf677386⟩ : ∃ z, z = upd f677338 p677222.toNatClampNeg (vp_nar .byte z677382) := ⟨_, rfl⟩
      rw [← hf677386] at e677384
      have he677387 : F677383 q677219 = .inl (I .byte, n677224, .inl f677223) := (n677385 q677219 (fun h => hq677355 (h ▸ hmq677219))).trans he677378
      have he677388 : F677383 q677218 = .inr (1, [.ref q677336, .int 0, .int p677221, .int z677374]) := (n677385 q677218 (fun h => hq677355 (h ▸ hmq677218))).trans he677380
      have he677389 : F677383 q677336 = .inl (I .byte, n677337, .inl f677386) := e677384
      have hfr677390 : rFr [q677218] P677216 F677217 F677383 := rFr_newp hq677355 hfr677381 n677385
      have bf677386 : gF f677386 (-128) 127 := gF_upd hf677386 bf677338 gB_byte
      refine G_goto 75 dr_cJ5_append_3fe6f_42 (by decide +kernel) ?_
      refine G_aload_n 0 dr_cJ5_append_3fe6f_75 rfl ?_
      exact G_aretA (FieldType.object "java/lang/AbstractStringBuilder") dr_cJ5_append_3fe6f_76 rfl (by first | exact Or.inl ⟨_, rfl⟩ | exact Or.inr ⟨_, rfl⟩) (Or.inr ⟨_, rfl⟩) (show (min 1 (n677337 - n677224)) + 0 + 0 ≤ 1 by omega) (show 2 * (n677337 - n677224) + 0 + 0 ≤ (4 * n677224 + 8) by omega) (Or.inr (⟨P677345, F677383, z677374, q677336, n677337, f677386, rfl, rfl, hsb677356, hfr677390, he677388, he677389, hm677351, hq677355, (by omega), (by omega), ⟨by omega, by omega⟩, bf677386, (by have qa0 : Int32.toInt 0 = 0 := (by decide); omega), (by have qa0 : Int32.toInt 0 = 0 := (by decide); omega), (by have qa0 : Int32.toInt 0 = 0 := (by decide); omega), (by have qa0 : Int32.toInt 0 = 0 := (by decide); omega), (by have qa0 : Int32.toInt 0 = 0 := (by decide); omega), (by have qa0 : Int32.toInt 0 = 0 := (by decide); omega)⟩))
abbrev ky_677215_StringBuilder_append : gKey := (cJ4_append_cf468, 2, "java/lang/StringBuilder", (some (FieldType.object "java/lang/StringBuilder")), [], "append", fun _ _ => True)
def pp_677215_StringBuilder_append (D : va_G) (I : FieldType → ClassId) (P677203 : List Nat) (F677204 : Nat → va_E) (q677205 : Nat) (q677206 : Nat) (p677207 : Int32) (p677208 : Int32) (p677209 : Int32) (f677210 : Nat → Int32) (n677211 : Nat) : Option Value → va_W → Nat → Nat → Prop := fun r w dc ds => (∃ (F677449 : Nat → va_E) (o677446 : Int32) (f677447 : Nat → Int32), r = some (.ref q677205) ∧ w = va_pl P677203 F677449 ∧ rFr [q677206, q677205] P677203 F677204 F677449 ∧ F677449 q677205 = .inr (1, [.ref q677206, .int 0, .int p677208, .int o677446]) ∧ F677449 q677206 = .inl (I .byte, n677211, .inl f677447) ∧ dc ≤ 0 ∧ ds ≤ 0 ∧ gB o677446 1 16777216 ∧ gF f677447 (-128) 127 ∧ o677446.toInt = p677209.toInt + 1 ∧ o677446.toInt ≤ (n677211 : Int) ∧ (n677211 : Int) ≤ (n677211 : Int) ∧ (n677211 : Int) ≤ 2 * (n677211 : Int) + 2 ∧ ((n677211 : Int) = (n677211 : Int) ∨ (n677211 : Int) < o677446.toInt) ∧ ((n677211 : Int) = (n677211 : Int) ∨ 2 * (n677211 : Int) + 2 ≤ (n677211 : Int))) ∨ (∃ (P677454 : List Nat) (F677455 : Nat → va_E) (o677450 : Int32) (q677451 : Nat) (n677452 : Nat) (f677453 : Nat → Int32), r = some (.ref q677205) ∧ w = va_pl P677454 F677455 ∧ rSub P677203 P677454 ∧ rFr [q677205] P677203 F677204 F677455 ∧ F677455 q677205 = .inr (1, [.ref q677451, .int 0, .int p677208, .int o677450]) ∧ F677455 q677451 = .inl (I .byte, n677452, .inl f677453) ∧ q677451 ∈ P677454 ∧ q677451 ∉ P677203 ∧ dc ≤ (min 1 (n677452 - n677211)) ∧ ds ≤ 2 * (n677452 - n677211) ∧ gB o677450 1 16777216 ∧ gF f677453 (-128) 127 ∧ o677450.toInt = p677209.toInt + 1 ∧ o677450.toInt ≤ (n677452 : Int) ∧ (n677211 : Int) ≤ (n677452 : Int) ∧ (n677452 : Int) ≤ 2 * (n677211 : Int) + 2 ∧ ((n677452 : Int) = (n677211 : Int) ∨ (n677211 : Int) < o677450.toInt) ∧ ((n677452 : Int) = (n677211 : Int) ∨ 2 * (n677211 : Int) + 2 ≤ (n677452 : Int)))
set_option maxRecDepth 100000 in
set_option maxHeartbeats 4000000 in
theorem cp_677215_StringBuilder_append (l : Launch) (hl0 : l.stackTraces = false) (D : va_G) (I : FieldType → ClassId) (P677203 : List Nat) (F677204 : Nat → va_E) (q677205 : Nat) (q677206 : Nat) (p677207 : Int32) (p677208 : Int32) (p677209 : Int32) (f677210 : Nat → Int32) (n677211 : Nat) (hmq677205 : q677205 ∈ P677203) (hmq677206 : q677206 ∈ P677203) (heq677205 : F677204 q677205 = .inr (1, [.ref q677206, .int 0, .int p677208, .int p677209])) (heq677206 : F677204 q677206 = .inl (I .byte, n677211, .inl f677210)) (bp677207 : gB p677207 0 255) (bp677208 : gB p677208 0 1) (bp677209 : gB p677209 0 16777216) (bf677210 : gF f677210 (-128) 127) (x677212 : (n677211 : Int) ≤ 8388608 - 100000) (x677213 : p677209.toInt ≤ (n677211 : Int)) (x677214 : ((n677211 : Int) ≤ 16777216)) : CtA (gV D I) l yJ4_append_cf468 cJ4_append_cf468 2 (some (FieldType.object "java/lang/StringBuilder")) 5 105 1 (4 * n677211 + 8) [.ref q677205, .int p677207] (va_pl P677203 F677204) (pp_677215_StringBuilder_append D I P677203 F677204 q677205 q677206 p677207 p677208 p677209 f677210 n677211) gNA := by
  refine CtA_ofF hl0 (by decide +kernel) (Nat.le_of_ble_eq_true rfl) ?_
  refine G_aload_n 0 dr_cJ4_append_cf468_0 rfl ?_
  refine G_iload_n 1 dr_cJ4_append_cf468_1 rfl ?_
  refine Gw_callSU (As := [.int p677207]) (gV_ok D I) (cp_677228_AbstractStringBuilder_append l hl0 D I P677203 F677204 q677205 q677206 p677207 p677208 p677209 f677210 n677211 hmq677205 hmq677206 heq677205 heq677206 bp677207 bp677208 bp677209 bf677210 (by have qa0 : Int32.toInt 0 = 0 := (by decide); omega) (by have qa0 : Int32.toInt 0 = 0 := (by decide); omega) (by have qa0 : Int32.toInt 0 = 0 := (by decide); omega)) dr_cJ4_append_cf468_2 ⟨wr_8_1, wr_1_19, wr_8_3, by decide, rfl, (Nat.le_of_ble_eq_true rfl), (Nat.le_of_ble_eq_true rfl)⟩ wr_8_2 wr_11_224 wr_7_73 wr_7_44 (by decide) hmq677205 heq677205 rfl (show 0 + 1 ≤ 1 by first | omega | decide) (show 0 + (4 * n677211 + 8) ≤ (4 * n677211 + 8) by first | omega | decide) (Nat.le_of_ble_eq_true rfl) (fun r677404 w677405 dc677401 ds677402 hp677403 => ?_)
  rcases hp677403 with hp677406 | hp677407
  · obtain ⟨F677416, o677408, f677409, rfl, rfl, hfr677418, he677419, he677420, hdc, hds, bo677408, bf677409, x677410, x677411, x677412, x677413, x677414, x677415⟩ := hp677406
    have hfr677421 : rFr [q677206, q677205] P677203 F677204 F677416 := rFr_call (rSub_rf (P := P677203)) (rFr_rf (W := []) (P := P677203) (F := F677204)) hfr677418 (fun b hb hn => ⟨nm_n, (nm_c (fun e => hn (e ▸ List.mem_cons_self)) (nm_c (fun e => hn (e ▸ (List.mem_cons_of_mem _ List.mem_cons_self))) nm_n))⟩)
    change G _ _ _ _ _ _ _ (.ref q677205 :: _) _ _ _
    refine G_widen (cs' := 0) (sl' := 0) (by omega) (by omega) ?_
    refine G_pop dr_cJ4_append_cf468_5 rfl ?_
    refine G_aload_n 0 dr_cJ4_append_cf468_6 rfl ?_
    exact G_aretA (FieldType.object "java/lang/StringBuilder") dr_cJ4_append_cf468_7 rfl (by first | exact Or.inl ⟨_, rfl⟩ | exact Or.inr ⟨_, rfl⟩) (Or.inr ⟨_, rfl⟩) (Nat.le_of_ble_eq_true rfl) (Nat.le_of_ble_eq_true rfl) (Or.inl ⟨F677416, o677408, f677409, rfl, rfl, hfr677421, he677419, he677420, (Nat.le_of_ble_eq_true rfl), (Nat.le_of_ble_eq_true rfl), bo677408, bf677409, (by have qa0 : Int32.toInt 0 = 0 := (by decide); omega), (by have qa0 : Int32.toInt 0 = 0 := (by decide); omega), (by have qa0 : Int32.toInt 0 = 0 := (by decide); omega), (by have qa0 : Int32.toInt 0 = 0 := (by decide); omega), (by have qa0 : Int32.toInt 0 = 0 := (by decide); omega), (by have qa0 : Int32.toInt 0 = 0 := (by decide); omega)⟩)
  · obtain ⟨P677432, F677433, o677422, q677423, n677424, f677425, rfl, rfl, hsb677434, hfr677435, he677436, he677437, hm677438, hq677439, hdc, hds, bo677422, bf677425, x677426, x677427, x677428, x677429, x677430, x677431⟩ := hp677407
    have hm677440 : q677205 ∈ P677432 := hsb677434 q677205 hmq677205
    have hm677441 : q677206 ∈ P677432 := hsb677434 q677206 hmq677206
    have hq677442 : q677423 ∉ P677203 := fun z => hq677439 ((rSub_rf (P := P677203)) q677423 z)
    have hsb677443 : rSub P677203 P677432 := rSub_tr (rSub_rf (P := P677203)) hsb677434
    have he677444 : F677433 q677206 = .inl (I .byte, n677211, .inl f677210) := (hfr677435 q677206 hmq677206 (nm_c (rn_ao heq677206 heq677205) nm_n)).trans heq677206
    have hfr677445 : rFr [q677205] P677203 F677204 F677433 := rFr_call (rSub_rf (P := P677203)) (rFr_rf (W := []) (P := P677203) (F := F677204)) hfr677435 (fun b hb hn => ⟨nm_n, (nm_c (fun e => hn (e ▸ List.mem_cons_self)) nm_n)⟩)
    change G _ _ _ _ _ _ _ (.ref q677205 :: _) _ _ _
    refine G_widen (cs' := (min 1 (n677424 - n677211))) (sl' := 2 * (n677424 - n677211)) (by omega) (by omega) ?_
    refine G_pop dr_cJ4_append_cf468_5 rfl ?_
    refine G_aload_n 0 dr_cJ4_append_cf468_6 rfl ?_
    exact G_aretA (FieldType.object "java/lang/StringBuilder") dr_cJ4_append_cf468_7 rfl (by first | exact Or.inl ⟨_, rfl⟩ | exact Or.inr ⟨_, rfl⟩) (Or.inr ⟨_, rfl⟩) (show (min 1 (n677424 - n677211)) ≤ 1 by omega) (show 2 * (n677424 - n677211) ≤ (4 * n677211 + 8) by omega) (Or.inr (⟨P677432, F677433, o677422, q677423, n677424, f677425, rfl, rfl, hsb677443, hfr677445, he677436, he677437, hm677438, hq677442, (by omega), (by omega), bo677422, bf677425, (by have qa0 : Int32.toInt 0 = 0 := (by decide); omega), (by have qa0 : Int32.toInt 0 = 0 := (by decide); omega), (by have qa0 : Int32.toInt 0 = 0 := (by decide); omega), (by have qa0 : Int32.toInt 0 = 0 := (by decide); omega), (by have qa0 : Int32.toInt 0 = 0 := (by decide); omega), (by have qa0 : Int32.toInt 0 = 0 := (by decide); omega)⟩))
abbrev ky_677481_AbstractStringBuilder_append : gKey := (cJ5_append_c97b9, 4, "java/lang/AbstractStringBuilder", (some (FieldType.object "java/lang/AbstractStringBuilder")), [], "append", fun _ _ => True)
def pp_677481_AbstractStringBuilder_append (D : va_G) (I : FieldType → ClassId) (P677469 : List Nat) (F677470 : Nat → va_E) (q677471 : Nat) (q677472 : Nat) (p677473 : Int32) (p677474 : Int32) (p677475 : Int32) (f677476 : Nat → Int32) (n677477 : Nat) : Option Value → va_W → Nat → Nat → Prop := fun r w dc ds => (∃ (F677582 : Nat → va_E) (o677579 : Int32) (f677580 : Nat → Int32), r = some (.ref q677471) ∧ w = va_pl P677469 F677582 ∧ rFr [q677471, q677472] P677469 F677470 F677582 ∧ F677582 q677471 = .inr (1, [.ref q677472, .int 0, .int p677474, .int o677579]) ∧ F677582 q677472 = .inl (I .byte, n677477, .inl f677580) ∧ dc ≤ 0 ∧ ds ≤ 0 ∧ gB o677579 1 16777216 ∧ gF f677580 (-128) 127 ∧ p677475.toInt ≤ o677579.toInt ∧ o677579.toInt ≤ p677475.toInt + 11 ∧ o677579.toInt ≤ (n677477 : Int) ∧ (n677477 : Int) ≤ (n677477 : Int) ∧ ((n677477 : Int) ≤ 2 * (n677477 : Int) + 2 ∨ (n677477 : Int) ≤ p677475.toInt + 11) ∧ ((n677477 : Int) = (n677477 : Int) ∨ (n677477 : Int) < o677579.toInt) ∧ ((n677477 : Int) = (n677477 : Int) ∨ 2 * (n677477 : Int) + 2 ≤ (n677477 : Int))) ∨ (∃ (P677587 : List Nat) (F677588 : Nat → va_E) (o677583 : Int32) (q677584 : Nat) (n677585 : Nat) (f677586 : Nat → Int32), r = some (.ref q677471) ∧ w = va_pl P677587 F677588 ∧ rSub P677469 P677587 ∧ rFr [q677471] P677469 F677470 F677588 ∧ F677588 q677471 = .inr (1, [.ref q677584, .int 0, .int p677474, .int o677583]) ∧ F677588 q677584 = .inl (I .byte, n677585, .inl f677586) ∧ q677584 ∈ P677587 ∧ q677584 ∉ P677469 ∧ dc ≤ (min 1 (n677585 - n677477)) ∧ ds ≤ 2 * (n677585 - n677477) ∧ gB o677583 1 16777216 ∧ gF f677586 (-128) 127 ∧ p677475.toInt ≤ o677583.toInt ∧ o677583.toInt ≤ p677475.toInt + 11 ∧ o677583.toInt ≤ (n677585 : Int) ∧ (n677477 : Int) ≤ (n677585 : Int) ∧ ((n677585 : Int) ≤ 2 * (n677477 : Int) + 2 ∨ (n677585 : Int) ≤ p677475.toInt + 11) ∧ ((n677585 : Int) = (n677477 : Int) ∨ (n677477 : Int) < o677583.toInt) ∧ ((n677585 : Int) = (n677477 : Int) ∨ 2 * (n677477 : Int) + 2 ≤ (n677585 : Int)))
set_option maxRecDepth 100000 in
set_option maxHeartbeats 4000000 in
theorem cp_677481_AbstractStringBuilder_append (l : Launch) (hl0 : l.stackTraces = false) (D : va_G) (I : FieldType → ClassId) (P677469 : List Nat) (F677470 : Nat → va_E) (q677471 : Nat) (q677472 : Nat) (p677473 : Int32) (p677474 : Int32) (p677475 : Int32) (f677476 : Nat → Int32) (n677477 : Nat) (hmq677471 : q677471 ∈ P677469) (hmq677472 : q677472 ∈ P677469) (heq677471 : F677470 q677471 = .inr (1, [.ref q677472, .int 0, .int p677474, .int p677475])) (heq677472 : F677470 q677472 = .inl (I .byte, n677477, .inl f677476)) (bp677474 : gB p677474 0 1) (bp677475 : gB p677475 0 16777216) (bf677476 : gF f677476 (-128) 127) (x677478 : (n677477 : Int) ≤ 8388608 - 100000) (x677479 : p677475.toInt ≤ (n677477 : Int)) (x677480 : ((n677477 : Int) ≤ 16777216)) : CtA (gV D I) l yJ5_append_c97b9 cJ5_append_c97b9 4 (some (FieldType.object "java/lang/AbstractStringBuilder")) 4 84 1 (4 * n677477 + 64) [.ref q677471, .int p677473] (va_pl P677469 F677470) (pp_677481_AbstractStringBuilder_append D I P677469 F677470 q677471 q677472 p677473 p677474 p677475 f677476 n677477) gNA := by
  refine CtA_ofF hl0 (by decide +kernel) (Nat.le_of_ble_eq_true rfl) ?_
  have bp677473 := gB_any p677473
  refine G_aload_n 0 dr_cJ5_append_c97b9_0 rfl ?_
  refine Gp_get 3 hmq677471 heq677471 dr_cJ5_append_c97b9_1 (gk_J4 D I) (Nat.le_of_ble_eq_true rfl) wr_7_64 rfl ?_
  refine G_istore_n (L' := [(2, .int p677475), (0, .ref q677471), (1, .int p677473)]) dr_cJ5_append_c97b9_4 (Nat.le_of_ble_eq_true rfl) rfl ?_
  refine G_iload_n 0 dr_cJ5_append_c97b9_5 rfl ?_
  refine G_iload_n 2 dr_cJ5_append_c97b9_6 rfl ?_
  refine Gw_callS (As := [.int p677473]) (gV_ok D I) (cp_667577_Integer_stringSize l hl0 D I P677469 F677470 p677473 ) dr_cJ5_append_c97b9_7 ⟨wr_8_112, wr_1_35, wr_8_114, by decide, rfl, (Nat.le_of_ble_eq_true rfl), (Nat.le_of_ble_eq_true rfl)⟩ wr_8_113 (show 0 + 0 ≤ 1 by first | omega | decide) (show 0 + 0 ≤ (4 * n677477 + 64) by first | omega | decide) (Nat.le_of_ble_eq_true rfl) (fun r677485 w677486 dc677482 ds677483 hp677484 => ?_) (fun _ _ _ _ _ z => z.elim)
  obtain ⟨o677487, rfl, rfl, hdc, hds, bo677487, x677488, ht677489⟩ := hp677484
  change G _ _ _ _ _ _ _ (.int o677487 :: _) _ _ _
  refine G_widen (cs' := 0) (sl' := 0) (by omega) (by omega) ?_
  refine G_iadd dr_cJ5_append_c97b9_10 (G_nam fun z677490 hz677490 => ?_)
  have ez677490 : z677490.toInt = p677475.toInt + o677487.toInt := by rw [gI_add hz677490 bp677475 bo677487 (by decide) (by decide)]
  have bz677490 : gB z677490 1 16777227 := gB_add (gI_add hz677490 bp677475 bo677487 (by decide) (by decide)) bp677475 bo677487 (by decide) (by decide)
  refine G_istore_n (L' := [(3, .int z677490), (2, .int p677475), (0, .ref q677471), (1, .int p677473)]) dr_cJ5_append_c97b9_11 (Nat.le_of_ble_eq_true rfl) rfl ?_
  refine G_aload_n 2 dr_cJ5_append_c97b9_12 rfl ?_
  refine G_iload_n 0 dr_cJ5_append_c97b9_13 rfl ?_
  refine Gw_callVB (As := [.int z677490]) (gV_ok D I) (cp_677241_AbstractStringBuilder_ensureCapacityInternal l hl0 D I P677469 F677470 q677471 q677472 z677490 p677474 p677475 f677476 n677477 hmq677471 hmq677472 heq677471 heq677472 ⟨by omega, by omega⟩ bp677474 bp677475 bf677476 (by have qa0 : Int32.toInt 0 = 0 := (by decide); omega) (by have qa0 : Int32.toInt 0 = 0 := (by decide); omega)) dr_cJ5_append_c97b9_14 ⟨wr_8_4, wr_1_19, wr_8_7, by decide, rfl, (Nat.le_of_ble_eq_true rfl), (Nat.le_of_ble_eq_true rfl)⟩ wr_8_6 wr_s_0 hmq677471 heq677471 rfl (show 0 + 1 ≤ 1 by first | omega | decide) (show 0 + (2 * n677477 + 2 + z677490.toInt.toNat) ≤ (4 * n677477 + 64) by first | omega | decide) (Nat.le_of_ble_eq_true rfl) (fun r677494 w677495 dc677491 ds677492 hp677493 => ?_) (fun _ _ _ _ _ z => z.elim)
  rcases hp677493 with hp677496 | hp677497
  · obtain ⟨rfl, rfl, hdc, hds, x677498, x677499, x677500, x677501, x677502, x677503⟩ := hp677496
    change G _ _ _ _ _ _ _ _ _ _ _
    refine G_widen (cs' := 0) (sl' := 0) (by omega) (by omega) ?_
    refine G_aload_n 2 dr_cJ5_append_c97b9_17 rfl ?_
    refine Gw_callVB (As := []) (gV_ok D I) (cp_658723_AbstractStringBuilder_isLatin1 l hl0 D I P677469 F677470 q677471 q677472 p677474 p677475 f677476 n677477 hmq677471 hmq677472 heq677471 heq677472 bp677474 bp677475 bf677476 (by have qa0 : Int32.toInt 0 = 0 := (by decide); omega)) dr_cJ5_append_c97b9_18 ⟨wr_8_33, wr_1_19, wr_8_37, by decide, rfl, (Nat.le_of_ble_eq_true rfl), (Nat.le_of_ble_eq_true rfl)⟩ wr_8_34 wr_8_36 hmq677471 heq677471 rfl (show 0 + 0 ≤ 1 by first | omega | decide) (show 0 + 0 ≤ (4 * n677477 + 64) by first | omega | decide) (Nat.le_of_ble_eq_true rfl) (fun r677507 w677508 dc677504 ds677505 hp677506 => ?_) (fun _ _ _ _ _ z => z.elim)
    obtain ⟨rfl, rfl, hdc, hds⟩ := hp677506
    change G _ _ _ _ _ _ _ (.int 1 :: _) _ _ _
    refine G_widen (cs' := 0) (sl' := 0) (by omega) (by omega) ?_
    refine G_if_eq 37 dr_cJ5_append_c97b9_21 (by decide +kernel) (fun hc => absurd hc (by decide)) (fun _ => ?_)
    refine G_iload_n 3 dr_cJ5_append_c97b9_24 rfl ?_
    refine G_iload_n 0 dr_cJ5_append_c97b9_25 rfl ?_
    refine G_aload_n 2 dr_cJ5_append_c97b9_26 rfl ?_
    refine Gp_get 0 hmq677471 heq677471 dr_cJ5_append_c97b9_27 (gk_J4 D I) (Nat.le_of_ble_eq_true rfl) wr_7_60 rfl ?_
    refine Gw_callS (As := [.int p677473, .int z677490, .ref q677472]) (gV_ok D I) (cp_667760_Integer_getChars l hl0 D I P677469 F677470 q677472 p677473 z677490 f677476 n677477 hmq677472 heq677472 ⟨by omega, by omega⟩ bf677476 (by have qa0 : Int32.toInt 0 = 0 := (by decide); omega) (by have q10 : Int32.toInt 10 = 10 := (by decide); have q11 : Int32.toInt 11 = 11 := (by decide); first | exact dgS_up (by omega) (by omega) x677488 (by omega)) (by have qa0 : Int32.toInt 0 = 0 := (by decide); omega)) dr_cJ5_append_c97b9_30 ⟨wr_8_115, wr_1_35, wr_8_117, by decide, rfl, (Nat.le_of_ble_eq_true rfl), (Nat.le_of_ble_eq_true rfl)⟩ wr_8_116 (show 0 + 0 ≤ 1 by first | omega | decide) (show 0 + 0 ≤ (4 * n677477 + 64) by first | omega | decide) (Nat.le_of_ble_eq_true rfl) (fun r677512 w677513 dc677509 ds677510 hp677511 => ?_) (fun _ _ _ _ _ z => z.elim)
    obtain ⟨F677517, o677514, f677515, rfl, rfl, hfr677519, he677520, hdc, hds, bo677514, bf677515, ht677516⟩ := hp677511
    have he677521 : F677517 q677471 = .inr (1, [.ref q677472, .int 0, .int p677474, .int p677475]) := (hfr677519 q677471 hmq677471 (nm_c (rn_oa heq677471 heq677472) nm_n)).trans heq677471
    have hfr677522 : rFr [q677472] P677469 F677470 F677517 := rFr_call (rSub_rf (P := P677469)) (rFr_rf (W := []) (P := P677469) (F := F677470)) hfr677519 (fun b hb hn => ⟨nm_n, (nm_c (fun e => hn (e ▸ List.mem_cons_self)) nm_n)⟩)
    change G _ _ _ _ _ _ _ (.int o677514 :: _) _ _ _
    refine G_widen (cs' := 0) (sl' := 0) (by omega) (by omega) ?_
    refine G_pop dr_cJ5_append_c97b9_33 rfl ?_
    refine G_goto 48 dr_cJ5_append_c97b9_34 (by decide +kernel) ?_
    refine G_aload_n 2 dr_cJ5_append_c97b9_48 rfl ?_
    refine G_iload_n 0 dr_cJ5_append_c97b9_49 rfl ?_
    refine Gp_put 3 hmq677471 he677521 dr_cJ5_append_c97b9_50 (gk_J4 D I) (Nat.le_of_ble_eq_true rfl) wr_7_64 rfl rfl rfl (Nat.le_of_ble_eq_true rfl) (fun F677523 e677524 n677525 => ?_)
    have he677526 : F677523 q677472 = .inl (I .byte, n677477, .inl f677515) := (n677525 q677472 (rn_ao he677520 he677521)).trans he677520
    have he677527 : F677523 q677471 = .inr (1, [.ref q677472, .int 0, .int p677474, .int z677490]) := e677524
    have hfr677528 : rFr [q677471, q677472] P677469 F677470 F677523 := rFr_put hfr677522 n677525
    refine G_aload_n 2 dr_cJ5_append_c97b9_53 rfl ?_
    exact G_aretA (FieldType.object "java/lang/AbstractStringBuilder") dr_cJ5_append_c97b9_54 rfl (by first | exact Or.inl ⟨_, rfl⟩ | exact Or.inr ⟨_, rfl⟩) (Or.inr ⟨_, rfl⟩) (Nat.le_of_ble_eq_true rfl) (Nat.le_of_ble_eq_true rfl) (Or.inl ⟨F677523, z677490, f677515, rfl, rfl, hfr677528, he677527, he677526, (Nat.le_of_ble_eq_true rfl), (Nat.le_of_ble_eq_true rfl), ⟨by omega, by omega⟩, bf677515, (by have qa0 : Int32.toInt 0 = 0 := (by decide); omega), (by have qa0 : Int32.toInt 0 = 0 := (by decide); omega), (by have qa0 : Int32.toInt 0 = 0 := (by decide); omega), (by have qa0 : Int32.toInt 0 = 0 := (by decide); omega), (by have qa0 : Int32.toInt 0 = 0 := (by decide); omega), (by have qa0 : Int32.toInt 0 = 0 := (by decide); omega), (by have qa0 : Int32.toInt 0 = 0 := (by decide); omega)⟩)
  · obtain ⟨P677538, F677539, q677529, n677530, f677531, rfl, rfl, hsb677540, hfr677541, he677542, he677543, hm677544, hq677545, hdc, hds, bf677531, x677532, x677533, x677534, x677535, x677536, x677537⟩ := hp677497
    have hm677546 : q677471 ∈ P677538 := hsb677540 q677471 hmq677471
    have hm677547 : q677472 ∈ P677538 := hsb677540 q677472 hmq677472
    have hq677548 : q677529 ∉ P677469 := fun z => hq677545 ((rSub_rf (P := P677469)) q677529 z)
    have hsb677549 : rSub P677469 P677538 := rSub_tr (rSub_rf (P := P677469)) hsb677540
    have he677550 : F677539 q677472 = .inl (I .byte, n677477, .inl f677476) := (hfr677541 q677472 hmq677472 (nm_c (rn_ao heq677472 heq677471) nm_n)).trans heq677472
    have hfr677551 : rFr [q677471] P677469 F677470 F677539 := rFr_call (rSub_rf (P := P677469)) (rFr_rf (W := []) (P := P677469) (F := F677470)) hfr677541 (fun b hb hn => ⟨nm_n, (nm_c (fun e => hn (e ▸ List.mem_cons_self)) nm_n)⟩)
    change G _ _ _ _ _ _ _ _ _ _ _
    refine G_widen (cs' := (min 1 (n677530 - n677477))) (sl' := 2 * (n677530 - n677477)) (by omega) (by omega) ?_
    refine G_aload_n 2 dr_cJ5_append_c97b9_17 rfl ?_
    refine Gw_callVB (As := []) (gV_ok D I) (cp_658723_AbstractStringBuilder_isLatin1 l hl0 D I P677538 F677539 q677471 q677529 p677474 p677475 f677531 n677530 hm677546 hm677544 he677542 he677543 bp677474 bp677475 bf677531 (by have qa0 : Int32.toInt 0 = 0 := (by decide); omega)) dr_cJ5_append_c97b9_18 ⟨wr_8_33, wr_1_19, wr_8_37, by decide, rfl, (Nat.le_of_ble_eq_true rfl), (Nat.le_of_ble_eq_true rfl)⟩ wr_8_34 wr_8_36 hm677546 he677542 rfl (show (min 1 (n677530 - n677477)) + 0 ≤ 1 by first | omega | decide) (show 2 * (n677530 - n677477) + 0 ≤ (4 * n677477 + 64) by first | omega | decide) (Nat.le_of_ble_eq_true rfl) (fun r677555 w677556 dc677552 ds677553 hp677554 => ?_) (fun _ _ _ _ _ z => z.elim)
    obtain ⟨rfl, rfl, hdc, hds⟩ := hp677554
    change G _ _ _ _ _ _ _ (.int 1 :: _) _ _ _
    refine G_widen (cs' := (min 1 (n677530 - n677477)) + 0) (sl' := 2 * (n677530 - n677477) + 0) (by omega) (by omega) ?_
    refine G_if_eq 37 dr_cJ5_append_c97b9_21 (by decide +kernel) (fun hc => absurd hc (by decide)) (fun _ => ?_)
    refine G_iload_n 3 dr_cJ5_append_c97b9_24 rfl ?_
    refine G_iload_n 0 dr_cJ5_append_c97b9_25 rfl ?_
    refine G_aload_n 2 dr_cJ5_append_c97b9_26 rfl ?_
    refine Gp_get 0 hm677546 he677542 dr_cJ5_append_c97b9_27 (gk_J4 D I) (Nat.le_of_ble_eq_true rfl) wr_7_60 rfl ?_
    refine Gw_callS (As := [.int p677473, .int z677490, .ref q677529]) (gV_ok D I) (cp_667760_Integer_getChars l hl0 D I P677538 F677539 q677529 p677473 z677490 f677531 n677530 hm677544 he677543 ⟨by omega, by omega⟩ bf677531 (by have qa0 : Int32.toInt 0 = 0 := (by decide); omega) (by have q10 : Int32.toInt 10 = 10 := (by decide); have q11 : Int32.toInt 11 = 11 := (by decide); first | exact dgS_up (by omega) (by omega) x677488 (by omega)) (by have qa0 : Int32.toInt 0 = 0 := (by decide); omega)) dr_cJ5_append_c97b9_30 ⟨wr_8_115, wr_1_35, wr_8_117, by decide, rfl, (Nat.le_of_ble_eq_true rfl), (Nat.le_of_ble_eq_true rfl)⟩ wr_8_116 (show (min 1 (n677530 - n677477)) + 0 + 0 ≤ 1 by first | omega | decide) (show 2 * (n677530 - n677477) + 0 + 0 ≤ (4 * n677477 + 64) by first | omega | decide) (Nat.le_of_ble_eq_true rfl) (fun r677560 w677561 dc677557 ds677558 hp677559 => ?_) (fun _ _ _ _ _ z => z.elim)
    obtain ⟨F677565, o677562, f677563, rfl, rfl, hfr677567, he677568, hdc, hds, bo677562, bf677563, ht677564⟩ := hp677559
    have he677569 : F677565 q677472 = .inl (I .byte, n677477, .inl f677476) := (hfr677567 q677472 hm677547 (nm_c (fun h => hq677548 (h ▸ hmq677472)) nm_n)).trans he677550
    have he677570 : F677565 q677471 = .inr (1, [.ref q677529, .int 0, .int p677474, .int p677475]) := (hfr677567 q677471 hm677546 (nm_c (fun h => hq677548 (h ▸ hmq677471)) nm_n)).trans he677542
    have hfr677571 : rFr [q677471] P677469 F677470 F677565 := rFr_call hsb677549 hfr677551 hfr677567 (fun b hb hn => ⟨(nm_c (fun e => hn (e ▸ List.mem_cons_self)) nm_n), (nm_c (fun e => hq677548 (e ▸ hb)) nm_n)⟩)
    change G _ _ _ _ _ _ _ (.int o677562 :: _) _ _ _
    refine G_widen (cs' := (min 1 (n677530 - n677477)) + 0 + 0) (sl' := 2 * (n677530 - n677477) + 0 + 0) (by omega) (by omega) ?_
    refine G_pop dr_cJ5_append_c97b9_33 rfl ?_
    refine G_goto 48 dr_cJ5_append_c97b9_34 (by decide +kernel) ?_
    refine G_aload_n 2 dr_cJ5_append_c97b9_48 rfl ?_
    refine G_iload_n 0 dr_cJ5_append_c97b9_49 rfl ?_
    refine Gp_put 3 hm677546 he677570 dr_cJ5_append_c97b9_50 (gk_J4 D I) (Nat.le_of_ble_eq_true rfl) wr_7_64 rfl rfl rfl (Nat.le_of_ble_eq_true rfl) (fun F677572 e677573 n677574 => ?_)
    have he677575 : F677572 q677472 = .inl (I .byte, n677477, .inl f677476) := (n677574 q677472 (rn_ao he677569 he677570)).trans he677569
    have he677576 : F677572 q677529 = .inl (I .byte, n677530, .inl f677563) := (n677574 q677529 (fun h => hq677548 (h ▸ hmq677471))).trans he677568
    have he677577 : F677572 q677471 = .inr (1, [.ref q677529, .int 0, .int p677474, .int z677490]) := e677573
    have hfr677578 : rFr [q677471] P677469 F677470 F677572 := rFr_put' List.mem_cons_self hfr677571 n677574
    refine G_aload_n 2 dr_cJ5_append_c97b9_53 rfl ?_
    exact G_aretA (FieldType.object "java/lang/AbstractStringBuilder") dr_cJ5_append_c97b9_54 rfl (by first | exact Or.inl ⟨_, rfl⟩ | exact Or.inr ⟨_, rfl⟩) (Or.inr ⟨_, rfl⟩) (show (min 1 (n677530 - n677477)) + 0 + 0 ≤ 1 by omega) (show 2 * (n677530 - n677477) + 0 + 0 ≤ (4 * n677477 + 64) by omega) (Or.inr (⟨P677538, F677572, z677490, q677529, n677530, f677563, rfl, rfl, hsb677549, hfr677578, he677577, he677576, hm677544, hq677548, (by omega), (by omega), ⟨by omega, by omega⟩, bf677563, (by have qa0 : Int32.toInt 0 = 0 := (by decide); omega), (by have qa0 : Int32.toInt 0 = 0 := (by decide); omega), (by have qa0 : Int32.toInt 0 = 0 := (by decide); omega), (by have qa0 : Int32.toInt 0 = 0 := (by decide); omega), (by have qa0 : Int32.toInt 0 = 0 := (by decide); omega), (by have qa0 : Int32.toInt 0 = 0 := (by decide); omega), (by have qa0 : Int32.toInt 0 = 0 := (by decide); omega)⟩))
