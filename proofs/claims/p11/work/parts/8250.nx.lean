section NXR
variable {D : va_G} {I : FieldType → ClassId} {P : List Nat} {F : Nat → va_E} {γ el : Nat → Nat → Nat} {q0 : Nat} {Q : gPg}
theorem md_kd9 (hT : RS D I P F γ el) (hm : γ 0 q0 = 10) : γ 0 (γ 9 3) = 14 ∧ γ 0 (γ 9 5) = 17 ∧ γ 0 (γ 9 15) = 18 ∧ γ 0 (γ 9 16) = 19 ∧ γ 0 (γ 9 17) = 20 ∧ γ 0 (γ 9 18) = 15 ∧ γ 0 (γ 9 19) = 21 ∧ ∀ n, n < 2000 → γ 0 (γ 11 n) = 36 := by
  obtain ⟨r28, r35, v9, v10, v11, v12, v13, v14, v23, v24, v25, v26, v27, v30, v32, v33, v34, he, hM1, hK, hM2⟩ := rk10_m (show rk_10 γ (F q0) from RS_o hT hm)
  obtain ⟨-, -, -, k1, -, k3, -, k5, -, -, -, k15, k16, k17, k18, k19, -⟩ := hK
  exact ⟨k3, k5, k15, k16, k17, k18, k19, fun n hn => (er_kd hT k1 hn).1⟩
theorem rn2_tl {a1 : Int32} {s1 : Int32} {k : Nat} {e1 : Int32} (h : tl_RModel_next_2 D I γ el F q0 a1 s1 k e1) : ∀ i : Nat, s1.toInt = (i : Int) → (∀ u, u < i → (rSd (cB (F (γ 9 18)))) u → a1.toInt ≤ ((cB (F (γ 9 16))) u).toInt) → (k = 36 → ∀ u, (rSd (cB (F (γ 9 18)))) u → a1.toInt ≤ ((cB (F (γ 9 16))) u).toInt) ∧ (k = 28 → ∃ v : Nat, e1.toInt = (v : Int) ∧ (rSd (cB (F (γ 9 18)))) v ∧ ((cB (F (γ 9 16))) v).toInt < a1.toInt ∧ ∀ u, u < v → (rSd (cB (F (γ 9 18)))) u → a1.toInt ≤ ((cB (F (γ 9 16))) u).toInt) := by
  refine h (fun s1 k e1 => ∀ i : Nat, s1.toInt = (i : Int) → (∀ u, u < i → (rSd (cB (F (γ 9 18)))) u → a1.toInt ≤ ((cB (F (γ 9 16))) u).toInt) → (k = 36 → ∀ u, (rSd (cB (F (γ 9 18)))) u → a1.toInt ≤ ((cB (F (γ 9 16))) u).toInt) ∧ (k = 28 → ∃ v : Nat, e1.toInt = (v : Int) ∧ (rSd (cB (F (γ 9 18)))) v ∧ ((cB (F (γ 9 16))) v).toInt < a1.toInt ∧ ∀ u, u < v → (rSd (cB (F (γ 9 18)))) u → a1.toInt ≤ ((cB (F (γ 9 16))) u).toInt)) ?_ ?_ ?_ ?_
  · intro l2_1 h1 h2
    intro i hi hl
    exact ⟨fun _ u hu => hl u (by have := hu.1; omega) hu, fun z => (nomatch z)⟩
  · intro l2_1 x1 x2 x3 k e1 h1 h2 h3 h4 h5 h6 h7 h8 ih
    intro i hi hl
    have e1 : (rSd (cB (F (γ 9 18)))) = rSd x1 := by rw [cB_of h4]
    rw [nnE hi] at h5
    have bx := h6.1
    have by' := h6.2
    refine ih (i + 1) (by omega) (fun u hu ht => ?_)
    by_cases e : u = i
    · rw [e1, e] at ht
      have := ht.2
      rw [← h5] at this
      omega
    · exact hl u (by omega) ht
  · intro l2_1 x1 x2 x3 x4 x5 k e1 h1 h2 h3 h4 h5 h6 h7 h8 h9 h10 h11 h12 ih
    intro i hi hl
    have e1 : (rSd (cB (F (γ 9 18)))) = rSd x1 := by rw [cB_of h4]
    rw [nnE hi] at h5
    have bx := h6.1
    have by' := h6.2
    have e2 : (cB (F (γ 9 16))) = x3 := cB_of h9
    have ti : (rSd (cB (F (γ 9 18)))) i := by rw [e1]; exact ⟨by omega, by rw [← h5]; omega⟩
    rw [nnE hi] at h10
    refine ih (i + 1) (by omega) (fun u hu ht => ?_)
    by_cases e : u = i
    · rw [e, e2, ← h10]; exact h11
    · exact hl u (by omega) ht
  · intro l2_1 x1 x2 x3 x4 h1 h2 h3 h4 h5 h6 h7 h8 h9 h10 h11
    intro i hi hl
    have e1 : (rSd (cB (F (γ 9 18)))) = rSd x1 := by rw [cB_of h4]
    rw [nnE hi] at h5
    have bx := h6.1
    have by' := h6.2
    have e2 : (cB (F (γ 9 16))) = x3 := cB_of h9
    have ti : (rSd (cB (F (γ 9 18)))) i := by rw [e1]; exact ⟨by omega, by rw [← h5]; omega⟩
    rw [nnE hi] at h10
    exact ⟨fun z => (nomatch z), fun _ => ⟨i, hi, ti, by rw [e2, ← h10]; exact h11, hl⟩⟩
theorem rn40_tl {s1 : Int32} {s2 : Int32} {k : Nat} {e1 : Int32} (h : tl_RModel_next_40 D I γ el F q0 s1 s2 k e1) : ∀ i : Nat, s1.toInt = (i : Int) → ((bsF (rSd (cB (F (γ 9 18)))) (cB (F (γ 9 5))) (cB (F (γ 9 16))) i = none ∧ s2.toInt < 0) ∨ ∃ b : Nat, bsF (rSd (cB (F (γ 9 18)))) (cB (F (γ 9 5))) (cB (F (γ 9 16))) i = some b ∧ s2.toInt = (b : Int) ∧ b < i) → ((bsF (rSd (cB (F (γ 9 18)))) (cB (F (γ 9 5))) (cB (F (γ 9 16))) 2000 = none ∧ e1.toInt < 0) ∨ ∃ b : Nat, bsF (rSd (cB (F (γ 9 18)))) (cB (F (γ 9 5))) (cB (F (γ 9 16))) 2000 = some b ∧ e1.toInt = (b : Int) ∧ b < 2000) := by
  refine h (fun s1 s2 _ e1 => ∀ i : Nat, s1.toInt = (i : Int) → ((bsF (rSd (cB (F (γ 9 18)))) (cB (F (γ 9 5))) (cB (F (γ 9 16))) i = none ∧ s2.toInt < 0) ∨ ∃ b : Nat, bsF (rSd (cB (F (γ 9 18)))) (cB (F (γ 9 5))) (cB (F (γ 9 16))) i = some b ∧ s2.toInt = (b : Int) ∧ b < i) → ((bsF (rSd (cB (F (γ 9 18)))) (cB (F (γ 9 5))) (cB (F (γ 9 16))) 2000 = none ∧ e1.toInt < 0) ∨ ∃ b : Nat, bsF (rSd (cB (F (γ 9 18)))) (cB (F (γ 9 5))) (cB (F (γ 9 16))) 2000 = some b ∧ e1.toInt = (b : Int) ∧ b < 2000)) ?_ ?_ ?_ ?_ ?_ ?_ ?_ ?_ ?_ ?_
  · intro l3_1 l2_1 h1 h2 h3 h4 h5
    intro i hi hs
    have e : i = 2000 := by have := h1.2; omega
    rw [e] at hs
    exact hs
  · intro l3_1 l2_1 x1 x2 x3 x4 x5 x6 x7 x8 x9 x10 x11 x12 x13 x14 x15 x16 k e1 h1 h2 h3 h4 h5 h6 h7 h8 h9 h10 h11 h12 h13 h14 h15 h16 h17 h18 h19 h20 h21 h22 h23 h24 h25 h26 h27 h28 h29 h30 ih
    intro i hi hs
    have e1 : (rSd (cB (F (γ 9 18)))) = rSd x1 := by rw [cB_of h7]
    rw [nnE hi] at h8
    have bx := h9.1
    have by' := h9.2
    have ti : (rSd (cB (F (γ 9 18)))) i := by rw [e1]; exact ⟨by omega, by rw [← h8]; omega⟩
    refine ih (i + 1) (by omega) ?_
    rcases hs with ⟨-, b2⟩ | ⟨b, b1, b2, b3⟩
    · omega
    have ew : (cB (F (γ 9 5))) = x3 := cB_of h15
    have el' : (cB (F (γ 9 16))) = x6 := cB_of h19
    rw [nnE hi] at h16 h25
    rw [nnE b2] at h20 h23
    rw [h28, h22, h27, h17, h21, h24, h26, h16, h20, h23, h25, ← ew, ← el'] at h29
    have ch : ¬ chp (cB (F (γ 9 5))) (cB (F (γ 9 16))) i b := fun z => by unfold chp at z; omega
    exact Or.inr ⟨b, bsF_2 ti b1 (Or.inr ch), b2, by omega⟩
  · intro l3_1 l2_1 x1 x2 x3 x4 x5 x6 x7 x8 x9 x10 x11 x12 x13 x14 x15 x16 k e1 h1 h2 h3 h4 h5 h6 h7 h8 h9 h10 h11 h12 h13 h14 h15 h16 h17 h18 h19 h20 h21 h22 h23 h24 h25 h26 h27 h28 h29 h30 ih
    intro i hi hs
    have e1 : (rSd (cB (F (γ 9 18)))) = rSd x1 := by rw [cB_of h7]
    rw [nnE hi] at h8
    have bx := h9.1
    have by' := h9.2
    have ti : (rSd (cB (F (γ 9 18)))) i := by rw [e1]; exact ⟨by omega, by rw [← h8]; omega⟩
    refine ih (i + 1) (by omega) ?_
    rcases hs with ⟨-, b2⟩ | ⟨b, b1, b2, b3⟩
    · omega
    have ew : (cB (F (γ 9 5))) = x3 := cB_of h15
    have el' : (cB (F (γ 9 16))) = x6 := cB_of h19
    rw [nnE hi] at h16 h25
    rw [nnE b2] at h20 h23
    rw [h28, h22, h27, h17, h21, h24, h26, h16, h20, h23, h25, ← ew, ← el'] at h29
    have ch : chp (cB (F (γ 9 5))) (cB (F (γ 9 16))) i b := h29
    exact Or.inr ⟨i, bsF_3 ti b1 (fun z => z.elim (fun y => by omega) (fun y => y ch)), hi, Nat.lt_succ_self i⟩
  · intro l3_1 l2_1 x1 x2 x3 x4 x5 x6 x7 x8 x9 x10 x11 x12 x13 x14 x15 x16 k e1 h1 h2 h3 h4 h5 h6 h7 h8 h9 h10 h11 h12 h13 h14 h15 h16 h17 h18 h19 h20 h21 h22 h23 h24 h25 h26 h27 h28 h29 h30 ih
    intro i hi hs
    have e1 : (rSd (cB (F (γ 9 18)))) = rSd x1 := by rw [cB_of h7]
    rw [nnE hi] at h8
    have bx := h9.1
    have by' := h9.2
    have ti : (rSd (cB (F (γ 9 18)))) i := by rw [e1]; exact ⟨by omega, by rw [← h8]; omega⟩
    refine ih (i + 1) (by omega) ?_
    rcases hs with ⟨-, b2⟩ | ⟨b, b1, b2, b3⟩
    · omega
    have ew : (cB (F (γ 9 5))) = x3 := cB_of h15
    have el' : (cB (F (γ 9 16))) = x6 := cB_of h19
    rw [nnE hi] at h16 h25
    rw [nnE b2] at h20 h23
    rw [h28, h22, h27, h17, h21, h24, h26, h16, h20, h23, h25, ← ew, ← el'] at h29
    have ch : ¬ chp (cB (F (γ 9 5))) (cB (F (γ 9 16))) i b := fun z => by unfold chp at z; omega
    omega
  · intro l3_1 l2_1 x1 x2 x3 x4 x5 x6 x7 x8 x9 x10 x11 x12 x13 x14 x15 x16 k e1 h1 h2 h3 h4 h5 h6 h7 h8 h9 h10 h11 h12 h13 h14 h15 h16 h17 h18 h19 h20 h21 h22 h23 h24 h25 h26 h27 h28 h29 h30 ih
    intro i hi hs
    have e1 : (rSd (cB (F (γ 9 18)))) = rSd x1 := by rw [cB_of h7]
    rw [nnE hi] at h8
    have bx := h9.1
    have by' := h9.2
    have ti : (rSd (cB (F (γ 9 18)))) i := by rw [e1]; exact ⟨by omega, by rw [← h8]; omega⟩
    refine ih (i + 1) (by omega) ?_
    rcases hs with ⟨-, b2⟩ | ⟨b, b1, b2, b3⟩
    · omega
    have ew : (cB (F (γ 9 5))) = x3 := cB_of h15
    have el' : (cB (F (γ 9 16))) = x6 := cB_of h19
    rw [nnE hi] at h16 h25
    rw [nnE b2] at h20 h23
    rw [h28, h22, h27, h17, h21, h24, h26, h16, h20, h23, h25, ← ew, ← el'] at h29
    have ch : chp (cB (F (γ 9 5))) (cB (F (γ 9 16))) i b := h29
    exact Or.inr ⟨i, bsF_3 ti b1 (fun z => z.elim (fun y => by omega) (fun y => y ch)), hi, Nat.lt_succ_self i⟩
  · intro l3_1 l2_1 x1 x2 x3 k e1 h1 h2 h3 h4 h5 h6 h7 h8 h9 h10 h11 h12 h13 h14 ih
    intro i hi hs
    have e1 : (rSd (cB (F (γ 9 18)))) = rSd x1 := by rw [cB_of h7]
    rw [nnE hi] at h8
    have bx := h9.1
    have by' := h9.2
    have ti : (rSd (cB (F (γ 9 18)))) i := by rw [e1]; exact ⟨by omega, by rw [← h8]; omega⟩
    refine ih (i + 1) (by omega) ?_
    rcases hs with ⟨-, b2⟩ | ⟨b, b1, b2, b3⟩
    · omega
    exact Or.inr ⟨b, bsF_2 ti b1 (Or.inl (by omega)), b2, by omega⟩
  · intro l3_1 l2_1 x1 x2 x3 x4 x5 x6 x7 x8 x9 x10 x11 x12 x13 x14 x15 x16 k e1 h1 h2 h3 h4 h5 h6 h7 h8 h9 h10 h11 h12 h13 h14 h15 h16 h17 h18 h19 h20 h21 h22 h23 h24 h25 h26 h27 h28 h29 h30 ih
    intro i hi hs
    have e1 : (rSd (cB (F (γ 9 18)))) = rSd x1 := by rw [cB_of h7]
    rw [nnE hi] at h8
    have bx := h9.1
    have by' := h9.2
    have ti : (rSd (cB (F (γ 9 18)))) i := by rw [e1]; exact ⟨by omega, by rw [← h8]; omega⟩
    refine ih (i + 1) (by omega) ?_
    rcases hs with ⟨-, b2⟩ | ⟨b, b1, b2, b3⟩
    · omega
    have ew : (cB (F (γ 9 5))) = x3 := cB_of h15
    have el' : (cB (F (γ 9 16))) = x6 := cB_of h19
    rw [nnE hi] at h16 h25
    rw [nnE b2] at h20 h23
    rw [h28, h22, h27, h17, h21, h24, h26, h16, h20, h23, h25, ← ew, ← el'] at h29
    have ch : ¬ chp (cB (F (γ 9 5))) (cB (F (γ 9 16))) i b := fun z => by unfold chp at z; omega
    exact Or.inr ⟨b, bsF_2 ti b1 (Or.inr ch), b2, by omega⟩
  · intro l3_1 l2_1 x1 x2 x3 x4 x5 x6 x7 x8 x9 x10 x11 x12 x13 x14 x15 x16 k e1 h1 h2 h3 h4 h5 h6 h7 h8 h9 h10 h11 h12 h13 h14 h15 h16 h17 h18 h19 h20 h21 h22 h23 h24 h25 h26 h27 h28 h29 h30 ih
    intro i hi hs
    have e1 : (rSd (cB (F (γ 9 18)))) = rSd x1 := by rw [cB_of h7]
    rw [nnE hi] at h8
    have bx := h9.1
    have by' := h9.2
    have ti : (rSd (cB (F (γ 9 18)))) i := by rw [e1]; exact ⟨by omega, by rw [← h8]; omega⟩
    refine ih (i + 1) (by omega) ?_
    rcases hs with ⟨-, b2⟩ | ⟨b, b1, b2, b3⟩
    · omega
    have ew : (cB (F (γ 9 5))) = x3 := cB_of h15
    have el' : (cB (F (γ 9 16))) = x6 := cB_of h19
    rw [nnE hi] at h16 h25
    rw [nnE b2] at h20 h23
    rw [h28, h22, h27, h17, h21, h24, h26, h16, h20, h23, h25, ← ew, ← el'] at h29
    have ch : chp (cB (F (γ 9 5))) (cB (F (γ 9 16))) i b := h29
    exact Or.inr ⟨i, bsF_3 ti b1 (fun z => z.elim (fun y => by omega) (fun y => y ch)), hi, Nat.lt_succ_self i⟩
  · intro l3_1 l2_1 x1 x2 x3 k e1 h1 h2 h3 h4 h5 h6 h7 h8 h9 h10 h11 h12 ih
    intro i hi hs
    have e1 : (rSd (cB (F (γ 9 18)))) = rSd x1 := by rw [cB_of h7]
    rw [nnE hi] at h8
    have bx := h9.1
    have by' := h9.2
    have ti : (rSd (cB (F (γ 9 18)))) i := by rw [e1]; exact ⟨by omega, by rw [← h8]; omega⟩
    refine ih (i + 1) (by omega) ?_
    rcases hs with ⟨b1, -⟩ | ⟨b, -, b2, -⟩
    · exact Or.inr ⟨i, bsF_1 ti b1, hi, Nat.lt_succ_self i⟩
    · omega
  · intro l3_1 l2_1 x1 x2 x3 k e1 h1 h2 h3 h4 h5 h6 h7 h8 h9 h10 h11 ih
    intro i hi hs
    have e1 : (rSd (cB (F (γ 9 18)))) = rSd x1 := by rw [cB_of h7]
    rw [nnE hi] at h8
    have bx := h9.1
    have by' := h9.2
    have nt : ¬ (rSd (cB (F (γ 9 18)))) i := by
      rw [e1]
      intro z
      have := z.2
      rw [← h8] at this
      omega
    refine ih (i + 1) (by omega) ?_
    rw [bsF_0 nt]
    exact hs.imp id (fun ⟨b, b1, b2, b3⟩ => ⟨b, b1, b2, by omega⟩)
theorem bsF_no {T : Nat → Prop} {w lf : Nat → Int32} : ∀ n, bsF T w lf n = none → ∀ v, v < n → ¬ T v
  | 0, _, v, hv => absurd hv (Nat.not_lt_zero v)
  | n + 1, h, v, hv => by
    by_cases c : T n
    · cases e : bsF T w lf n with
      | none => rw [bsF_1 c e] at h; cases h
      | some d =>
        by_cases g : (100 ≤ n ∧ d < 100) ∨ ¬ chp w lf n d
        · rw [bsF_2 c e g] at h; cases h
        · rw [bsF_3 c e g] at h; cases h
    · rw [bsF_0 c] at h
      by_cases e : v = n
      · rw [e]; exact c
      · exact bsF_no n h v (by omega)
theorem rnx_tr {a1 : Int32} {o1 : Int32} (h : tr_RModel_next D I γ el F q0 a1 o1) : (o1.toInt < 0 ∧ ∀ v, ¬ (rSd (cB (F (γ 9 18)))) v) ∨ ∃ v : Nat, o1.toInt = (v : Int) ∧ (rSd (cB (F (γ 9 18)))) v ∧ isNx (rSd (cB (F (γ 9 18)))) (cB (F (γ 9 5))) (cB (F (γ 9 16))) a1.toInt v := by
  refine h (fun o1 => (o1.toInt < 0 ∧ ∀ v, ¬ (rSd (cB (F (γ 9 18)))) v) ∨ ∃ v : Nat, o1.toInt = (v : Int) ∧ (rSd (cB (F (γ 9 18)))) v ∧ isNx (rSd (cB (F (γ 9 18)))) (cB (F (γ 9 5))) (cB (F (γ 9 16))) a1.toInt v) ?_ ?_
  · intro x1 h1 h2
    have q := (rn2_tl h1 0 (by decide) (fun u hu => absurd hu (Nat.not_lt_zero u))).1 rfl
    rcases rn40_tl h2 0 (by decide) (Or.inl ⟨rfl, by decide⟩) with ⟨b1, b2⟩ | ⟨b, b1, b2, b3⟩
    · exact Or.inl ⟨b2, fun v hv => bsF_no 2000 b1 v hv.1 hv⟩
    · exact Or.inr ⟨b, b2, bsF_in 2000 b1, Or.inr ⟨q, b1⟩⟩
  · intro x1 h1
    obtain ⟨v, q1, q2, q3, q4⟩ := (rn2_tl h1 0 (by decide) (fun u hu => absurd hu (Nat.not_lt_zero u))).2 rfl
    exact Or.inr ⟨v, q1, q2, Or.inl ⟨q2, q3, q4⟩⟩
theorem rc2_tl {s1 : Nat → va_E} {s2 : Int32} {k : Nat} {e1 : Nat → va_E} (hT : RS D I P F γ el) (hm : γ 0 q0 = 10) (h : tl_RModel_colours_2 D I γ el P F q0 s1 s2 k e1) : ∀ i : Nat, s2.toInt = (i : Int) → i ≤ 2000 → (∀ v, v < i → ((rSd (cB (s1 (γ 9 18)))) v ↔ rSd (cB (s1 (γ 9 3))) v) ∧ (rSd (cB (s1 (γ 9 3))) v → ((cB (s1 (γ 9 16))) v).toInt = bsm (cL (s1 (γ 11 v))) 0 32) ∧ ((cB (s1 (γ 9 17))) v).toInt = -1) → (∀ v, v < 2000 → ((rSd (cB (e1 (γ 9 18)))) v ↔ rSd (cB (e1 (γ 9 3))) v) ∧ (rSd (cB (e1 (γ 9 3))) v → ((cB (e1 (γ 9 16))) v).toInt = bsm (cL (e1 (γ 11 v))) 0 32) ∧ ((cB (e1 (γ 9 17))) v).toInt = -1) ∧ ∀ b, b ≠ γ 9 16 → b ≠ γ 9 17 → b ≠ γ 9 18 → e1 b = s1 b := by
  obtain ⟨k3, k5, k15, k16, k17, k18, k19, k11⟩ := md_kd9 hT hm
  have n1 : γ 9 16 ≠ γ 9 18 := fun e => (by rw [e, k18] at k16; exact absurd k16 (by decide))
  have n2 : γ 9 17 ≠ γ 9 18 := fun e => (by rw [e, k18] at k17; exact absurd k17 (by decide))
  have n3 : γ 9 16 ≠ γ 9 17 := fun e => (by rw [e, k17] at k16; exact absurd k16 (by decide))
  have n4 : γ 9 3 ≠ γ 9 16 := fun e => (by rw [e, k16] at k3; exact absurd k3 (by decide))
  have n5 : γ 9 3 ≠ γ 9 17 := fun e => (by rw [e, k17] at k3; exact absurd k3 (by decide))
  have n6 : γ 9 3 ≠ γ 9 18 := fun e => (by rw [e, k18] at k3; exact absurd k3 (by decide))
  have n7 : ∀ v, v < 2000 → γ 11 v ≠ γ 9 16 ∧ γ 11 v ≠ γ 9 17 ∧ γ 11 v ≠ γ 9 18 := fun v hv => by
    have q := k11 v hv
    exact ⟨fun e => (by rw [e, k16] at q; exact absurd q (by decide)), fun e => (by rw [e, k17] at q; exact absurd q (by decide)), fun e => (by rw [e, k18] at q; exact absurd q (by decide))⟩
  refine h (fun s1 s2 _ e1 => ∀ i : Nat, s2.toInt = (i : Int) → i ≤ 2000 → (∀ v, v < i → ((rSd (cB (s1 (γ 9 18)))) v ↔ rSd (cB (s1 (γ 9 3))) v) ∧ (rSd (cB (s1 (γ 9 3))) v → ((cB (s1 (γ 9 16))) v).toInt = bsm (cL (s1 (γ 11 v))) 0 32) ∧ ((cB (s1 (γ 9 17))) v).toInt = -1) → (∀ v, v < 2000 → ((rSd (cB (e1 (γ 9 18)))) v ↔ rSd (cB (e1 (γ 9 3))) v) ∧ (rSd (cB (e1 (γ 9 3))) v → ((cB (e1 (γ 9 16))) v).toInt = bsm (cL (e1 (γ 11 v))) 0 32) ∧ ((cB (e1 (γ 9 17))) v).toInt = -1) ∧ ∀ b, b ≠ γ 9 16 → b ≠ γ 9 17 → b ≠ γ 9 18 → e1 b = s1 b) ?_ ?_ ?_
  · intro F_1 l2_1 h1 h2 h3 h4 h5 h6 h7
    intro i hi hi2 hv
    have e : i = 2000 := by omega
    rw [e] at hv
    exact ⟨hv, fun _ _ _ _ => rfl⟩
  · intro F_1 l2_1 x1 x2 x3 x4 x5 x6 x7 x8 x9 x10 x11 x12 k e1 h1 h2 h3 h4 h5 h6 h7 h8 h9 h10 h11 h12 h13 h14 h15 h16 h17 h18 h19 h20 h21 h22 h23 h24 h25 h26 h27 h28 h29 h30 ih
    intro i hi hi2 hv
    have hi3 : i < 2000 := by omega
    have en := nnE hi
    rw [en] at h11 h14 h22 h27
    have fr : ∀ b, b ≠ γ 9 16 → b ≠ γ 9 17 → b ≠ γ 9 18 → x11 b = F_1 b := fun b b1 b2 b3 => by rw [h28 b b2, h23 b b1, h15 b b3]
    have s0 : (cB (x11 (γ 9 3))) = x1 := by rw [fr _ n4 n5 n6]; exact cB_of h10
    have s1 : (cB (F_1 (γ 9 3))) = x1 := cB_of h10
    have c8 : cB (x11 (γ 9 18)) = x4 := by rw [h28 _ n2.symm, h23 _ n1.symm]; exact cB_of h16
    have c6 : (cB (x11 (γ 9 16))) = x7 := by rw [h28 _ n3]; exact cB_of h24
    have c7 : (cB (x11 (γ 9 17))) = x10 := cB_of h29
    have o8 : cB (F_1 (γ 9 18)) = x3 := cB_of h13
    have o6 : (cB (F_1 (γ 9 16))) = x6 := by rw [← h15 _ n1]; exact cB_of h21
    have o7 : (cB (F_1 (γ 9 17))) = x9 := by rw [← h15 _ n2, ← h23 _ n3.symm]; exact cB_of h26
    have b1 := h12.1
    have b2 := h12.2
    have nar : (vp_nar .boolean x2).toInt = x2.toInt := by
      have q : x2.toInt = 0 ∨ x2.toInt = 1 := by omega
      rcases q with q | q
      · rw [show x2 = 0 from Int32.toInt_inj.mp q]; decide
      · rw [show x2 = 1 from Int32.toInt_inj.mp q]; decide
    obtain ⟨r1, r2⟩ := ih (i + 1) (by omega) (by omega) (fun v hv1 => by
      rw [s0, c8, c6, c7, fr _ (n7 v (by omega)).1 (n7 v (by omega)).2.1 (n7 v (by omega)).2.2]
      by_cases e : v = i
      · rw [e, h14, h22, h27]
        refine ⟨⟨fun z => ⟨hi3, ?_⟩, fun z => ⟨hi3, ?_⟩⟩, fun z => ?_, ?_⟩
        · have y := z.2
          rw [updE, nar] at y
          rw [← h11]; exact y
        · have y := z.2
          rw [updE, nar]
          rw [← h11] at y; exact y
        · have y := z.2
          rw [← h11] at y
          rw [updE]
          omega
        · rw [updE]; decide
      · have q := hv v (by omega)
        rw [s1, o8, o6, o7] at q
        rw [h14, h22, h27]
        refine ⟨⟨fun z => q.1.mp ⟨z.1, ?_⟩, fun z => ⟨z.1, ?_⟩⟩, fun z => ?_, ?_⟩
        · have y := z.2
          rw [updN e] at y; exact y
        · have y := (q.1.mpr z).2
          rw [updN e]; exact y
        · rw [updN e]; exact q.2.1 z
        · rw [updN e]; exact q.2.2)
    refine ⟨r1, fun b b1 b2 b3 => (r2 b b1 b2 b3).trans (fr b b1 b2 b3)⟩
  · intro F_1 l2_1 x1 x2 x3 x4 x5 x6 x7 x8 x9 x10 x11 x12 x13 x14 x15 k e1 h1 h2 h3 h4 h5 h6 h7 h8 h9 h10 h11 h12 h13 h14 h15 h16 h17 h18 h19 h20 h21 h22 h23 h24 h25 h26 h27 h28 h29 h30 h31 h32 h33 h34 ih
    intro i hi hi2 hv
    have hi3 : i < 2000 := by omega
    have en := nnE hi
    rw [en] at h11 h14 h26 h31
    have fr : ∀ b, b ≠ γ 9 16 → b ≠ γ 9 17 → b ≠ γ 9 18 → x14 b = F_1 b := fun b b1 b2 b3 => by rw [h32 b b2, h27 b b1, h15 b b3]
    have s0 : (cB (x14 (γ 9 3))) = x1 := by rw [fr _ n4 n5 n6]; exact cB_of h10
    have s1 : (cB (F_1 (γ 9 3))) = x1 := cB_of h10
    have c8 : cB (x14 (γ 9 18)) = x4 := by rw [h32 _ n2.symm, h27 _ n1.symm]; exact cB_of h16
    have c6 : (cB (x14 (γ 9 16))) = x10 := by rw [h32 _ n3]; exact cB_of h28
    have c7 : (cB (x14 (γ 9 17))) = x13 := cB_of h33
    have o8 : cB (F_1 (γ 9 18)) = x3 := cB_of h13
    have o6 : (cB (F_1 (γ 9 16))) = x9 := by rw [← h15 _ n1]; exact cB_of h25
    have o7 : (cB (F_1 (γ 9 17))) = x12 := by rw [← h15 _ n2, ← h27 _ n3.symm]; exact cB_of h30
    have b1 := h12.1
    have b2 := h12.2
    have nar : (vp_nar .boolean x2).toInt = x2.toInt := by
      have q : x2.toInt = 0 ∨ x2.toInt = 1 := by omega
      rcases q with q | q
      · rw [show x2 = 0 from Int32.toInt_inj.mp q]; decide
      · rw [show x2 = 1 from Int32.toInt_inj.mp q]; decide
    obtain ⟨r1, r2⟩ := ih (i + 1) (by omega) (by omega) (fun v hv1 => by
      rw [s0, c8, c6, c7, fr _ (n7 v (by omega)).1 (n7 v (by omega)).2.1 (n7 v (by omega)).2.2]
      by_cases e : v = i
      · rw [e, h14, h26, h31]
        refine ⟨⟨fun z => ⟨hi3, ?_⟩, fun z => ⟨hi3, ?_⟩⟩, fun z => ?_, ?_⟩
        · have y := z.2
          rw [updE, nar] at y
          rw [← h11]; exact y
        · have y := z.2
          rw [updE, nar]
          rw [← h11] at y; exact y
        · have y := z.2
          rw [← h11] at y
          rw [updE]
          rw [co_tr h24]
          have en2 : l2_1.toInt.toNat = i := by rw [hi]; rfl
          rw [en2] at h22
          rw [h22] at h23
          rw [h15 _ (n7 i hi3).2.2] at h23
          rw [h23]
          rfl
        · rw [updE]; decide
      · have q := hv v (by omega)
        rw [s1, o8, o6, o7] at q
        rw [h14, h26, h31]
        refine ⟨⟨fun z => q.1.mp ⟨z.1, ?_⟩, fun z => ⟨z.1, ?_⟩⟩, fun z => ?_, ?_⟩
        · have y := z.2
          rw [updN e] at y; exact y
        · have y := (q.1.mpr z).2
          rw [updN e]; exact y
        · rw [updN e]; exact q.2.1 z
        · rw [updN e]; exact q.2.2)
    refine ⟨r1, fun b b1 b2 b3 => (r2 b b1 b2 b3).trans (fr b b1 b2 b3)⟩
theorem rc94_tl {c1 : Int32} {F_1 : Nat → va_E} {l3_1 : Int32} {s1 : Nat → va_E} {s2 : Int32} {k : Nat} {e1 : Nat → va_E} {v : Nat} (hT : RS D I P F γ el) (hm : γ 0 q0 = 10) (hv : l3_1.toInt = (v : Int)) (hv2 : v < 2000) (h : tl_RModel_colours_94 D I γ el P F c1 F_1 q0 l3_1 s1 s2 k e1) : ∀ i : Nat, s2.toInt = (i : Int) → i ≤ 2000 → (∀ q, (i ≤ q ∧ q < 2000 ∧ egS γ s1 v q = true → (cB (e1 (γ 9 16))) q = (cB (s1 (γ 9 16))) q - 1) ∧ (¬ (i ≤ q ∧ q < 2000 ∧ egS γ s1 v q = true) → (cB (e1 (γ 9 16))) q = (cB (s1 (γ 9 16))) q)) ∧ ∀ b, b ≠ γ 9 16 → e1 b = s1 b := by
  obtain ⟨k3, k5, k15, k16, k17, k18, k19, k11⟩ := md_kd9 hT hm
  have nv : γ 11 v ≠ γ 9 16 := fun e => by have q := k11 v hv2; rw [e, k16] at q; cases q
  refine h (fun s1 s2 _ e1 => ∀ i : Nat, s2.toInt = (i : Int) → i ≤ 2000 → (∀ q, (i ≤ q ∧ q < 2000 ∧ egS γ s1 v q = true → (cB (e1 (γ 9 16))) q = (cB (s1 (γ 9 16))) q - 1) ∧ (¬ (i ≤ q ∧ q < 2000 ∧ egS γ s1 v q = true) → (cB (e1 (γ 9 16))) q = (cB (s1 (γ 9 16))) q)) ∧ ∀ b, b ≠ γ 9 16 → e1 b = s1 b) ?_ ?_ ?_
  · intro F_2 l4_2 h1 h2 h3 h4 h5 h6 h7 h8 h9
    intro i hi hi2
    exact ⟨fun q => ⟨fun z => by omega, fun _ => rfl⟩, fun _ _ => rfl⟩
  · intro F_2 l4_2 x1 x2 x3 k e1 h1 h2 h3 h4 h5 h6 h7 h8 h9 h10 h11 h12 h13 h14 ih
    intro i hi hi2
    have hi3 : i < 2000 := by omega
    have ev : l3_1.toInt.toNat = v := by rw [hv]; rfl
    rw [ev] at h11
    rw [h11] at h12
    have hb := ha_tr (by omega) h13
    rw [show l4_2.toInt.toNat = i by rw [hi]; rfl] at hb
    have eb : egS γ F_2 v i = rbt x2 i := by unfold egS; rw [h12]; rfl
    rcases hb with ⟨-, hb⟩ | ⟨hb, -⟩
    case inr => exact absurd hb (by decide)
    obtain ⟨r1, r2⟩ := ih (i + 1) (by omega) (by omega)
    refine ⟨fun q => ⟨fun z => ?_, fun z => ?_⟩, r2⟩
    · refine (r1 q).1 ⟨?_, z.2⟩
      by_cases e : q = i
      · have y := z.2.2
        rw [e, eb, hb] at y; cases y
      · omega
    · exact (r1 q).2 (fun y => z ⟨by omega, y.2⟩)
  · intro F_2 l4_2 x1 x2 x3 x4 x5 x6 x7 x8 k e1 h1 h2 h3 h4 h5 h6 h7 h8 h9 h10 h11 h12 h13 h14 h15 h16 h17 h18 h19 h20 h21 ih
    intro i hi hi2
    have hi3 : i < 2000 := by omega
    have ev : l3_1.toInt.toNat = v := by rw [hv]; rfl
    rw [ev] at h11
    rw [h11] at h12
    have hb := ha_tr (by omega) h13
    rw [show l4_2.toInt.toNat = i by rw [hi]; rfl] at hb
    have eb : egS γ F_2 v i = rbt x2 i := by unfold egS; rw [h12]; rfl
    rcases hb with ⟨hb, -⟩ | ⟨-, hb⟩
    case inl => exact absurd hb (by decide)
    rw [nnE hi] at h16 h18
    have c7 : (cB (x7 (γ 9 16))) = x6 := cB_of h20
    have c2 : (cB (F_2 (γ 9 16))) = x3 := cB_of h15
    have ee : ∀ q, egS γ x7 v q = egS γ F_2 v q := fun q => by unfold egS; rw [h19 _ nv]
    obtain ⟨r1, r2⟩ := ih (i + 1) (by omega) (by omega)
    refine ⟨fun q => ?_, fun b hb => (r2 b hb).trans (h19 b hb)⟩
    obtain ⟨p1, p2⟩ := r1 q
    rw [c7, ee] at p1 p2
    rw [c2]
    by_cases e : q = i
    · refine ⟨fun _ => ?_, fun y => absurd ⟨by omega, by omega, by rw [e, eb]; exact hb⟩ y⟩
      rw [p2 (fun y => by omega), h18, e, updE, h17, h16]
    · refine ⟨fun y => ?_, fun y => ?_⟩
      · rw [p1 ⟨by omega, y.2⟩, h18, updN e]
      · rw [p2 (fun x => y ⟨by omega, x.2⟩), h18, updN e]
theorem rc70_tl {a1 : Int32} {s1 : Nat → va_E} {s2 : Int32} {s3 : Int32} {k : Nat} {e1 : Int32} {e2 : Nat → va_E} (hT : RS D I P F γ el) (hm : γ 0 q0 = 10) (h : tl_RModel_colours_70 D I γ el P F q0 a1 s1 s2 s3 k e1 e2) : ∀ (T : Nat → Prop) (m : Nat), s3.toInt = (m : Int) → (∀ n k, n < 2000 → k < 2000 → (egS γ s1 n k = true ↔ JJ Q n k)) → (∀ v, (rSd (cB (s1 (γ 9 18)))) v ↔ T v) → ((s2.toInt < 0 ∧ ∀ v, ¬ T v) ∨ ∃ v : Nat, s2.toInt = (v : Int) ∧ T v ∧ isNx T (cB (s1 (γ 9 5))) (cB (s1 (γ 9 16))) a1.toInt v) → ∃ (n : Nat) (p : Nat → Nat), TA (JJ Q) (cB (s1 (γ 9 5))) a1.toInt n T (cB (s1 (γ 9 16))) p ∧ e1.toInt = ((m + n : Nat) : Int) ∧ (∀ i, i < m → (cB (e2 (γ 9 15))) i = (cB (s1 (γ 9 15))) i) ∧ (∀ i, i < n → ((cB (e2 (γ 9 15))) (m + i)).toInt = (p i : Int) ∧ p i < 2000) ∧ ∀ b, b ≠ γ 9 15 → b ≠ γ 9 16 → b ≠ γ 9 18 → e2 b = s1 b := by
  obtain ⟨k3, k5, k15, k16, k17, k18, k19, k11⟩ := md_kd9 hT hm
  have n1 : γ 9 16 ≠ γ 9 18 := fun e => (by rw [e, k18] at k16; exact absurd k16 (by decide))
  have n2 : γ 9 15 ≠ γ 9 18 := fun e => (by rw [e, k18] at k15; exact absurd k15 (by decide))
  have n3 : γ 9 15 ≠ γ 9 16 := fun e => (by rw [e, k16] at k15; exact absurd k15 (by decide))
  have n4 : γ 9 5 ≠ γ 9 15 ∧ γ 9 5 ≠ γ 9 16 ∧ γ 9 5 ≠ γ 9 18 := ⟨fun e => (by rw [e, k15] at k5; exact absurd k5 (by decide)), fun e => (by rw [e, k16] at k5; exact absurd k5 (by decide)), fun e => (by rw [e, k18] at k5; exact absurd k5 (by decide))⟩
  have n7 : ∀ v, v < 2000 → γ 11 v ≠ γ 9 15 ∧ γ 11 v ≠ γ 9 16 ∧ γ 11 v ≠ γ 9 18 := fun v hv => by
    have q := k11 v hv
    exact ⟨fun e => (by rw [e, k15] at q; exact absurd q (by decide)), fun e => (by rw [e, k16] at q; exact absurd q (by decide)), fun e => (by rw [e, k18] at q; exact absurd q (by decide))⟩
  refine h (fun s1 s2 s3 _ e1 e2 => ∀ (T : Nat → Prop) (m : Nat), s3.toInt = (m : Int) → (∀ n k, n < 2000 → k < 2000 → (egS γ s1 n k = true ↔ JJ Q n k)) → (∀ v, (rSd (cB (s1 (γ 9 18)))) v ↔ T v) → ((s2.toInt < 0 ∧ ∀ v, ¬ T v) ∨ ∃ v : Nat, s2.toInt = (v : Int) ∧ T v ∧ isNx T (cB (s1 (γ 9 5))) (cB (s1 (γ 9 16))) a1.toInt v) → ∃ (n : Nat) (p : Nat → Nat), TA (JJ Q) (cB (s1 (γ 9 5))) a1.toInt n T (cB (s1 (γ 9 16))) p ∧ e1.toInt = ((m + n : Nat) : Int) ∧ (∀ i, i < m → (cB (e2 (γ 9 15))) i = (cB (s1 (γ 9 15))) i) ∧ (∀ i, i < n → ((cB (e2 (γ 9 15))) (m + i)).toInt = (p i : Int) ∧ p i < 2000) ∧ ∀ b, b ≠ γ 9 15 → b ≠ γ 9 16 → b ≠ γ 9 18 → e2 b = s1 b) ?_ ?_
  · intro F_1 l3_1 l2_1 h1 h2 h3 h4 h5 h6 h7 h8 h9 h10 h11
    intro T m hm2 hG hTT hn
    rcases hn with ⟨-, hn⟩ | ⟨v, hn, -⟩
    · exact ⟨0, fun _ => 0, hn, by omega, fun _ _ => rfl, fun i hi => absurd hi (Nat.not_lt_zero i), fun _ _ _ _ => rfl⟩
    · omega
  · intro F_1 l3_1 l2_1 x1 x2 x3 x4 x5 x6 x7 x8 x9 k e1 e2 h1 h2 h3 h4 h5 h6 h7 h8 h9 h10 h11 h12 h13 h14 h15 h16 h17 h18 h19 h20 h21 h22 h23 h24 h25 h26 h27 ih
    intro T m hm2 hG hTT hn
    rcases hn with ⟨hn, -⟩ | ⟨v, hn, hn2, hn3⟩
    · omega
    have v2 : v < 2000 := ((hTT v).mpr hn2).1
    have em := nnE hm2
    have ev := nnE hn
    rw [em] at h14
    rw [ev] at h20
    have f3 := h15
    have f7 := h21
    have c15 : (cB (F_1 (γ 9 15))) = x1 := cB_of h13
    have d15 : (cB (x7 (γ 9 15))) = x2 := by rw [f7 _ n2]; exact cB_of h16
    have c18 : cB (F_1 (γ 9 18)) = x5 := by rw [← f3 _ n2.symm]; exact cB_of h19
    have d18 : cB (x7 (γ 9 18)) = x6 := cB_of h22
    have d16 : (cB (x7 (γ 9 16))) = (cB (F_1 (γ 9 16))) := by rw [f7 _ n1, f3 _ n3.symm]
    have d5 : (cB (x7 (γ 9 5))) = (cB (F_1 (γ 9 5))) := by rw [f7 _ n4.2.2, f3 _ n4.1]
    have dE : ∀ n k, n < 2000 → egS γ x7 n k = egS γ F_1 n k := fun n k hn => by unfold egS; rw [f7 _ (n7 n hn).2.2, f3 _ (n7 n hn).1]
    obtain ⟨l1, l2⟩ := rc94_tl hT hm hn v2 h23 0 (by decide) (Nat.zero_le _)
    have e18 : cB (x8 (γ 9 18)) = x6 := by rw [l2 _ n1.symm]; exact d18
    have e15 : (cB (x8 (γ 9 15))) = x2 := by rw [l2 _ n3]; exact d15
    have e5 : (cB (x8 (γ 9 5))) = (cB (F_1 (γ 9 5))) := by rw [l2 _ n4.2.1]; exact d5
    have eE : ∀ n k, n < 2000 → egS γ x8 n k = egS γ F_1 n k := fun n k hn => by
      rw [← dE n k hn]
      unfold egS
      rw [l2 _ (n7 n hn).2.1]
    have nz : (vp_nar .boolean 0).toInt = 0 := by decide
    have th : ∀ u, (rSd (cB (x8 (γ 9 18)))) u ↔ (T u ∧ u ≠ v) := fun u => by
      rw [e18, ← hTT u, c18, h20]
      by_cases e : u = v
      · rw [e]
        refine ⟨fun z => ?_, fun z => absurd rfl z.2⟩
        have y := z.2
        rw [updE, nz] at y; cases y
      · refine ⟨fun z => ⟨⟨z.1, ?_⟩, e⟩, fun z => ⟨z.1.1, ?_⟩⟩
        · have y := z.2
          rw [updN e] at y; exact y
        · rw [updN e]; exact z.1.2
    have lf' : ∀ u, (T u ∧ u ≠ v) → (cB (F_1 (γ 9 5))) u = (cB (F_1 (γ 9 5))) u ∧ (cB (x8 (γ 9 16))) u = lfD (JJ Q) (cB (F_1 (γ 9 16))) v u := fun u hu => by
      refine ⟨rfl, ?_⟩
      have u2 : u < 2000 := ((hTT u).mpr hu.1).1
      obtain ⟨a1, a2⟩ := l1 u
      rw [d16, dE v u v2] at a1 a2
      have g := hG v u v2 u2
      unfold lfD
      by_cases c : JJ Q v u
      · rw [if_pos c]; exact a1 ⟨Nat.zero_le _, u2, g.mpr c⟩
      · rw [if_neg c]; exact a2 (fun z => c (g.mp z.2.2))
    have nx := rnx_tr h27
    have eT : (rSd (cB (x8 (γ 9 18)))) = (fun u => T u ∧ u ≠ v) := funext (fun u => propext (th u))
    rw [eT, e5] at nx
    obtain ⟨n, p, r1, r2, r3, r4, r5⟩ := ih (fun u => T u ∧ u ≠ v) (m + 1) (by omega) (fun a c ha hc => by rw [eE a c ha]; exact hG a c ha hc) (fun u => th u) (by rw [e5]; exact nx)
    rw [e5] at r1
    refine ⟨n + 1, fun l => if l = 0 then v else p (l - 1), ⟨hn2, hn3, TA_c lf' r1⟩, by omega, fun l hl => ?_, fun l hl => ?_, fun b b1 b2 b3 => ?_⟩
    · rw [r3 l (by omega), e15, c15, h14, updN (by omega)]
    · by_cases c : l = 0
      · rw [c]
        dsimp only
        rw [if_pos rfl, Nat.add_zero, r3 m (Nat.lt_succ_self m), e15, h14, updE]
        exact ⟨hn, v2⟩
      · dsimp only
        rw [if_neg c]
        have r := r4 (l - 1) (by omega)
        rw [show m + 1 + (l - 1) = m + l by omega] at r
        exact r
    · rw [r5 b b1 b2 b3, l2 b b2, f7 b b3, f3 b b1]
theorem rc165_tl {F_1 : Nat → va_E} {c1 : Int32} {s1 : Int32} {s2 : Int64} {k : Nat} {e1 : Int64} {v : Nat} (hv : c1.toInt = (v : Int)) (h : tl_RModel_colours_165 D I γ el F_1 q0 c1 s1 s2 k e1) : ∀ i : Nat, s1.toInt = (i : Int) → i ≤ 2000 → ∀ c : Nat, c < 64 → (e1.toBitVec.getLsbD c = true ↔ s2.toBitVec.getLsbD c = true ∨ ∃ u, (i ≤ u ∧ u < 2000 ∧ egS γ F_1 v u = true) ∧ ((cB (F_1 (γ 9 17))) u).toInt = (c : Int)) := by
  refine h (fun s1 s2 _ e1 => ∀ i : Nat, s1.toInt = (i : Int) → i ≤ 2000 → ∀ c : Nat, c < 64 → (e1.toBitVec.getLsbD c = true ↔ s2.toBitVec.getLsbD c = true ∨ ∃ u, (i ≤ u ∧ u < 2000 ∧ egS γ F_1 v u = true) ∧ ((cB (F_1 (γ 9 17))) u).toInt = (c : Int))) ?_ ?_ ?_ ?_
  · intro l7_2 l5_2 h1 h2 h3
    intro i hi hi2 c hc
    exact ⟨Or.inl, fun z => z.elim id (fun ⟨u, y, _⟩ => by omega)⟩
  · intro l7_2 l5_2 x1 x2 x3 k e1 h1 h2 h3 h4 h5 h6 h7 h8 h9 ih
    intro i hi hi2 c hc
    have hi3 : i < 2000 := by omega
    have cc : (cB (F_1 (γ 9 17))) = x1 := cB_of h5
    rw [nnE hi] at h6
    rw [ih (i + 1) (by omega) (by omega) c hc]
    refine ⟨fun z => z.imp id (fun ⟨u, y, x⟩ => ⟨u, ⟨by omega, y.2⟩, x⟩), fun z => z.imp id (fun ⟨u, y, x⟩ => ⟨u, ⟨?_, y.2⟩, x⟩)⟩
    by_cases e : u = i
    · rw [e, cc, ← h6] at x; omega
    · omega
  · intro l7_2 l5_2 x1 x2 x3 x4 x5 k e1 h1 h2 h3 h4 h5 h6 h7 h8 h9 h10 h11 h12 h13 ih
    intro i hi hi2 c hc
    have hi3 : i < 2000 := by omega
    have cc : (cB (F_1 (γ 9 17))) = x1 := cB_of h5
    rw [nnE hi] at h6
    rw [show c1.toInt.toNat = v by rw [hv]; rfl] at h10
    rw [h10] at h11
    have hb := ha_tr (by omega) h12
    rw [show l7_2.toInt.toNat = i by rw [hi]; rfl] at hb
    have eb : egS γ F_1 v i = rbt x4 i := by unfold egS; rw [h11]; rfl
    rcases hb with ⟨-, hb⟩ | ⟨hb, -⟩
    case inr => exact absurd hb (by decide)
    rw [ih (i + 1) (by omega) (by omega) c hc]
    refine ⟨fun z => z.imp id (fun ⟨u, y, x⟩ => ⟨u, ⟨by omega, y.2⟩, x⟩), fun z => z.imp id (fun ⟨u, y, x⟩ => ⟨u, ⟨?_, y.2⟩, x⟩)⟩
    by_cases e : u = i
    · have w := y.2.2
      rw [e, eb, hb] at w; cases w
    · omega
  · intro l7_2 l5_2 x1 x2 x3 x4 x5 x6 x7 k e1 h1 h2 h3 h4 h5 h6 h7 h8 h9 h10 h11 h12 h13 h14 h15 ih
    intro i hi hi2 c hc
    have hi3 : i < 2000 := by omega
    have cc : (cB (F_1 (γ 9 17))) = x1 := cB_of h5
    rw [nnE hi] at h6
    rw [show c1.toInt.toNat = v by rw [hv]; rfl] at h10
    rw [h10] at h11
    have hb := ha_tr (by omega) h12
    rw [show l7_2.toInt.toNat = i by rw [hi]; rfl] at hb
    have eb : egS γ F_1 v i = rbt x4 i := by unfold egS; rw [h11]; rfl
    rcases hb with ⟨hb, -⟩ | ⟨-, hb⟩
    case inl => exact absurd hb (by decide)
    have b2 := h7.2
    have em : x2.toInt = ((x2.toInt.toNat : Nat) : Int) := (Int.toNat_of_nonneg (by omega)).symm
    rw [ih (i + 1) (by omega) (by omega) c hc, bit_or h14, Bool.or_eq_true, lb_shlM h13 em c hc, decide_eq_true_iff]
    constructor
    · rintro ((k | k) | ⟨u, y, x⟩)
      · exact Or.inl k
      · exact Or.inr ⟨i, ⟨Nat.le_refl _, hi3, by rw [eb]; exact hb⟩, by rw [cc, ← h6]; omega⟩
      · exact Or.inr ⟨u, ⟨by omega, y.2⟩, x⟩
    · rintro (k | ⟨u, y, x⟩)
      · exact Or.inl (Or.inl k)
      · by_cases e : u = i
        · rw [e, cc, ← h6] at x
          exact Or.inl (Or.inr (by omega))
        · exact Or.inr ⟨u, ⟨by omega, y.2⟩, x⟩
theorem rc144_tl {a1 : Int32} {s1 : Nat → va_E} {s2 : Int32} {s3 : Int32} {k : Nat} {e1 : Int32} {e2 : Nat → va_E} {n : Nat} {p : Nat → Nat} (hT : RS D I P F γ el) (hm : γ 0 q0 = 10) (hk : 0 ≤ a1.toInt) (hk2 : a1.toInt ≤ 32) (h : tl_RModel_colours_144 D I γ el P F q0 a1 s1 s2 s3 k e1 e2) : ∀ t : Nat, t ≤ n → s3.toInt = (n : Int) - (t : Int) → (∀ n k, n < 2000 → k < 2000 → (egS γ s1 n k = true ↔ JJ Q n k)) → (∀ i, i < n → ((cB (s1 (γ 9 15))) i).toInt = (p i : Int) ∧ p i < 2000) → (∀ u, u < 2000 → ((cB (s1 (γ 9 17))) u).toInt = clN (JJ Q) a1.toInt p n t u) → (s2.toInt = 0 ↔ ¬ bdN (JJ Q) a1.toInt p n t) → 0 ≤ s2.toInt → (∀ u, u < 2000 → ((cB (e2 (γ 9 17))) u).toInt = clN (JJ Q) a1.toInt p n n u) ∧ (e1.toInt = 0 ↔ ¬ bdN (JJ Q) a1.toInt p n n) ∧ ∀ b, b ≠ γ 9 17 → e2 b = s1 b := by
  obtain ⟨k3, k5, k15, k16, k17, k18, k19, k11⟩ := md_kd9 hT hm
  have n1 : γ 9 15 ≠ γ 9 17 := fun e => (by rw [e, k17] at k15; exact absurd k15 (by decide))
  have n7 : ∀ v, v < 2000 → γ 11 v ≠ γ 9 17 := fun v hv e => by have q := k11 v hv; rw [e, k17] at q; cases q
  refine h (fun s1 s2 s3 _ e1 e2 => ∀ t : Nat, t ≤ n → s3.toInt = (n : Int) - (t : Int) → (∀ n k, n < 2000 → k < 2000 → (egS γ s1 n k = true ↔ JJ Q n k)) → (∀ i, i < n → ((cB (s1 (γ 9 15))) i).toInt = (p i : Int) ∧ p i < 2000) → (∀ u, u < 2000 → ((cB (s1 (γ 9 17))) u).toInt = clN (JJ Q) a1.toInt p n t u) → (s2.toInt = 0 ↔ ¬ bdN (JJ Q) a1.toInt p n t) → 0 ≤ s2.toInt → (∀ u, u < 2000 → ((cB (e2 (γ 9 17))) u).toInt = clN (JJ Q) a1.toInt p n n u) ∧ (e1.toInt = 0 ↔ ¬ bdN (JJ Q) a1.toInt p n n) ∧ ∀ b, b ≠ γ 9 17 → e2 b = s1 b) ?_ ?_ ?_
  · intro F_1 l3_1 l2_1 h1 h2 h3 h4 h5 h6 h7 h8 h9
    intro t ht hs hG hp hc hb hb0
    have e : t = n := by omega
    rw [e] at hc hb
    exact ⟨hc, hb, fun _ _ => rfl⟩
  · intro F_1 l3_1 l2_1 x1 x2 x3 x4 x5 x6 x7 k e1 e2 h1 h2 h3 h4 h5 h6 h7 h8 h9 h10 h11 h12 h13 h14 h15 h16 h17 h18 h19 ih
    intro t ht hs hG hp hc hb hb0
    have htn : t < n := by omega
    have c15 : (cB (F_1 (γ 9 15))) = x2 := cB_of h12
    have e1 : x1.toNatClampNeg = n - 1 - t := nnE (by omega)
    obtain ⟨p1, p2⟩ := hp (n - 1 - t) (by omega)
    rw [e1] at h13
    rw [c15, ← h13] at p1
    have ca := rc165_tl p1 h15 0 (by decide) (Nat.zero_le _)
    have ca2 : ∀ c : Nat, c < 64 → (x4.toBitVec.getLsbD c = true ↔ ∃ u, JJ Q (p (n - 1 - t)) u ∧ clN (JJ Q) a1.toInt p n t u = (c : Int)) := fun c hc2 => by
      rw [ca c hc2]
      have zz : (0 : Int64).toBitVec.getLsbD c = false := by simp
      rw [zz]
      refine ⟨fun z => z.elim (fun y => (nomatch y)) (fun ⟨u, y, x⟩ => ⟨u, (hG _ u p2 y.2.1).mp y.2.2, by rw [← hc u y.2.1]; exact x⟩), fun ⟨u, y, x⟩ => ?_⟩
      have u2 := (JJ_lt y).2
      exact Or.inr ⟨u, ⟨Nat.zero_le _, u2, (hG _ u p2 u2).mpr y⟩, by rw [hc u u2]; exact x⟩
    obtain ⟨z0, z1, z3, z4⟩ := h17
    have lc : lcl (JJ Q) (clN (JJ Q) a1.toInt p n t) (p (n - 1 - t)) = x6.toInt.toNat := by
      refine lcl_e ⟨fun u k1 k2 => ?_, fun d hd => ?_⟩
      · have q : x4.toBitVec.getLsbD x6.toInt.toNat = true := (ca2 _ (by omega)).mpr ⟨u, k1, k2⟩
        rw [bit_not h16 _ (by omega), q] at z3
        cases z3
      · have q := z4 d hd
        rw [bit_not h16 d (by omega)] at q
        have q2 : x4.toBitVec.getLsbD d = true := by
          cases e : x4.toBitVec.getLsbD d
          · rw [e] at q; cases q
          · rfl
        exact (ca2 d (by omega)).mp q2
    have bs : bdN (JJ Q) a1.toInt p n (t + 1) ↔ bdN (JJ Q) a1.toInt p n t ∨ a1.toInt ≤ x6.toInt := by
      constructor
      · rintro ⟨s, s1, s2⟩
        by_cases e : s = t
        · rw [e, lc] at s2; exact Or.inr (by omega)
        · exact Or.inl ⟨s, by omega, s2⟩
      · rintro (⟨s, s1, s2⟩ | s2)
        · exact ⟨s, by omega, s2⟩
        · exact ⟨t, Nat.lt_succ_self t, by rw [lc]; omega⟩
    have cs : ∀ u, clN (JJ Q) a1.toInt p n (t + 1) u = @ite Int (u = p (n - 1 - t) ∧ (x6.toInt.toNat : Int) < a1.toInt) (Classical.propDecidable _) (x6.toInt.toNat : Int) (clN (JJ Q) a1.toInt p n t u) := fun u => by
      show @ite Int (u = p (n - 1 - t) ∧ (lcl (JJ Q) (clN (JJ Q) a1.toInt p n t) (p (n - 1 - t)) : Int) < a1.toInt) (Classical.propDecidable _) (lcl (JJ Q) (clN (JJ Q) a1.toInt p n t) (p (n - 1 - t)) : Int) (clN (JJ Q) a1.toInt p n t u) = _
      rw [lc]
    exact ih (t + 1) (by omega) (by omega) hG hp (fun u hu => by
      rw [cs u, if_neg (fun y => by omega)]
      exact hc u hu) ⟨fun y => by omega, fun y => absurd (bs.mpr (Or.inr (by omega))) y⟩ (by omega)
  · intro F_1 l3_1 l2_1 x1 x2 x3 x4 x5 x6 x7 x8 x9 k e1 e2 h1 h2 h3 h4 h5 h6 h7 h8 h9 h10 h11 h12 h13 h14 h15 h16 h17 h18 h19 h20 h21 h22 h23 ih
    intro t ht hs hG hp hc hb hb0
    have htn : t < n := by omega
    have c15 : (cB (F_1 (γ 9 15))) = x2 := cB_of h12
    have e1 : x1.toNatClampNeg = n - 1 - t := nnE (by omega)
    obtain ⟨p1, p2⟩ := hp (n - 1 - t) (by omega)
    rw [e1] at h13
    rw [c15, ← h13] at p1
    have ca := rc165_tl p1 h15 0 (by decide) (Nat.zero_le _)
    have ca2 : ∀ c : Nat, c < 64 → (x4.toBitVec.getLsbD c = true ↔ ∃ u, JJ Q (p (n - 1 - t)) u ∧ clN (JJ Q) a1.toInt p n t u = (c : Int)) := fun c hc2 => by
      rw [ca c hc2]
      have zz : (0 : Int64).toBitVec.getLsbD c = false := by simp
      rw [zz]
      refine ⟨fun z => z.elim (fun y => (nomatch y)) (fun ⟨u, y, x⟩ => ⟨u, (hG _ u p2 y.2.1).mp y.2.2, by rw [← hc u y.2.1]; exact x⟩), fun ⟨u, y, x⟩ => ?_⟩
      have u2 := (JJ_lt y).2
      exact Or.inr ⟨u, ⟨Nat.zero_le _, u2, (hG _ u p2 u2).mpr y⟩, by rw [hc u u2]; exact x⟩
    obtain ⟨z0, z1, z3, z4⟩ := h17
    have lc : lcl (JJ Q) (clN (JJ Q) a1.toInt p n t) (p (n - 1 - t)) = x6.toInt.toNat := by
      refine lcl_e ⟨fun u k1 k2 => ?_, fun d hd => ?_⟩
      · have q : x4.toBitVec.getLsbD x6.toInt.toNat = true := (ca2 _ (by omega)).mpr ⟨u, k1, k2⟩
        rw [bit_not h16 _ (by omega), q] at z3
        cases z3
      · have q := z4 d hd
        rw [bit_not h16 d (by omega)] at q
        have q2 : x4.toBitVec.getLsbD d = true := by
          cases e : x4.toBitVec.getLsbD d
          · rw [e] at q; cases q
          · rfl
        exact (ca2 d (by omega)).mp q2
    have bs : bdN (JJ Q) a1.toInt p n (t + 1) ↔ bdN (JJ Q) a1.toInt p n t ∨ a1.toInt ≤ x6.toInt := by
      constructor
      · rintro ⟨s, s1, s2⟩
        by_cases e : s = t
        · rw [e, lc] at s2; exact Or.inr (by omega)
        · exact Or.inl ⟨s, by omega, s2⟩
      · rintro (⟨s, s1, s2⟩ | s2)
        · exact ⟨s, by omega, s2⟩
        · exact ⟨t, Nat.lt_succ_self t, by rw [lc]; omega⟩
    have cs : ∀ u, clN (JJ Q) a1.toInt p n (t + 1) u = @ite Int (u = p (n - 1 - t) ∧ (x6.toInt.toNat : Int) < a1.toInt) (Classical.propDecidable _) (x6.toInt.toNat : Int) (clN (JJ Q) a1.toInt p n t u) := fun u => by
      show @ite Int (u = p (n - 1 - t) ∧ (lcl (JJ Q) (clN (JJ Q) a1.toInt p n t) (p (n - 1 - t)) : Int) < a1.toInt) (Classical.propDecidable _) (lcl (JJ Q) (clN (JJ Q) a1.toInt p n t) (p (n - 1 - t)) : Int) (clN (JJ Q) a1.toInt p n t u) = _
      rw [lc]
    have c9 : (cB (x9 (γ 9 17))) = x8 := cB_of h23
    have c7 : (cB (F_1 (γ 9 17))) = x7 := cB_of h20
    have c5 : (cB (x9 (γ 9 15))) = (cB (F_1 (γ 9 15))) := by rw [h22 _ n1]
    obtain ⟨r1, r2, r3⟩ := ih (t + 1) (by omega) (by omega) (fun a c ha hc2 => by
      have q := hG a c ha hc2
      unfold egS at q ⊢
      rw [h22 _ (n7 a ha)]; exact q) (by rw [c5]; exact hp) (fun u hu => by
      rw [cs u, c9, h21, nnE p1]
      by_cases c : u = p (n - 1 - t)
      · rw [if_pos ⟨c, by omega⟩, c, updE]; omega
      · rw [if_neg (fun y => c y.1), updN c, ← c7]; exact hc u hu) (hb.trans ⟨fun y w => y ((bs.mp w).elim id (fun e => by omega)), fun y w => y (bs.mpr (Or.inl w))⟩) hb0
    exact ⟨r1, r2, fun b hb1 => (r3 b hb1).trans (h22 b hb1)⟩
theorem lb_W_hi {f : Nat → Int64} {y : Nat} (h : lb_W f 32 32 2000) (hy : 2000 ≤ y) (hy2 : y < 64 * 32) : ¬ gbit f y = true := fun z => by
  have q := h (y / 64) (by omega) (y % 64) (Nat.mod_lt _ (by decide)) z
  have e : ((y / 64 : Nat) : Int) % 32 = 31 := by omega
  omega
theorem hi0 {F1 : Nat → va_E} (hT : RS D I P F γ el) (hm : γ 0 q0 = 10) (v y : Nat) (hv : v < 2000) (hy : 2000 ≤ y) (hy2 : y < 64 * 32) (e : F1 (γ 11 v) = F (γ 11 v)) : ¬ gbit (cL (F1 (γ 11 v))) y = true := by
  obtain ⟨-, -, -, -, -, -, -, k11⟩ := md_kd9 hT hm
  obtain ⟨f, h1, h2⟩ := show rk_36 I (F (γ 11 v)) from RS_o hT (k11 v hv)
  rw [e, h1]
  intro z
  exact absurd z (by rw [show gbit (cL (.inl (I .long, 32, .inr (.inl f)))) y = gbit f y from rfl]; exact lb_W_hi h2 hy hy2)
theorem rco_tr {a1 : Int32} {o1 : Int32} {o2 : Nat → va_E} (hT : RS D I P F γ el) (hm : γ 0 q0 = 10) (hk : 0 ≤ a1.toInt) (hk2 : a1.toInt ≤ 32) (hG : (∀ n k, n < 2000 → k < 2000 → (egS γ F n k = true ↔ JJ Q n k))) (hS : ∀ v, rSd (cB (F (γ 9 3))) v ↔ Sd Q false 2000 v) (h : tr_RModel_colours D I γ el P F q0 a1 o1 o2) : ∃ (n : Nat) (p : Nat → Nat), TA (JJ Q) (cB (F (γ 9 5))) a1.toInt n (Sd Q false 2000) (dgc Q) p ∧ (∀ u, u < 2000 → ((cB (o2 (γ 9 17))) u).toInt = clN (JJ Q) a1.toInt p n n u) ∧ (o1.toInt = 0 ↔ ¬ bdN (JJ Q) a1.toInt p n n) ∧ ∀ b, b ≠ γ 9 15 → b ≠ γ 9 16 → b ≠ γ 9 17 → b ≠ γ 9 18 → o2 b = F b := by
  obtain ⟨k3, k5, k15, k16, k17, k18, k19, k11⟩ := md_kd9 hT hm
  refine h (fun o1 o2 => ∃ (n : Nat) (p : Nat → Nat), TA (JJ Q) (cB (F (γ 9 5))) a1.toInt n (Sd Q false 2000) (dgc Q) p ∧ (∀ u, u < 2000 → ((cB (o2 (γ 9 17))) u).toInt = clN (JJ Q) a1.toInt p n n u) ∧ (o1.toInt = 0 ↔ ¬ bdN (JJ Q) a1.toInt p n n) ∧ ∀ b, b ≠ γ 9 15 → b ≠ γ 9 16 → b ≠ γ 9 17 → b ≠ γ 9 18 → o2 b = F b) ?_
  · intro x1 x2 x3 x4 x5 x6 h1 h2 h3 h4 h5 h6 h7
    have n4 : γ 9 5 ≠ γ 9 16 ∧ γ 9 5 ≠ γ 9 17 ∧ γ 9 5 ≠ γ 9 18 := ⟨fun e => (by rw [e, k16] at k5; exact absurd k5 (by decide)), fun e => (by rw [e, k17] at k5; exact absurd k5 (by decide)), fun e => (by rw [e, k18] at k5; exact absurd k5 (by decide))⟩
    have n3 : γ 9 3 ≠ γ 9 16 ∧ γ 9 3 ≠ γ 9 17 ∧ γ 9 3 ≠ γ 9 18 := ⟨fun e => (by rw [e, k16] at k3; exact absurd k3 (by decide)), fun e => (by rw [e, k17] at k3; exact absurd k3 (by decide)), fun e => (by rw [e, k18] at k3; exact absurd k3 (by decide))⟩
    have n7 : ∀ v, v < 2000 → γ 11 v ≠ γ 9 15 ∧ γ 11 v ≠ γ 9 16 ∧ γ 11 v ≠ γ 9 17 ∧ γ 11 v ≠ γ 9 18 := fun v hv => by
      have q := k11 v hv
      exact ⟨fun e => (by rw [e, k15] at q; exact absurd q (by decide)), fun e => (by rw [e, k16] at q; exact absurd q (by decide)), fun e => (by rw [e, k17] at q; exact absurd q (by decide)), fun e => (by rw [e, k18] at q; exact absurd q (by decide))⟩
    obtain ⟨a1', a2'⟩ := rc2_tl hT hm h1 0 (by decide) (Nat.zero_le _) (fun v hv => absurd hv (Nat.not_lt_zero v))
    have ew : (cB (x1 (γ 9 5))) = (cB (F (γ 9 5))) := by rw [a2' _ n4.1 n4.2.1 n4.2.2]
    have es : (cB (x1 (γ 9 3))) = (cB (F (γ 9 3))) := by rw [a2' _ n3.1 n3.2.1 n3.2.2]
    have th : ∀ v, (rSd (cB (x1 (γ 9 18)))) v ↔ Sd Q false 2000 v := fun v => by
      rw [← hS v, ← es]
      by_cases c : v < 2000
      · exact (a1' v c).1
      · exact ⟨fun z => absurd z.1 c, fun z => absurd z.1 c⟩
    have G1 : (∀ n k, n < 2000 → k < 2000 → (egS γ x1 n k = true ↔ JJ Q n k)) := fun a c ha hc => by
      have q := hG a c ha hc
      unfold egS at q ⊢
      rw [a2' _ (n7 a ha).2.1 (n7 a ha).2.2.1 (n7 a ha).2.2.2]; exact q
    have lf1 : ∀ v, Sd Q false 2000 v → (cB (F (γ 9 5))) v = (cB (F (γ 9 5))) v ∧ (cB (x1 (γ 9 16))) v = dgc Q v := fun v hv => by
      have v2 := hv.1
      refine ⟨rfl, dgc_e ⟨cL (x1 (γ 11 v)), 0, fun y hy => ?_, ?_⟩⟩
      · by_cases c : y < 2000
        · rw [← G1 v y v2 c]
          unfold egS rbt gbit
          rw [Nat.mul_zero, Nat.zero_add]
        · refine ⟨fun z => ?_, fun z => absurd (JJ_lt z).2 c⟩
          exact absurd z (by rw [Nat.mul_zero, Nat.zero_add]; exact hi0 hT hm v y v2 (by omega) hy (by rw [a2' _ (n7 v v2).2.1 (n7 v v2).2.2.1 (n7 v v2).2.2.2]))
      · exact (a1' v v2).2.1 (by rw [es]; exact (hS v).mpr hv)
    have nx := rnx_tr h5
    have eT : (rSd (cB (x1 (γ 9 18)))) = Sd Q false 2000 := funext (fun v => propext (th v))
    rw [eT] at nx
    obtain ⟨n, p, r1, r2, -, r4, r5⟩ := rc70_tl hT hm h6 (Sd Q false 2000) 0 (by decide) G1 th nx
    rw [ew] at r1
    have G2 : (∀ n k, n < 2000 → k < 2000 → (egS γ x4 n k = true ↔ JJ Q n k)) := fun a c ha hc => by
      have q := G1 a c ha hc
      unfold egS at q ⊢
      rw [r5 _ (n7 a ha).1 (n7 a ha).2.1 (n7 a ha).2.2.2]; exact q
    have n5 : γ 9 17 ≠ γ 9 15 ∧ γ 9 17 ≠ γ 9 16 ∧ γ 9 17 ≠ γ 9 18 := ⟨fun e => (by rw [e, k15] at k17; exact absurd k17 (by decide)), fun e => (by rw [e, k16] at k17; exact absurd k17 (by decide)), fun e => (by rw [e, k18] at k17; exact absurd k17 (by decide))⟩
    obtain ⟨s1, s2, s3⟩ := rc144_tl (Q := Q) (p := p) (n := n) hT hm hk hk2 h7 0 (Nat.zero_le _) (by omega) G2 (fun i hi => by
      have r := r4 i hi
      rw [Nat.zero_add] at r
      exact r) (fun u hu => by rw [r5 _ n5.1 n5.2.1 n5.2.2]; exact (a1' u hu).2.2) ⟨fun _ z => z.elim (fun s y => absurd y.1 (Nat.not_lt_zero s)), fun _ => by decide⟩ (by decide)
    exact ⟨n, p, TA_c lf1 r1, s1, s2, fun b b1 b2 b3 b4 => by rw [s3 b b3, r5 b b1 b2 b4, a2' b b2 b3 b4]⟩
end NXR
