section MER
variable {D : va_G} {I : FieldType → ClassId} {P : List Nat} {F : Nat → va_E} {γ0 el0 : Nat → Nat → Nat} {f b c : Nat} {Q : gPg}
theorem me20_tl {c1 : Nat} {c2 : Nat → Nat → Nat} {c3 : Nat → Nat → Nat} {q0 : Nat} {a2 : Int32} {s1 : Int32} {k : Nat} {e1 : Nat} {e2 : Int32} (hT : RS D I P F c2 c3) (hm : c2 0 q0 = 10) (hc : c2 0 c = 9) (hcf : c2 1 c = f) (hQ6 : c2 6 f = Q.1) (hq : rfX c2 c3 F c Q) (hO : qOk Q) (hG : ∀ n k, n < 2000 → k < 2000 → (egS c2 F n k = true ↔ JJ Q n k)) (hb : b < Q.1) (hc1 : c1 = c3 (c2 14 c) b) (h : tl_RModel_merge_20 D I γ0 el0 f F c1 c2 c3 q0 a2 s1 k e1 e2) : ∀ j : Nat, s1.toInt = (j : Int) → (k = 172 → ∀ i, j ≤ i → ¬ mgb Q a2.toInt b i) ∧ (k = 98 → ∃ i : Nat, e2.toInt = (i : Int) ∧ mgb Q a2.toInt b i ∧ e1 = rAt c2 c3 c b i ∧ ∀ i2, mgb Q a2.toInt b i2 → j ≤ i2 → i ≤ i2) := by
  have hB := hB2_ hT hc hcf hQ6 b hb
  rw [← hc1] at hB
  obtain ⟨ll, nn, pp, ss, v1, ⟨g1, g2, g3⟩, v3, v4, v5, -⟩ := show rk_2 c2 c1 (F c1) from RS_o hT hB
  have m : c2 2 (rwL c2 c3 c b) + 1 = Q.2.1 b := (hq.2.1 b hb).1
  have stp : ∀ {j k : Nat} {e1 : Nat} {e2 : Int32}, ¬ mgb Q a2.toInt b j → ((k = 172 → ∀ i, j + 1 ≤ i → ¬ mgb Q a2.toInt b i) ∧ (k = 98 → ∃ i : Nat, e2.toInt = (i : Int) ∧ mgb Q a2.toInt b i ∧ e1 = rAt c2 c3 c b i ∧ ∀ i2, mgb Q a2.toInt b i2 → j + 1 ≤ i2 → i ≤ i2)) → ((k = 172 → ∀ i, j ≤ i → ¬ mgb Q a2.toInt b i) ∧ (k = 98 → ∃ i : Nat, e2.toInt = (i : Int) ∧ mgb Q a2.toInt b i ∧ e1 = rAt c2 c3 c b i ∧ ∀ i2, mgb Q a2.toInt b i2 → j ≤ i2 → i ≤ i2)) := fun {j k e1 e2} hn h1 => by
    refine ⟨fun z i hi hm => ?_, fun z => ?_⟩
    · by_cases e : i = j
      · rw [e] at hm; exact hn hm
      · exact h1.1 z i (by omega) hm
    · obtain ⟨i, q1, q2, q3, q4⟩ := h1.2 z
      refine ⟨i, q1, q2, q3, fun i2 hm2 hi2 => ?_⟩
      by_cases e : i2 = j
      · rw [e] at hm2; exact absurd hm2 hn
      · exact q4 i2 hm2 (by omega)
  refine h (fun s1 k e1 e2 => ∀ j : Nat, s1.toInt = (j : Int) → (k = 172 → ∀ i, j ≤ i → ¬ mgb Q a2.toInt b i) ∧ (k = 98 → ∃ i : Nat, e2.toInt = (i : Int) ∧ mgb Q a2.toInt b i ∧ e1 = rAt c2 c3 c b i ∧ ∀ i2, mgb Q a2.toInt b i2 → j ≤ i2 → i ≤ i2)) ?_ ?_ ?_ ?_ ?_ ?_
  · intro l5_2 x1 x2 h1 h2 h3 h4 h5
    intro j hj
    have ex1 : x1 = rwL c2 c3 c b := by
      rw [← h2, v1]
      show ll = c2 14 (c3 (c2 14 c) b)
      rw [← hc1, g1]
    rw [ex1] at h3
    exact ⟨fun _ i hi hm2 => by have := mg_lt hO hm2; omega, fun z => (nomatch z)⟩
  · intro l5_2 x1 x2 x3 x4 x5 k e1 e2 h1 h2 h3 h4 h5 h6 h7 h8 h9 h10 ih
    intro j hj
    have ex1 : x1 = rwL c2 c3 c b := by
      rw [← h2, v1]
      show ll = c2 14 (c3 (c2 14 c) b)
      rw [← hc1, g1]
    rw [ex1] at h3
    have jl : j < c2 2 (rwL c2 c3 c b) := by omega
    have e3 : x3 = rAt c2 c3 c b j := by
      rw [h6, ex1, show l5_2.toInt.toNat = j by rw [hj]; rfl]
      exact (if_pos jl).symm
    have hl := hq.2.2 b hb j (Nat.le_of_lt jl)
    rw [← e3] at hl
    unfold lnQ lnX rwB at hl
    rw [if_pos (decide_eq_true (by omega))] at hl
    have hw : rwO2 (Q.2.2.1 b j) := (hO.2 b hb).2.1 j (by omega)
    have k3 := (rAt_k (j := j) hT hc hcf (show b < c2 6 f by omega)).1
    rw [← e3] at k3
    have bA : (fI (F x3) 5).toInt = 0 ∨ (fI (F x3) 5).toInt = 1 := by
      obtain ⟨op, t', a, b', s', ra, rb, he, r1, r2, r3, r4, r5, -⟩ := show rk_1 c2 x3 (F x3) from RS_o hT k3
      have r41 := r4.1
      have r42 := r4.2
      rw [he]
      show ra.toInt = 0 ∨ ra.toInt = 1
      omega
    obtain ⟨w1, w2⟩ := mg_row hw hl bA
    rw [h8] at w1
    exact stp (fun hm2 => h9 (w1.mpr hm2.2.2.1)) (ih (j + 1) (by omega))
  · intro l5_2 x1 x2 x3 x4 x5 x6 k e1 e2 h1 h2 h3 h4 h5 h6 h7 h8 h9 h10 h11 h12 ih
    intro j hj
    have ex1 : x1 = rwL c2 c3 c b := by
      rw [← h2, v1]
      show ll = c2 14 (c3 (c2 14 c) b)
      rw [← hc1, g1]
    rw [ex1] at h3
    have jl : j < c2 2 (rwL c2 c3 c b) := by omega
    have e3 : x3 = rAt c2 c3 c b j := by
      rw [h6, ex1, show l5_2.toInt.toNat = j by rw [hj]; rfl]
      exact (if_pos jl).symm
    have hl := hq.2.2 b hb j (Nat.le_of_lt jl)
    rw [← e3] at hl
    unfold lnQ lnX rwB at hl
    rw [if_pos (decide_eq_true (by omega))] at hl
    have hw : rwO2 (Q.2.2.1 b j) := (hO.2 b hb).2.1 j (by omega)
    have k3 := (rAt_k (j := j) hT hc hcf (show b < c2 6 f by omega)).1
    rw [← e3] at k3
    have bA : (fI (F x3) 5).toInt = 0 ∨ (fI (F x3) 5).toInt = 1 := by
      obtain ⟨op, t', a, b', s', ra, rb, he, r1, r2, r3, r4, r5, -⟩ := show rk_1 c2 x3 (F x3) from RS_o hT k3
      have r41 := r4.1
      have r42 := r4.2
      rw [he]
      show ra.toInt = 0 ∨ ra.toInt = 1
      omega
    obtain ⟨w1, w2⟩ := mg_row hw hl bA
    rw [h8] at w1
    have l14 := w1.mp h9
    obtain ⟨w3, w4⟩ := w2 l14
    rw [h10] at w4
    exact stp (fun hm2 => by have := hm2.2.2.2.2.1; omega) (ih (j + 1) (by omega))
  · intro l5_2 x1 x2 x3 x4 x5 x6 x7 h1 h2 h3 h4 h5 h6 h7 h8 h9 h10 h11 h12 h13 h14
    intro j hj
    have ex1 : x1 = rwL c2 c3 c b := by
      rw [← h2, v1]
      show ll = c2 14 (c3 (c2 14 c) b)
      rw [← hc1, g1]
    rw [ex1] at h3
    have jl : j < c2 2 (rwL c2 c3 c b) := by omega
    have e3 : x3 = rAt c2 c3 c b j := by
      rw [h6, ex1, show l5_2.toInt.toNat = j by rw [hj]; rfl]
      exact (if_pos jl).symm
    have hl := hq.2.2 b hb j (Nat.le_of_lt jl)
    rw [← e3] at hl
    unfold lnQ lnX rwB at hl
    rw [if_pos (decide_eq_true (by omega))] at hl
    have hw : rwO2 (Q.2.2.1 b j) := (hO.2 b hb).2.1 j (by omega)
    have k3 := (rAt_k (j := j) hT hc hcf (show b < c2 6 f by omega)).1
    rw [← e3] at k3
    have bA : (fI (F x3) 5).toInt = 0 ∨ (fI (F x3) 5).toInt = 1 := by
      obtain ⟨op, t', a, b', s', ra, rb, he, r1, r2, r3, r4, r5, -⟩ := show rk_1 c2 x3 (F x3) from RS_o hT k3
      have r41 := r4.1
      have r42 := r4.2
      rw [he]
      show ra.toInt = 0 ∨ ra.toInt = 1
      omega
    obtain ⟨w1, w2⟩ := mg_row hw hl bA
    rw [h8] at w1
    have l14 := w1.mp h9
    obtain ⟨w3, w4⟩ := w2 l14
    rw [h10] at w4
    rw [h12] at w3
    rw [h13] at w4
    have l1 : 0 ≤ Q.2.2.1 b j 1 := (hw.2.2.2.1 (Or.inl (by omega))).1
    exact ⟨fun z => (nomatch z), fun _ => ⟨j, hj, ⟨hb, by omega, l14, l1, by omega, Or.inl (by omega)⟩, e3, fun i2 _ hi2 => hi2⟩⟩
  · intro l5_2 x1 x2 x3 x4 x5 x6 x7 x8 h1 h2 h3 h4 h5 h6 h7 h8 h9 h10 h11 h12 h13 h14 h15 h16 h17 h18
    intro j hj
    have ex1 : x1 = rwL c2 c3 c b := by
      rw [← h2, v1]
      show ll = c2 14 (c3 (c2 14 c) b)
      rw [← hc1, g1]
    rw [ex1] at h3
    have jl : j < c2 2 (rwL c2 c3 c b) := by omega
    have e3 : x3 = rAt c2 c3 c b j := by
      rw [h6, ex1, show l5_2.toInt.toNat = j by rw [hj]; rfl]
      exact (if_pos jl).symm
    have hl := hq.2.2 b hb j (Nat.le_of_lt jl)
    rw [← e3] at hl
    unfold lnQ lnX rwB at hl
    rw [if_pos (decide_eq_true (by omega))] at hl
    have hw : rwO2 (Q.2.2.1 b j) := (hO.2 b hb).2.1 j (by omega)
    have k3 := (rAt_k (j := j) hT hc hcf (show b < c2 6 f by omega)).1
    rw [← e3] at k3
    have bA : (fI (F x3) 5).toInt = 0 ∨ (fI (F x3) 5).toInt = 1 := by
      obtain ⟨op, t', a, b', s', ra, rb, he, r1, r2, r3, r4, r5, -⟩ := show rk_1 c2 x3 (F x3) from RS_o hT k3
      have r41 := r4.1
      have r42 := r4.2
      rw [he]
      show ra.toInt = 0 ∨ ra.toInt = 1
      omega
    obtain ⟨w1, w2⟩ := mg_row hw hl bA
    rw [h8] at w1
    have l14 := w1.mp h9
    obtain ⟨w3, w4⟩ := w2 l14
    rw [h10] at w4
    rw [h12] at w3
    rw [h13] at w4
    have l1 : 0 ≤ Q.2.2.1 b j 1 := (hw.2.2.2.1 (Or.inl (by omega))).1
    have mm := rmm_tr (v := (Q.2.2.1 b j 1).toNat) (u := (Q.2.2.1 b j 2).toNat) hT hm hG (by omega) (by omega) h17
    exact ⟨fun z => (nomatch z), fun _ => ⟨j, hj, ⟨hb, by omega, l14, l1, by omega, Or.inr (mm.mp h18)⟩, e3, fun i2 _ hi2 => hi2⟩⟩
  · intro l5_2 x1 x2 x3 x4 x5 x6 x7 x8 x9 k e1 e2 h1 h2 h3 h4 h5 h6 h7 h8 h9 h10 h11 h12 h13 h14 h15 h16 h17 h18 h19 ih
    intro j hj
    have ex1 : x1 = rwL c2 c3 c b := by
      rw [← h2, v1]
      show ll = c2 14 (c3 (c2 14 c) b)
      rw [← hc1, g1]
    rw [ex1] at h3
    have jl : j < c2 2 (rwL c2 c3 c b) := by omega
    have e3 : x3 = rAt c2 c3 c b j := by
      rw [h6, ex1, show l5_2.toInt.toNat = j by rw [hj]; rfl]
      exact (if_pos jl).symm
    have hl := hq.2.2 b hb j (Nat.le_of_lt jl)
    rw [← e3] at hl
    unfold lnQ lnX rwB at hl
    rw [if_pos (decide_eq_true (by omega))] at hl
    have hw : rwO2 (Q.2.2.1 b j) := (hO.2 b hb).2.1 j (by omega)
    have k3 := (rAt_k (j := j) hT hc hcf (show b < c2 6 f by omega)).1
    rw [← e3] at k3
    have bA : (fI (F x3) 5).toInt = 0 ∨ (fI (F x3) 5).toInt = 1 := by
      obtain ⟨op, t', a, b', s', ra, rb, he, r1, r2, r3, r4, r5, -⟩ := show rk_1 c2 x3 (F x3) from RS_o hT k3
      have r41 := r4.1
      have r42 := r4.2
      rw [he]
      show ra.toInt = 0 ∨ ra.toInt = 1
      omega
    obtain ⟨w1, w2⟩ := mg_row hw hl bA
    rw [h8] at w1
    have l14 := w1.mp h9
    obtain ⟨w3, w4⟩ := w2 l14
    rw [h10] at w4
    rw [h12] at w3
    rw [h13] at w4
    have l1 : 0 ≤ Q.2.2.1 b j 1 := (hw.2.2.2.1 (Or.inl (by omega))).1
    have mm := rmm_tr (v := (Q.2.2.1 b j 1).toNat) (u := (Q.2.2.1 b j 2).toNat) hT hm hG (by omega) (by omega) h17
    exact stp (fun hm2 => hm2.2.2.2.2.2.elim (fun z => by omega) (fun z => mm.mpr z h18)) (ih (j + 1) (by omega))
theorem me2_tl {q1 : Nat} {c1 : Nat → Nat → Nat} {c2 : Nat → Nat → Nat} {q0 : Nat} {a2 : Int32} {s1 : Int32} {k : Nat} {e1 : Nat} {e2 : Int32} {e3 : Nat} (hT : RS D I P F c2 c1) (hm : c2 0 q0 = 10) (hc : c2 0 q1 = 9) (hcf : c2 1 q1 = f) (hQ6 : c2 6 f = Q.1) (hq : rfX c2 c1 F q1 Q) (hO : qOk Q) (hG : ∀ n k, n < 2000 → k < 2000 → (egS c2 F n k = true ↔ JJ Q n k)) (h : tl_RModel_merge_2 D I γ0 el0 f F q1 c1 c2 q0 a2 s1 k e1 e2 e3) : ∀ b : Nat, s1.toInt = (b : Int) → b ≤ Q.1 → (k = 178 → ∀ d i, b ≤ d → ¬ mgb Q a2.toInt d i) ∧ (k = 98 → ∃ d i : Nat, e2.toInt = (i : Int) ∧ mgb Q a2.toInt d i ∧ e1 = rAt c2 c1 q1 d i ∧ e3 = c1 (c2 14 q1) d ∧ ∀ d2 i2, mgb Q a2.toInt d2 i2 → b ≤ d2 → d < d2 ∨ (d = d2 ∧ i ≤ i2)) := by
  have q3 := hq.1
  obtain ⟨lb, lr, rn, md, w1, ⟨w2, -⟩, -⟩ := show rk_9 c2 c1 q1 (F q1) from RS_o hT hc
  refine h (fun s1 k e1 e2 e3 => ∀ b : Nat, s1.toInt = (b : Int) → b ≤ Q.1 → (k = 178 → ∀ d i, b ≤ d → ¬ mgb Q a2.toInt d i) ∧ (k = 98 → ∃ d i : Nat, e2.toInt = (i : Int) ∧ mgb Q a2.toInt d i ∧ e1 = rAt c2 c1 q1 d i ∧ e3 = c1 (c2 14 q1) d ∧ ∀ d2 i2, mgb Q a2.toInt d2 i2 → b ≤ d2 → d < d2 ∨ (d = d2 ∧ i ≤ i2))) ?_ ?_ ?_
  · intro l3_1 x1 h1 h2 h3
    intro b hb hb2
    rw [h2] at q3
    exact ⟨fun _ d i hd hm2 => by have := hm2.1; omega, fun z => (nomatch z)⟩
  · intro l3_1 x1 x2 x3 x4 x5 k e1 e2 e3 h1 h2 h3 h4 h5 h6 h7 h8 h9 ih
    intro b hb hb2
    rw [h2] at q3
    have hb3 : b < Q.1 := by omega
    have e3 : x3 = c1 (c2 14 q1) b := by
      rw [h5, ← h4, w1, show l3_1.toInt.toNat = b by rw [hb]; rfl]
      show c1 lb b = _
      rw [w2]
    have r := me20_tl hT hm hc hcf hQ6 hq hO hG hb3 e3 h8 0 (by decide)
    have r1 := r.1 rfl
    have ih1 := ih (b + 1) (by omega) (by omega)
    refine ⟨fun z d i hd hm2 => ?_, fun z => ?_⟩
    · by_cases e : d = b
      · rw [e] at hm2; exact r1 i (Nat.zero_le _) hm2
      · exact ih1.1 z d i (by omega) hm2
    · obtain ⟨d, i, p1, p2, p3, p4, p5⟩ := ih1.2 z
      refine ⟨d, i, p1, p2, p3, p4, fun d2 i2 hm2 hd2 => ?_⟩
      by_cases e : d2 = b
      · rw [e] at hm2; exact absurd hm2 (r1 i2 (Nat.zero_le _))
      · exact p5 d2 i2 hm2 (by omega)
  · intro l3_1 x1 x2 x3 x4 x5 x6 h1 h2 h3 h4 h5 h6 h7 h8
    intro b hb hb2
    rw [h2] at q3
    have hb3 : b < Q.1 := by omega
    have e3 : x3 = c1 (c2 14 q1) b := by
      rw [h5, ← h4, w1, show l3_1.toInt.toNat = b by rw [hb]; rfl]
      show c1 lb b = _
      rw [w2]
    have r := me20_tl hT hm hc hcf hQ6 hq hO hG hb3 e3 h8 0 (by decide)
    obtain ⟨i, p1, p2, p3, p4⟩ := r.2 rfl
    refine ⟨fun z => (nomatch z), fun _ => ⟨b, i, p1, p2, p3, e3, fun d2 i2 hm2 hd2 => ?_⟩⟩
    by_cases e : d2 = b
    · rw [e] at hm2; exact Or.inr ⟨e.symm, p4 i2 hm2 (Nat.zero_le _)⟩
    · exact Or.inl (by omega)
theorem mxE {x a b p q : Int} (hp : p = a) (hq : q = b) (h : p ≤ x ∧ q ≤ x ∧ (x = p ∨ x = q)) : x = max a b := by
  subst hp
  subst hq
  omega
theorem mnE {x a b p q : Int} (hp : p = a) (hq : q = b) (h : p ≥ x ∧ q ≥ x ∧ (x = p ∨ x = q)) : x = min a b := by
  subst hp
  subst hq
  omega
theorem rme_tr {q0 : Nat} {q1 : Nat} {a2 : Int32} {o1 : Int32} {o2 : List Nat} {o3 : Nat → va_E} {o4 : Nat → Nat → Nat} {o5 : Nat → Nat → Nat} (hT : RS D I P F γ0 el0) (hm : γ0 0 q0 = 10) (hc : γ0 0 q1 = 9) (hcf : γ0 1 q1 = f) (hQ6 : γ0 6 f = Q.1) (hq : rfX γ0 el0 F q1 Q) (hO : qOk Q) (hG : ∀ n k, n < 2000 → k < 2000 → (egS γ0 F n k = true ↔ JJ Q n k)) (h : tr_RModel_merge D I γ0 el0 f P F q0 q1 a2 o1 o2 o3 o4 o5) : (o1.toInt = 0 ∧ (∀ b j, ¬ mgb Q a2.toInt b j) ∧ o2 = P ∧ o3 = F ∧ o4 = γ0 ∧ o5 = el0) ∨ (o1.toInt ≠ 0 ∧ ∃ b j, fsM Q a2.toInt b j ∧ rfX o4 o5 o3 q1 (mg1 Q b j) ∧ o4 6 f = Q.1 ∧ o4 0 q1 = 9 ∧ o4 1 q1 = f ∧ o4 0 q0 = 10 ∧ o4 9 = γ0 9) := by
  refine h (fun o1 o2 o3 o4 o5 => (o1.toInt = 0 ∧ (∀ b j, ¬ mgb Q a2.toInt b j) ∧ o2 = P ∧ o3 = F ∧ o4 = γ0 ∧ o5 = el0) ∨ (o1.toInt ≠ 0 ∧ ∃ b j, fsM Q a2.toInt b j ∧ rfX o4 o5 o3 q1 (mg1 Q b j) ∧ o4 6 f = Q.1 ∧ o4 0 q1 = 9 ∧ o4 1 q1 = f ∧ o4 0 q0 = 10 ∧ o4 9 = γ0 9)) ?_ ?_ ?_
  · intro x1 x2 h1 h2 h3
    have eg := h1
    have ee := h2
    subst eg
    subst ee
    have r := me2_tl hT hm hc hcf hQ6 hq hO hG h3 0 (by decide) (Nat.zero_le _)
    exact Or.inl ⟨by decide, fun b j => r.1 rfl b j (Nat.zero_le _), rfl, rfl, rfl, rfl⟩
  · intro x1 x2 x3 x4 x5 x6 x7 x8 x9 x10 x11 x12 x13 x14 x15 x16 h1 h2 h3 h4 h5 h6 h7 h8 h9 h10 h11 h12 h13 h14
    have eg := h1
    have ee := h2
    subst eg
    subst ee
    have r := me2_tl hT hm hc hcf hQ6 hq hO hG h3 0 (by decide) (Nat.zero_le _)
    obtain ⟨b, j, p1, p2, p3, p4, p5⟩ := r.2 rfl
    have fm : fsM Q a2.toInt b j := ⟨p2, fun d i hm2 => p5 d i hm2 (Nat.zero_le _)⟩
    have hb := p2.1
    have jl := mg_lt hO p2
    have m : x1 2 (rwL x1 x2 q1 b) + 1 = Q.2.1 b := (hq.2.1 b hb).1
    have hl := hq.2.2 b hb j (by omega)
    rw [← p3] at hl
    unfold lnQ lnX rwB at hl
    rw [if_pos (decide_eq_true (by omega))] at hl
    have hw : rwO2 (Q.2.2.1 b j) := (hO.2 b hb).2.1 j jl
    have k3 := (rAt_k (j := j) hT hc hcf (show b < x1 6 f by omega)).1
    rw [← p3] at k3
    have bA : (fI (F x3) 5).toInt = 0 ∨ (fI (F x3) 5).toInt = 1 := by
      obtain ⟨op, t', a, b', s', ra, rb, he, r1, r2, r3, r4, r5, -⟩ := show rk_1 x1 x3 (F x3) from RS_o hT k3
      have r41 := r4.1
      have r42 := r4.2
      rw [he]
      show ra.toInt = 0 ∨ ra.toInt = 1
      omega
    obtain ⟨w3, w4⟩ := (mg_row hw hl bA).2 p2.2.2.1
    have l2 := p2.2.2.2.2.1
    rw [h4] at w3
    rw [h5] at w4
    have e7 : x7.toInt = Q.2.2.1 b j 2 := by omega
    have e61 : x6.toInt = Q.2.2.1 b j 1 := by omega
    have e9 : x9.toInt = max (Q.2.2.1 b j 1) (Q.2.2.1 b j 2) := mxE e61 e7 h7
    have e8 : x8.toInt = min (Q.2.2.1 b j 1) (Q.2.2.1 b j 2) := mnE e61 e7 h6
    have hB := hB2_ hT hc hcf hQ6 b hb
    obtain ⟨ll, nn, pp, ss, v1, ⟨g1, g2, g3⟩, v3, v4, v5, -⟩ := show rk_2 x1 (x2 (x1 14 q1) b) (F (x2 (x1 14 q1) b)) from RS_o hT hB
    have e10 : x10 = rwL x1 x2 q1 b := by
      rw [← h8, p4, v1]
      show ll = x1 14 (x2 (x1 14 q1) b)
      rw [g1]
    have hD := h9
    rw [e10, show x4.toInt.toNat = j by rw [p1]; rfl] at hD
    obtain ⟨d1, d6⟩ := rfX_del hT hc hcf hQ6 hq hD hb jl
    have sq := hD.1
    have sk := rSk_of sq
    have c9 : x12 0 q1 = 9 := rSk_k sk (show rKd x1 q1 9 from hc) (by decide) (by decide)
    have cf' : x12 1 q1 = f := rSk_1 sk (show rKd x1 q1 9 from hc) (by decide) hcf
    have m10 : x12 0 q0 = 10 := rSk_k sk (show rKd x1 q0 10 from hm) (by decide) (by decide)
    have dQ : qOk (pgDr Q b j) := qOk_dr hO hb jl
    have n9 : x12 9 = x1 9 := rSk_9 sk
    have d2 : rfX x12 x13 x16 q1 (pgDr Q b j) := rfX_fr sq.1 c9 cf' d6 d1 (fun a ha => h12 a (fun e => by rw [e, m10] at ha; omega))
    refine Or.inr ⟨by decide, b, j, fm, ?_, d6, c9, cf', m10, n9⟩
    have e12 : max (Q.2.2.1 b j 1) (Q.2.2.1 b j 2) = min (Q.2.2.1 b j 1) (Q.2.2.1 b j 2) := by omega
    refine rfX_c d2 rfl (fun i hi => ⟨rfl, rfl, fun k hk => ?_⟩)
    show rnL (max (Q.2.2.1 b j 1) (Q.2.2.1 b j 2)) (min (Q.2.2.1 b j 1) (Q.2.2.1 b j 2)) ((pgDr Q b j).2.2.1 i k) = _
    rw [e12, rn_id]
  · intro x1 x2 x3 x4 x5 x6 x7 x8 x9 x10 x11 x12 x13 x14 x15 x16 x17 h1 h2 h3 h4 h5 h6 h7 h8 h9 h10 h11 h12 h13 h14 h15 h16 h17 h18 h19 h20
    have eg := h1
    have ee := h2
    subst eg
    subst ee
    have r := me2_tl hT hm hc hcf hQ6 hq hO hG h3 0 (by decide) (Nat.zero_le _)
    obtain ⟨b, j, p1, p2, p3, p4, p5⟩ := r.2 rfl
    have fm : fsM Q a2.toInt b j := ⟨p2, fun d i hm2 => p5 d i hm2 (Nat.zero_le _)⟩
    have hb := p2.1
    have jl := mg_lt hO p2
    have m : x1 2 (rwL x1 x2 q1 b) + 1 = Q.2.1 b := (hq.2.1 b hb).1
    have hl := hq.2.2 b hb j (by omega)
    rw [← p3] at hl
    unfold lnQ lnX rwB at hl
    rw [if_pos (decide_eq_true (by omega))] at hl
    have hw : rwO2 (Q.2.2.1 b j) := (hO.2 b hb).2.1 j jl
    have k3 := (rAt_k (j := j) hT hc hcf (show b < x1 6 f by omega)).1
    rw [← p3] at k3
    have bA : (fI (F x3) 5).toInt = 0 ∨ (fI (F x3) 5).toInt = 1 := by
      obtain ⟨op, t', a, b', s', ra, rb, he, r1, r2, r3, r4, r5, -⟩ := show rk_1 x1 x3 (F x3) from RS_o hT k3
      have r41 := r4.1
      have r42 := r4.2
      rw [he]
      show ra.toInt = 0 ∨ ra.toInt = 1
      omega
    obtain ⟨w3, w4⟩ := (mg_row hw hl bA).2 p2.2.2.1
    have l2 := p2.2.2.2.2.1
    rw [h4] at w3
    rw [h5] at w4
    have e7 : x7.toInt = Q.2.2.1 b j 2 := by omega
    have e61 : x6.toInt = Q.2.2.1 b j 1 := by omega
    have e9 : x9.toInt = max (Q.2.2.1 b j 1) (Q.2.2.1 b j 2) := mxE e61 e7 h7
    have e8 : x8.toInt = min (Q.2.2.1 b j 1) (Q.2.2.1 b j 2) := mnE e61 e7 h6
    have hB := hB2_ hT hc hcf hQ6 b hb
    obtain ⟨ll, nn, pp, ss, v1, ⟨g1, g2, g3⟩, v3, v4, v5, -⟩ := show rk_2 x1 (x2 (x1 14 q1) b) (F (x2 (x1 14 q1) b)) from RS_o hT hB
    have e10 : x10 = rwL x1 x2 q1 b := by
      rw [← h8, p4, v1]
      show ll = x1 14 (x2 (x1 14 q1) b)
      rw [g1]
    have hD := h9
    rw [e10, show x4.toInt.toNat = j by rw [p1]; rfl] at hD
    obtain ⟨d1, d6⟩ := rfX_del hT hc hcf hQ6 hq hD hb jl
    have sq := hD.1
    have sk := rSk_of sq
    have c9 : x12 0 q1 = 9 := rSk_k sk (show rKd x1 q1 9 from hc) (by decide) (by decide)
    have cf' : x12 1 q1 = f := rSk_1 sk (show rKd x1 q1 9 from hc) (by decide) hcf
    have m10 : x12 0 q0 = 10 := rSk_k sk (show rKd x1 q0 10 from hm) (by decide) (by decide)
    have dQ : qOk (pgDr Q b j) := qOk_dr hO hb jl
    have n9 : x12 9 = x1 9 := rSk_9 sk
    have d2 : rfX x12 x13 x16 q1 (pgDr Q b j) := rfX_fr sq.1 c9 cf' d6 d1 (fun a ha => h12 a (fun e => by rw [e, m10] at ha; omega))
    have bb := mg_b hO p2
    have rn := rnm_tr (Q := pgDr Q b j) c9 cf' d6 (hB2_ sq.1 c9 cf' d6) dQ (by omega) (by omega) d2 h20
    rw [e9, e8] at rn
    exact Or.inr ⟨by decide, b, j, fm, rn, d6, c9, cf', m10, n9⟩
end MER
