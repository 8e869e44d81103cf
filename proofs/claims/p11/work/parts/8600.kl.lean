/-! the law's state: old arrays lose their kinds; what stands is bounded -/
def gKl (γ : Nat → Nat → Nat) (S : List Nat) : Nat → Nat → Nat := fun j b => if j = 0 ∧ ((γ 0 b = 10 ∨ γ 0 b = 96 ∨ γ 0 b = 28 ∨ γ 0 b = 29) ∧ b ∉ S) then 0 else γ j b
section GKL
variable {D : va_G} {I : FieldType → ClassId} {P : List Nat} {F : Nat → va_E} {γ el : Nat → Nat → Nat} {S : List Nat}
theorem gKl_j {j : Nat} (h : j ≠ 0) : gKl γ S j = γ j := by
  funext b
  exact if_neg (fun z => h z.1)
theorem gKl_k {b k : Nat} (h : γ 0 b = k) (n : k ≠ 10 ∧ k ≠ 96 ∧ k ≠ 28 ∧ k ≠ 29) : gKl γ S 0 b = k := by
  refine (if_neg (fun z => ?_)).trans h
  have q := z.2.1
  rw [h] at q
  omega
theorem gKl_s {b : Nat} (h : b ∈ S) : gKl γ S 0 b = γ 0 b := if_neg (fun z => z.2.2 h)
theorem gKl_0 {b : Nat} (h : gKl γ S 0 b ≠ 0) : gKl γ S 0 b = γ 0 b ∧ γ 0 b ≠ 0 ∧ ((γ 0 b ≠ 10 ∧ γ 0 b ≠ 96 ∧ γ 0 b ≠ 28 ∧ γ 0 b ≠ 29) ∨ b ∈ S) := by
  by_cases q : (γ 0 b = 10 ∨ γ 0 b = 96 ∨ γ 0 b = 28 ∨ γ 0 b = 29) ∧ b ∉ S
  · exact absurd (if_pos ⟨rfl, q⟩) h
  · have e : gKl γ S 0 b = γ 0 b := if_neg (fun z => q z.2)
    refine ⟨e, by rw [← e]; exact h, ?_⟩
    by_cases s : b ∈ S
    · exact Or.inr s
    · refine Or.inl ⟨fun z => q ⟨Or.inl z, s⟩, fun z => q ⟨Or.inr (Or.inl z), s⟩, fun z => q ⟨Or.inr (Or.inr (Or.inl z)), s⟩, fun z => q ⟨Or.inr (Or.inr (Or.inr z)), s⟩⟩
theorem gKl_L {w : Nat} (h : rLK γ w) : rLK (gKl γ S) w := by
  unfold rLK at h ⊢
  have e : gKl γ S 0 w = γ 0 w := gKl_k rfl (by omega)
  rw [e]
  exact h
theorem gKl_N {ka x : Nat} (hka : ka ≠ 10 ∧ ka ≠ 96 ∧ ka ≠ 28 ∧ ka ≠ 29) (h : rkL D I γ el F ka x) : rkL D I (gKl γ S) el F ka x := by
  obtain ⟨m, z, e, y1, y2, y3, y4, y5⟩ := h
  refine ⟨m, z, e, y1, y2, y3, ?_, y5⟩
  rcases y4 with y | ⟨q1, q2, n, f, q3, q4, q5, q6, q7, q8⟩
  · exact Or.inl y
  · exact Or.inr ⟨gKl_k q1 hka, q2, n, f, q3, q4, q5, q6, q7, fun j w h => gKl_L (q8 j w h)⟩
set_option maxHeartbeats 1000000 in
theorem RS_kl {m r28 r35 a : Nat} {v9 v10 v11 v12 v13 v14 v23 v24 v25 v26 v27 v30 v32 v33 v34 mb c : Int32} (hT : RS D I P F γ el) (hm : γ 0 m = 10) (he : F m = mdE γ r28 r35 v9 v10 v11 v12 v13 v14 v23 v24 v25 v26 v27 v30 v32 v33 v34) (hW : F (γ 9 29) = .inr (1, [.ref a, .int 0, .int mb, .int c])) (hS : S = [m, γ 9 29, r35, a]) : RS D I P F (gKl γ S) el := by
  have m1 : m ∈ S := by rw [hS]; simp
  have m2 : γ 9 29 ∈ S := by rw [hS]; simp
  have m3 : r35 ∈ S := by rw [hS]; simp
  have m4 : a ∈ S := by rw [hS]; simp
  obtain ⟨s28, s35, u9, u10, u11, u12, u13, u14, u23, u24, u25, u26, u27, u30, u32, u33, u34, ue, uM1, uK, uM2⟩ := rk10_m (show rk_10 γ (F m) from RS_o hT hm)
  have e28 : s28 = r28 := by
    have w1 : fR (F m) 28 = s28 := by rw [ue]; rfl
    have w2 : fR (F m) 28 = r28 := by rw [he]; rfl
    exact w1.symm.trans w2
  have e35 : s35 = r35 := by
    have w1 : fR (F m) 35 = s35 := by rw [ue]; rfl
    have w2 : fR (F m) 35 = r35 := by rw [he]; rfl
    exact w1.symm.trans w2
  subst e28 e35
  obtain ⟨k0, k1, k2, k3, k4, k5, k6, k7, k8, k9, k10, k11, k12, k13, k14, k15, k16, k17, k18, kW, k20, k21, k22, k23⟩ := id uK
  have hW28 : γ 0 (γ 9 29) = 28 := kW
  have h27 : γ 0 s35 = 96 := k1
  obtain ⟨ra, mb', c', w1, w2, w3, w4, w5⟩ := show rk_28 γ (F (γ 9 29)) from RS_o hT hW28
  have era : ra = a := by
    have x1 : fR (F (γ 9 29)) 0 = ra := by rw [w1]; rfl
    have x2 : fR (F (γ 9 29)) 0 = a := by rw [hW]; rfl
    exact x1.symm.trans x2
  subst era
  have h29 : γ 0 ra = 29 := w4
  refine ⟨fun b hb => hT.1 b (gKl_0 hb).2.1, fun b => ?_⟩
  by_cases hb0 : gKl γ S 0 b = 0
  · rw [hb0]; exact trivial
  obtain ⟨g1, g2, g3⟩ := gKl_0 hb0
  have z := hT.2 b
  rw [g1]
  generalize hk : γ 0 b = k at z g3 ⊢
  unfold rFit at z ⊢
  split at z
  · exact z
  · obtain ⟨l, n, f, s, w1, w2, w3, w4, w5, w6⟩ := z
    exact ⟨l, n, f, s, w1, w2, gKl_k w3 (by decide), w4, gKl_k w5 (by decide), w6⟩
  · obtain ⟨l, n, f, s, w1, w2, w3, w4, w5, w6⟩ := z
    exact ⟨l, n, f, s, w1, w2, gKl_k w3 (by decide), w4, gKl_k w5 (by decide), w6⟩
  · obtain ⟨l, n, f, s, w1, w2, w3, w4, w5, w6⟩ := z
    exact ⟨l, n, f, s, w1, w2, gKl_k w3 (by decide), w4, gKl_k w5 (by decide), w6⟩
  · exact z
  · obtain ⟨z1, z2⟩ := z
    exact ⟨gKl_N (by decide) z1, fun i hi => ⟨gKl_k (z2 i hi).1 (by decide), (z2 i hi).2⟩⟩
  · obtain ⟨z1, z2⟩ := z
    exact ⟨gKl_N (by decide) z1, fun i hi => ⟨(z2 i hi).1.imp (fun q => gKl_k q (by decide)) (Or.imp (fun q => gKl_k q (by decide)) (fun q => gKl_k q (by decide))), (z2 i hi).2⟩⟩
  · obtain ⟨z1, z2⟩ := z
    exact ⟨gKl_N (by decide) z1, fun i hi => ⟨(z2 i hi).1.imp (fun q => gKl_k q (by decide)) (fun q => gKl_k q (by decide)), (z2 i hi).2⟩⟩
  · exact gKl_N (by decide) z
  · obtain ⟨lb, lr, rn, md, w1, w2, w3, w4, w5, w6, w7, w8, w9, w10, w11, w12, w13, w14, w15, w16, w17⟩ := z
    exact ⟨lb, lr, rn, md, w1, w2, gKl_k w3 (by decide), w4, gKl_k w5 (by decide), w6, w7, w8, w9, w10, w11, w12, w13, fun i hi => (w14 i hi).imp (fun q => gKl_k q (by decide)) (fun q => ⟨q.1, gKl_k q.2 (by decide)⟩), fun i h1 h2 => gKl_k (w15 i h1 h2) (by decide), fun i h1 h2 => gKl_k (w16 i h1 h2) (by decide), w17⟩
  · have hbS : b ∈ S := g3.resolve_left (fun q => q.1 rfl)
    have ebm : b = m := by
      rw [hS] at hbS
      simp only [List.mem_cons, List.not_mem_nil, or_false] at hbS
      rcases hbS with q | q | q | q
      · exact q
      · rw [q, hW28] at hk; cases hk
      · rw [q, h27] at hk; cases hk
      · rw [q, h29] at hk; cases hk
    rw [ebm]
    have kk : ∀ b k, rKd γ b k → k ≠ 10 ∧ k ≠ 96 ∧ k ≠ 28 ∧ k ≠ 29 → rKd (gKl γ S) b k := fun b k h n => gKl_k h n
    have hK' : mdK (gKl γ S) s28 s35 := ⟨kk _ _ k0 (by decide), (gKl_s m3).trans k1, kk _ _ k2 (by decide), kk _ _ k3 (by decide), kk _ _ k4 (by decide), kk _ _ k5 (by decide), kk _ _ k6 (by decide), kk _ _ k7 (by decide), kk _ _ k8 (by decide), kk _ _ k9 (by decide), kk _ _ k10 (by decide), kk _ _ k11 (by decide), kk _ _ k12 (by decide), kk _ _ k13 (by decide), kk _ _ k14 (by decide), kk _ _ k15 (by decide), kk _ _ k16 (by decide), kk _ _ k17 (by decide), kk _ _ k18 (by decide), (gKl_s m2).trans kW, kk _ _ k20 (by decide), k21, k22, k23⟩
    exact rk10_b (γ := gKl γ S) ue uM1 hK' uM2
  · have hbS : b ∈ S := g3.resolve_left (fun q => q.2.2.1 rfl)
    obtain ⟨r, mb'', c'', y1, y2, y3, y4, y5⟩ := z
    have ebW : b = γ 9 29 := by
      rw [hS] at hbS
      simp only [List.mem_cons, List.not_mem_nil, or_false] at hbS
      rcases hbS with q | q | q | q
      · rw [q, hm] at hk; cases hk
      · exact q
      · rw [q, h27] at hk; cases hk
      · rw [q, h29] at hk; cases hk
    have er : r = ra := by
      have x1 : fR (F b) 0 = r := by rw [y1]; rfl
      have x2 : fR (F b) 0 = ra := by rw [ebW, w1]; rfl
      exact x1.symm.trans x2
    exact ⟨r, mb'', c'', y1, y2, y3, (gKl_s (by rw [er]; exact m4)).trans y4, y5⟩
  · obtain ⟨g, q1, q2⟩ := z
    exact ⟨g, q1, fun i hi => ⟨(q2 i hi).1, gKl_k (q2 i hi).2.1 (by decide), (q2 i hi).2.2⟩⟩
  · obtain ⟨g, q1, q2⟩ := z
    exact ⟨g, q1, fun i hi => ⟨(q2 i hi).1, gKl_k (q2 i hi).2.1 (by decide), (q2 i hi).2.2⟩⟩
  all_goals first
    | exact z
    | exact trivial
/-- the only arrays with kinds 96 and 29 are those that stand -/
def rUq (γ : Nat → Nat → Nat) (F : Nat → va_E) (m : Nat) : Prop := (∀ b, γ 0 b = 96 → b = fR (F m) 35) ∧ ∀ b, γ 0 b = 29 → b = fR (F (γ 9 29)) 0
end GKL
section RPB
variable {D : va_G} {I : FieldType → ClassId} {P : List Nat} {F : Nat → va_E} {γ el : Nat → Nat → Nat} {f B c : Nat}
theorem rPh_bd (hT : RS D I P F γ el) (hc : γ 0 c = 9) (hf : γ 1 c = f) (h : rBd γ el f B) : rPh γ el f ≤ 264 * B + 6000 := by
  obtain ⟨lb, lr, rn, md, w1, w2, w3, w4, w5, w6, -⟩ := show rk_9 γ el c (F c) from RS_o hT hc
  have e21 : γ 21 f = c := by rw [← hf]; exact w2.2.2
  obtain ⟨h1, h2, h3, h4, h5, h6⟩ := h
  rw [e21, w2.1] at h2 h3 h6
  rw [e21, w2.2.1] at h4 h5
  unfold rPh
  rw [e21, w2.1, w2.2.1]
  obtain ⟨⟨m, z, e, v1, v2, v3, v4, v5⟩, -⟩ := show rk_4 D I γ el F lb from RS_o hT w3
  obtain ⟨⟨m', z', e', u1, u2, u3, u4, u5⟩, -⟩ := show rk_5 D I γ el F lr from RS_o hT w5
  have hs := rsum_b (f := fun i => 4 * γ 13 (γ 14 (el lb i))) (B := 6 * B + 40) (γ 2 lb) (fun i hi => by
    obtain ⟨-, -, -, q⟩ := RS_lst hT w3 hi
    unfold rCp at q
    have := h6 i hi
    show 4 * _ ≤ _
    omega)
  have hm : γ 2 lb * (6 * B + 40) ≤ 40 * (6 * B + 40) := Nat.mul_le_mul_right _ h2
  unfold rCp at v5 u5
  unfold rPhc
  omega
end RPB
