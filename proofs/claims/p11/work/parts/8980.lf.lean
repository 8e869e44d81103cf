/-! what a step of one program leaves of another -/
section RFM
variable {D : va_G} {I : FieldType → ClassId} {P P1 : List Nat} {F F1 : Nat → va_E} {γ el γ1 el1 : Nat → Nat → Nat} {f c g : Nat} {K KF : List Nat}
theorem rSk_fam (hT : RS D I P F γ el) (h : rSk f K KF D I P F γ el P1 F1 γ1 el1) (hc : γ 0 c = 9) (hg : γ 1 c = g) (hne : g ≠ f) : rPh γ1 el1 g = rPh γ el g ∧ rM γ1 el1 g = rM γ el g ∧ (∀ B, rBd γ el g B → rBd γ1 el1 g B) ∧ γ1 6 g = γ 6 g ∧ γ1 7 g = γ 7 g ∧ γ1 16 g = γ 16 g := by
  obtain ⟨lb, lr, rn, md, w1, w2, w3, w4, w5, w6, -⟩ := show rk_9 γ el c (F c) from RS_o hT hc
  obtain ⟨x1, x2, x3, x4, x5⟩ := h.2.2.1
  have e21 : γ 21 g = c := by rw [← hg]; exact w2.2.2
  have E21 : γ1 21 g = c := by rw [x4.2.2.2.2]; exact e21
  have c14 : γ1 14 c = lb := ((x2 c (by omega)).2.2.1).trans w2.1
  have c15 : γ1 15 c = lr := ((x2 c (by omega)).2.2.2.1).trans w2.2.1
  have kb : γ 0 lb = 4 := w3
  have kr : γ 0 lr = 5 := w5
  have fb : γ 1 lb = g := Eq.trans w4 hg
  have fr : γ 1 lr = g := Eq.trans w6 hg
  obtain ⟨b2, b13, b17, bel⟩ := x3 lb (by omega) (by rw [fb]; exact hne)
  obtain ⟨r2, r13, r17, rel⟩ := x3 lr (by omega) (by rw [fr]; exact hne)
  obtain ⟨-, y6⟩ := show rk_4 D I γ el F lb from RS_o hT w3
  have he : ∀ i, i < γ 2 lb → γ1 13 (γ1 14 (el1 lb i)) = γ 13 (γ 14 (el lb i)) ∧ γ1 17 (γ1 14 (el1 lb i)) = γ 17 (γ 14 (el lb i)) := fun i hi => by
    have k0 : γ 0 (el lb i) ≠ 0 := by rcases (y6 i hi).1 with q | q | q <;> omega
    obtain ⟨q1, q2, -, -⟩ := RS_lst hT w3 hi
    have kl : γ 0 (γ 14 (el lb i)) ≠ 0 := by rcases q1 with q | q <;> omega
    have fl : γ 1 (γ 14 (el lb i)) ≠ f := by rw [q2, fb]; exact hne
    obtain ⟨z2, z13, z17, -⟩ := x3 _ kl fl
    rw [bel, (x2 _ k0).2.2.1]
    exact ⟨z13, z17⟩
  have s1 : rsum (fun i => 4 * γ1 13 (γ1 14 (el1 lb i))) (γ 2 lb) = rsum (fun i => 4 * γ 13 (γ 14 (el lb i))) (γ 2 lb) := Nat.le_antisymm (rsum_le _ (fun i hi => by have := (he i hi).1; show 4 * _ ≤ 4 * _; omega)) (rsum_le _ (fun i hi => by have := (he i hi).1; show 4 * _ ≤ 4 * _; omega))
  have s2 : rsum (fun i => 9 * γ1 17 (γ1 14 (el1 lb i)) + 60) (γ 2 lb) = rsum (fun i => 9 * γ 17 (γ 14 (el lb i)) + 60) (γ 2 lb) := Nat.le_antisymm (rsum_le _ (fun i hi => by have := (he i hi).2; show 9 * _ + 60 ≤ 9 * _ + 60; omega)) (rsum_le _ (fun i hi => by have := (he i hi).2; show 9 * _ + 60 ≤ 9 * _ + 60; omega))
  obtain ⟨g6, g7, g16, -⟩ := x5 g hne
  refine ⟨?_, ?_, fun B hB => ?_, g6, g7, g16⟩
  · unfold rPh
    rw [E21, e21, c14, c15, w2.1, w2.2.1]
    unfold rPhc
    rw [b13, r13, r2, b2, s1]
  · unfold rM
    rw [E21, e21, c14, c15, w2.1, w2.2.1]
    unfold rMc
    rw [b17, r17, r2, b2, s2]
  · unfold rBd at hB ⊢
    rw [e21, w2.1, w2.2.1] at hB
    rw [E21, c14, c15, g16, b2, b17, r2, r17]
    exact ⟨hB.1, hB.2.1, hB.2.2.1, hB.2.2.2.1, hB.2.2.2.2.1, fun i hi => by rw [(he i hi).2]; exact hB.2.2.2.2.2 i hi⟩
end RFM
