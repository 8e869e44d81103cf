/-! a new row of the store; a block of the store -/
/-- what the cell of a program says, opened at its address -/
theorem rk9_at {γ el : Nat → Nat → Nat} {c lb lr : Nat} {e : va_E} {rn md : Int32} (hF : e = .inr (18, [.ref lb, .ref lr, .int rn, .int md])) (h : rk_9 γ el c e) :
    rGc γ c lb lr ∧ γ 0 lb = 4 ∧ γ 1 lb = γ 1 c ∧ γ 0 lr = 5 ∧ γ 1 lr = γ 1 c ∧ 0 ≤ rn.toInt ∧ rn.toInt ≤ γ 2 lr ∧ 0 ≤ md.toInt ∧ md.toInt ≤ γ 2 lb ∧ (γ 2 lr : Int) ≤ 1000000 ∧ (γ 2 lb : Int) ≤ 1000000 ∧ (γ 6 (γ 1 c) = 0 ∨ (md.toInt = γ 6 (γ 1 c) ∧ md.toInt ≤ 40 ∧ γ 19 (γ 1 c) ≤ γ 6 (γ 1 c))) ∧ (∀ i : Nat, (i : Int) < md.toInt → γ 0 (el lb i) = 2 ∨ (γ 6 (γ 1 c) = 0 ∧ γ 0 (el lb i) = 202)) ∧ (∀ i : Nat, md.toInt ≤ i → i < γ 2 lb → γ 0 (el lb i) = 102) ∧ (∀ i : Nat, rn.toInt ≤ i → i < γ 2 lr → γ 0 (el lr i) = 101) ∧ rCd γ el c lb rn.toInt md.toInt := by
  obtain ⟨lb', lr', rn', md', w1, w⟩ := h
  rw [hF] at w1
  injection w1 with w1
  injection w1 with _ w1
  injection w1 with a1 w1
  injection w1 with a2 w1
  injection w1 with a3 w1
  injection w1 with a4 _
  injection a1 with a1
  injection a2 with a2
  injection a3 with a3
  injection a4 with a4
  subst a1 a2 a3 a4
  exact w
section ROP3
variable {D : va_G} {I : FieldType → ClassId} {P P1 : List Nat} {F F1 : Nat → va_E} {γ el : Nat → Nat → Nat} {l x c e e1 n1 k lb lr b n : Nat} {rn md rn1 md1 : Int32}
theorem RS_rown {m1 z1 : Int32} {f1 : Nat → Option Nat} (hT : RS D I P F γ el) (hs : rSub P P1) (hc : γ 0 c = 9) (hF : F c = .inr (18, [.ref lb, .ref lr, .int rn, .int md])) (heq : rn.toInt = γ 2 lr) (hx : γ 0 x = 0) (hxP : x ∈ P1) (he1 : (γ 0 e1 = 8 ∧ γ 3 e1 = lr ∧ γ 1 e1 = γ 1 lr) ∨ γ 0 e1 = 0) (heP : e1 ∈ P1) (hxe : x ≠ e1)
    (hfr : ∀ b, γ 0 b ≠ 0 → b ≠ c → b ≠ lr → b ≠ e1 → F1 b = F b) (c1 : F1 c = .inr (18, [.ref lb, .ref lr, .int rn1, .int md])) (c2 : rn1.toInt = rn.toInt + 1) (c3 : rkR (F1 x))
    (q1 : F1 lr = .inr (4, [.int m1, .ref e1, .int z1])) (q2 : z1.toInt = γ 2 lr + 1) (q3 : F1 e1 = .inl (I (.object "java/lang/Object"), n1, .inr (.inr (.inr (.inr f1)))))
    (d1 : γ 2 lr + 1 ≤ n1) (d2 : (n1 : Int) ≤ 1000000) (d3 : 2 * n1 ≤ 3 * max (γ 17 lr) (γ 2 lr + 1) + 20) (d4 : 10 ≤ n1)
    (g1 : ∀ j, j < γ 2 lr → f1 j = some (el lr j)) (g2 : f1 (γ 2 lr) = some x) (g4 : ∀ j w, f1 j = some w → rLK γ w ∨ w = x) :
    RS D I P1 F1 (gRwn γ lr x e1 n1 (γ 1 c)) (eIns el lr (γ 2 lr) x) ∧ γ 16 (γ 1 c) = rn.toInt.toNat := by
  obtain ⟨w2, w3, w4, w5, w6, w7, w8, w9, w10, w11, w12, w13, w14, w15, w16, w17⟩ := rk9_at hF (show rk_9 γ el c (F c) from RS_o hT hc)
  refine ⟨?_, by have := w17.1; omega⟩
  have h5 : rk_5 D I γ el F lr := RS_o hT w5
  have h4 : rk_4 D I γ el F lb := RS_o hT w3
  have hcx : c ≠ x := fun q => by rw [q] at hc; omega
  have hlrx : lr ≠ x := fun q => by rw [q] at w5; omega
  have hlbx : lb ≠ x := fun q => by rw [q] at w3; omega
  have hce : c ≠ e1 := fun q => by rw [← q] at he1; omega
  have hlre : lr ≠ e1 := fun q => by rw [← q] at he1; omega
  have hclr : c ≠ lr := fun q => by rw [q] at hc; omega
  have hlblr : lb ≠ lr := fun q => by rw [q] at w3; omega
  have k0 : ∀ b, γ 0 b ≠ 0 → (gRwn γ lr x e1 n1 (γ 1 c)) 0 b = γ 0 b := fun b h0 => by
    show (if b = x then 101 else if b = e1 then 8 else γ 0 b) = _
    rw [if_neg (fun q => by subst q; omega)]
    split
    · next q => subst q; omega
    · rfl
  have k1 : ∀ b, γ 0 b ≠ 0 → (gRwn γ lr x e1 n1 (γ 1 c)) 1 b = γ 1 b := fun b h0 => by
    show (if b = x then γ 1 c else if b = e1 then γ 1 c else γ 1 b) = _
    rw [if_neg (fun q => by subst q; omega)]
    split
    · next q => subst q; omega
    · rfl
  have k3 : ∀ b, γ 0 b ≠ 0 → (gRwn γ lr x e1 n1 (γ 1 c)) 3 b = γ 3 b := fun b h0 => by
    show (if b = e1 then lr else γ 3 b) = _
    split
    · next q => subst q; omega
    · rfl
  have k8 : ∀ b, γ 0 b ≠ 0 → (gRwn γ lr x e1 n1 (γ 1 c)) 8 b = γ 8 b := fun b h0 => if_neg (fun q => by subst q; omega)
  have k22 : ∀ b, γ 0 b ≠ 0 → (gRwn γ lr x e1 n1 (γ 1 c)) 22 b = γ 22 b := fun b h0 => if_neg (fun q => by subst q; omega)
  have hlk : ∀ w, rLK γ w → rLK (gRwn γ lr x e1 n1 (γ 1 c)) w := fun w hw => by
    have := k0 w (by unfold rLK at hw; omega)
    unfold rLK at hw ⊢
    rw [this]
    exact hw
  have z2 : (gRwn γ lr x e1 n1 (γ 1 c)) 2 lr = γ 2 lr + 1 := if_pos rfl
  have z13 : (gRwn γ lr x e1 n1 (γ 1 c)) 13 lr = n1 := if_pos rfl
  have z17 : (gRwn γ lr x e1 n1 (γ 1 c)) 17 lr = max (γ 17 lr) (γ 2 lr + 1) := if_pos rfl
  have b2 : (gRwn γ lr x e1 n1 (γ 1 c)) 2 lb = γ 2 lb := if_neg hlblr
  have x0 : (gRwn γ lr x e1 n1 (γ 1 c)) 0 x = 101 := if_pos rfl
  have e16 : (gRwn γ lr x e1 n1 (γ 1 c)) 16 (γ 1 c) = γ 16 (γ 1 c) + 1 := if_pos rfl
  have e18 : (gRwn γ lr x e1 n1 (γ 1 c)) 18 (γ 1 c) = γ 18 (γ 1 c) + 1 := if_pos rfl
  have ze : ∀ i, eIns el lr (γ 2 lr) x lr i = if i < γ 2 lr then el lr i else if i = γ 2 lr then x else el lr (i - 1) := fun i => if_pos rfl
  refine RS_gen (T := fun a => a = c ∨ a = lr ∨ a = x ∨ a = e1) (γ 1 c) hT (fun a ha => ?_) (fun a ha hTa => ?_) (fun a ha hTa => ?_) (fun b hb hTb => ?_) (fun b h4 _ => k0 b (by omega)) (fun b h0 _ => k0 b h0) hlk (fun j b h0 hj => ?_) (fun j hj => ?_) (fun j g hg hj => ?_) (Or.inl (Nat.le_refl _)) (Or.inl ⟨Nat.le_refl _, Or.inl rfl⟩) (fun g _ h => h) (fun b h0 hTb => ?_) (fun e' he' hTe => ?_) (fun b h0 hTb hb => ⟨rfl, rfl⟩) (fun a ha haf => Or.inl (RS_same_c hT hc ha haf)) (Or.inr ⟨fun b h0 => Or.inl (k0 b h0), fun b hb hne => absurd ((k0 b (by omega)).trans hb) hne, fun b hb hne h22 => absurd ((k0 b (by omega)).trans hb) hne⟩)
  · by_cases q : a = x
    · rw [q]; exact hxP
    · by_cases q2 : a = e1
      · rw [q2]; exact heP
      · change (if a = x then 101 else if a = e1 then 8 else γ 0 a) ≠ 0 at ha
        rw [if_neg q, if_neg q2] at ha
        exact hs a (hT.1 a ha)
  · by_cases ec : a = c
    · subst ec
      rw [k0 a (by omega), hc]
      refine ⟨lb, lr, rn1, md, c1, ⟨w2.1, w2.2.1, by rw [k1 a (by omega)]; exact w2.2.2⟩, (k0 lb (by omega)).trans w3, ?_, (k0 lr (by omega)).trans w5, ?_, by omega, by rw [z2]; omega, w9, by rw [b2]; exact w10, by rw [z2]; omega, by rw [b2]; exact w12, by rw [k1 a (by omega)]; exact w13, fun i hi => ?_, fun i hi hi2 => ?_, fun i hi hi2 => ?_, ?_⟩
      · unfold rFm; rw [k1 lb (by omega), k1 a (by omega)]; exact w4
      · unfold rFm; rw [k1 lr (by omega), k1 a (by omega)]; exact w6
      · rw [eIns_ne hlblr, k1 a (by omega)]
        have q := w14 i hi
        rw [k0 (el lb i) (by omega)]
        exact q
      · rw [b2] at hi2
        rw [eIns_ne hlblr]
        have q := w15 i hi hi2
        rw [k0 (el lb i) (by omega)]
        exact q
      · rw [z2] at hi2
        have := w16
        omega
      · unfold rCd
        rw [k1 a (by omega), e16, e18, eIns_ne hlblr]
        have r := w17.1
        refine ⟨by omega, ?_⟩
        have hs2 : rsum (fun i => (gRwn γ lr x e1 n1 (γ 1 a)) 2 ((gRwn γ lr x e1 n1 (γ 1 a)) 14 (el lb i))) md.toInt.toNat = rsum (fun i => γ 2 (γ 14 (el lb i))) md.toInt.toNat := rsum_c _ (fun i hi => by
          show (if γ 14 (el lb i) = lr then γ 2 lr + 1 else γ 2 (γ 14 (el lb i))) = _
          rw [if_neg]
          intro q
          have r2 : γ 0 (γ 14 (el lb i)) = 3 := by
            rcases w14 i (by omega) with r | ⟨-, r⟩
            · obtain ⟨l', n', p', s', v1, v2, v3, -⟩ := show rk_2 γ (el lb i) (F (el lb i)) from RS_o hT r
              rw [v2.1]; exact v3
            · obtain ⟨l', n', p', s', v1, v2, v3, -⟩ := show rk_202 γ (el lb i) (F (el lb i)) from RS_o hT r
              rw [v2.1]; exact v3
          rw [q] at r2
          omega)
        rw [hs2]
        have := w17.2
        omega
    by_cases el' : a = lr
    · subst el'
      rw [k0 a (by omega), w5]
      refine ⟨⟨m1, z1, e1, q1, by rw [z2]; omega, by rw [z2]; omega, Or.inr ⟨?_, ⟨if_pos rfl, ?_⟩, n1, f1, q3, by rw [z2]; exact d1, d2, ⟨z13.symm, d4⟩, fun i hi => ?_, fun j w hj => ?_⟩, ?_⟩, fun i hi => ?_⟩
      · show (if e1 = x then 101 else if e1 = e1 then 8 else γ 0 e1) = 8
        rw [if_neg (Ne.symm hxe), if_pos rfl]
      · rw [k1 a (by omega)]
        show (if e1 = x then γ 1 c else if e1 = e1 then γ 1 c else γ 1 e1) = _
        rw [if_neg (Ne.symm hxe), if_pos rfl]
        exact w6.symm
      · rw [z2] at hi
        rw [ze]
        split
        · next q => exact g1 i q
        · next q =>
          have e3 : i = γ 2 a := by omega
          rw [if_pos e3, e3]
          exact g2
      · rcases g4 j w hj with h | h
        · exact hlk w h
        · rw [h]; exact Or.inr (Or.inr (Or.inl x0))
      · unfold rCp
        rw [z2, z13, z17]
        omega
      · rw [z2] at hi
        rw [ze]
        split
        · next q =>
          obtain ⟨v1, v2, v3, v4⟩ := h5.2 i q
          rw [k0 _ (by omega), k1 _ (by omega), k1 a (by omega), k8 _ (by omega), k22 _ (by omega)]
          exact ⟨v1, v2, v3, v4⟩
        · next q =>
          have e3 : i = γ 2 a := by omega
          rw [if_pos e3, k1 a (by omega)]
          exact ⟨Or.inr x0, (if_pos rfl : (gRwn γ a x e1 n1 (γ 1 c)) 1 x = γ 1 c).trans w6.symm, (if_pos rfl : (gRwn γ a x e1 n1 (γ 1 c)) 8 x = γ 2 a).trans e3.symm, if_pos rfl⟩
    by_cases ex : a = x
    · subst ex
      rw [x0]
      exact c3
    · have ee : a = e1 := by rcases hTa with h | h | h | h; exact absurd h ec; exact absurd h el'; exact absurd h ex; exact h
      subst ee
      have e0 : (gRwn γ lr x a n1 (γ 1 c)) 0 a = 8 := (if_neg ex).trans (if_pos rfl)
      rw [e0]
      exact trivial
  · have hx' : a ≠ x := fun q => hTa (Or.inr (Or.inr (Or.inl q)))
    have he' : a ≠ e1 := fun q => hTa (Or.inr (Or.inr (Or.inr q)))
    change (if a = x then 101 else if a = e1 then 8 else γ 0 a) ≠ 0 at ha
    rw [if_neg hx', if_neg he'] at ha
    exact ⟨ha, k0 a ha, hfr a ha (fun q => hTa (Or.inl q)) (fun q => hTa (Or.inr (Or.inl q))) he'⟩
  · rcases hTb with rfl | rfl | rfl | rfl
    · rfl
    · exact w6
    · omega
    · omega
  · rcases hj with rfl | rfl | rfl | rfl | rfl | rfl | rfl
    · exact k1 b h0
    · exact k3 b h0
    · exact k8 b h0
    · rfl
    · rfl
    · rfl
    · exact k22 b h0
  · rcases hj with rfl | rfl | rfl | rfl | rfl <;> rfl
  · rcases hj with rfl | rfl | rfl | rfl | rfl
    · rfl
    · rfl
    · exact if_neg hg
    · exact if_neg hg
    · rfl
  · have hl' : b ≠ lr := fun q => hTb (Or.inr (Or.inl q))
    exact ⟨if_neg hl', if_neg hl', if_neg hl', eIns_ne hl'⟩
  · refine hfr e' (by omega) (fun q => by subst q; omega) (fun q => by subst q; omega) (fun q => hTe (Or.inr (Or.inl ?_)))
    subst q
    omega
end ROP3
