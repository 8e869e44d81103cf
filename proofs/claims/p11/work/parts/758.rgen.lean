/-! the state behind a change of ghosts -/
def rKc (k k1 : Nat) : Prop := k1 = k ∨ (k = 101 ∧ k1 = 1) ∨ (k = 102 ∧ k1 = 202) ∨ (k = 202 ∧ k1 = 2) ∨ (k = 103 ∧ k1 = 3)
theorem rsum_c {f g : Nat → Nat} : ∀ n, (∀ i, i < n → f i = g i) → rsum f n = rsum g n
  | 0, _ => rfl
  | n + 1, h => by
    show rsum f n + f n = rsum g n + g n
    rw [rsum_c n (fun i hi => h i (by omega)), h n (by omega)]
theorem rsum_le {f g : Nat → Nat} : ∀ n, (∀ i, i < n → f i ≤ g i) → rsum f n ≤ rsum g n
  | 0, _ => Nat.le_refl _
  | n + 1, h => by
    show rsum f n + f n ≤ rsum g n + g n
    have h1 := rsum_le n (fun i hi => h i (by omega))
    have h2 := h n (by omega)
    omega
theorem rsum_m {f : Nat → Nat} {n : Nat} : ∀ m, n ≤ m → rsum f n ≤ rsum f m
  | 0, h => by
    have e : n = 0 := by omega
    subst e
    exact Nat.le_refl _
  | m + 1, h => by
    by_cases e : n = m + 1
    · subst e; exact Nat.le_refl _
    · have h1 := rsum_m (f := f) m (show n ≤ m by omega)
      show rsum f n ≤ rsum f m + f m
      omega
/-- one term changes -/
theorem rsum_u {f g : Nat → Nat} {k : Nat} : ∀ n, k < n → (∀ i, i < n → i ≠ k → g i = f i) → rsum g n + f k = rsum f n + g k
  | 0, hk, _ => by omega
  | n + 1, hk, h => by
    show rsum g n + g n + f k = rsum f n + f n + g k
    by_cases e : k = n
    · subst e
      rw [rsum_c k (fun i hi => h i (by omega) (by omega))]
      omega
    · have h1 := rsum_u n (by omega) (fun i hi hn => h i (by omega) hn)
      have h2 := h n (by omega) (by omega)
      omega
theorem rsum_t {f : Nat → Nat} {k n : Nat} (h : k < n) : f k ≤ rsum f n := by
  have h1 : rsum f (k + 1) ≤ rsum f n := rsum_m _ h
  have h2 : rsum f (k + 1) = rsum f k + f k := rfl
  omega
theorem rsum_b {f : Nat → Nat} {B : Nat} : ∀ n, (∀ i, i < n → f i ≤ B) → rsum f n ≤ n * B
  | 0, _ => by rw [Nat.zero_mul]; exact Nat.le_refl _
  | n + 1, h => by
    have h1 := rsum_b n (fun i hi => h i (by omega))
    have h2 := h n (by omega)
    show rsum f n + f n ≤ (n + 1) * B
    rw [Nat.succ_mul]
    omega
section RGEN
variable {D : va_G} {I : FieldType → ClassId} {P P1 : List Nat} {F F1 : Nat → va_E} {γ el γ1 el1 : Nat → Nat → Nat} {T : Nat → Prop} {f : Nat}
theorem rkL_t {ka x : Nat} (h : F1 x = F x) (h2 : γ1 2 x = γ 2 x ∧ γ1 13 x = γ 13 x ∧ γ1 17 x = γ 17 x ∧ el1 x = el x) (ge : ∀ e, γ 0 e = ka → γ 3 e = x → F1 e = F e ∧ γ1 0 e = γ 0 e ∧ γ1 3 e = γ 3 e ∧ γ1 1 e = γ 1 e) (hx : γ1 1 x = γ 1 x) (hlk : ∀ w, rLK γ w → rLK γ1 w) (z : rkL D I γ el F ka x) : rkL D I γ1 el1 F1 ka x := by
  obtain ⟨a1, a2, a3, a4⟩ := h2
  obtain ⟨m, s, e, h1, h2, h3, h4, hc⟩ := z
  refine ⟨m, s, e, h.trans h1, by rw [a1]; exact h2, by rw [a1]; exact h3, ?_, by unfold rCp at hc ⊢; rw [a1, a2, a3]; exact hc⟩
  rcases h4 with h4 | ⟨h4, h5, n, g, h6, h7, h8, h9, h10, h11⟩
  · exact Or.inl (by rw [a1, a2]; exact h4)
  · obtain ⟨g1, g2, g3, g4⟩ := ge e h4 h5.1
    refine Or.inr ⟨g2.trans h4, ⟨g3.trans h5.1, by rw [g4, hx]; exact h5.2⟩, n, g, g1.trans h6, by rw [a1]; exact h7, h8, by rw [a2]; exact h9, by rw [a1, a4]; exact h10, fun j w hj => hlk w (h11 j w hj)⟩
theorem RS_gen (f : Nat) (hT : RS D I P F γ el) (hP : ∀ a, γ1 0 a ≠ 0 → a ∈ P1)
    (hTf : ∀ a, γ1 0 a ≠ 0 → T a → rFit D I γ1 el1 F1 a (γ1 0 a))
    (hU : ∀ a, γ1 0 a ≠ 0 → ¬ T a → γ 0 a ≠ 0 ∧ γ1 0 a = γ 0 a ∧ F1 a = F a)
    (hTm : ∀ b, γ 0 b ≠ 0 → T b → γ 1 b = f)
    (hk : ∀ b, 4 ≤ γ 0 b → γ 0 b < 100 → γ1 0 b = γ 0 b)
    (hf : ∀ b, γ 0 b ≠ 0 → γ 1 b ≠ f → γ1 0 b = γ 0 b)
    (hlk : ∀ w, rLK γ w → rLK γ1 w)
    (hs : ∀ j b, γ 0 b ≠ 0 → j = 1 ∨ j = 3 ∨ j = 8 ∨ j = 14 ∨ j = 15 ∨ j = 20 ∨ j = 22 → γ1 j b = γ j b)
    (hg : ∀ j, j = 9 ∨ j = 10 ∨ j = 11 ∨ j = 12 ∨ j = 21 → γ1 j = γ j)
    (hn : ∀ j g, g ≠ f → j = 6 ∨ j = 7 ∨ j = 16 ∨ j = 18 ∨ j = 19 → γ1 j g = γ j g)
    (h7 : γ 7 f ≤ γ1 7 f ∨ ∀ a, γ 0 a = 1 → γ 1 a = f → T a)
    (h19 : (γ 19 f ≤ γ1 19 f ∧ (γ1 6 f = γ 6 f ∨ γ1 6 f = 0 ∨ γ 19 f ≤ γ1 6 f)) ∨ ∀ a, γ 0 a = 2 → γ 1 a = f → T a)
    (hM : ∀ g, g < 2 → 0 < γ 6 g ∨ 0 < γ 23 g → 0 < γ1 6 g ∨ 0 < γ1 23 g)
    (hl : ∀ b, γ 0 b ≠ 0 → ¬ T b → γ1 2 b = γ 2 b ∧ γ1 13 b = γ 13 b ∧ γ1 17 b = γ 17 b ∧ el1 b = el b)
    (ha : ∀ e, γ 0 e = 6 ∨ γ 0 e = 7 ∨ γ 0 e = 8 → ¬ T (γ 3 e) → F1 e = F e)
    (h45 : ∀ b, γ 0 b ≠ 0 → ¬ T (γ 4 b) → (γ 0 b = 1 ∨ γ 22 b = 1) → γ1 4 b = γ 4 b ∧ γ1 5 b = γ 5 b)
    (hc : ∀ a, γ 0 a = 9 → γ 1 a = f → T a)
    (hall : (∀ a, γ 0 a ≠ 0 → γ 1 a = f → γ 0 a < 10 ∨ 100 ≤ γ 0 a → T a) ∨ ((∀ b, γ 0 b ≠ 0 → rKc (γ 0 b) (γ1 0 b)) ∧ (∀ b, γ 0 b = 103 → γ1 0 b ≠ 103 → T (γ 20 b)) ∧ (∀ b, γ 0 b = 101 → γ1 0 b ≠ 101 → γ 22 b = 1 → T (γ 4 b)))) :
    RS D I P1 F1 γ1 el1 := by
  refine ⟨hP, fun a => ?_⟩
  by_cases h0 : γ1 0 a = 0
  · rw [h0]; exact trivial
  by_cases hTa : T a
  · exact hTf a h0 hTa
  obtain ⟨h1, h2, h3⟩ := hU a h0 hTa
  rw [h2]
  have z := hT.2 a
  have hlst : ∀ ka, ka = 6 ∨ ka = 7 ∨ ka = 8 → rkL D I γ el F ka a → rkL D I γ1 el1 F1 ka a := fun ka hka z => by
    refine rkL_t h3 (hl a h1 hTa) (fun e he he3 => ?_) (hs 1 a h1 (by omega)) hlk z
    have e0 : γ 0 e ≠ 0 := by omega
    exact ⟨ha e (by omega) (by rw [he3]; exact hTa), hk e (by omega) (by omega), hs 3 e e0 (by omega), hs 1 e e0 (by omega)⟩
  -- kinds of what belongs to an untouched cell of the same family
  have hsm : ∀ b, γ 0 b ≠ 0 → γ 1 b = γ 1 a → (γ 0 a < 10 ∨ 100 ≤ γ 0 a) → γ1 0 b = γ 0 b ∨ (rKc (γ 0 b) (γ1 0 b) ∧ (γ 0 b = 103 → γ1 0 b ≠ 103 → T (γ 20 b)) ∧ (γ 0 b = 101 → γ1 0 b ≠ 101 → γ 22 b = 1 → T (γ 4 b))) := fun b hb hbf hka => by
    by_cases hff : γ 1 a = f
    · rcases hall with hall | ⟨g1, g2, g3⟩
      · exact absurd (hall a h1 hff hka) hTa
      · exact Or.inr ⟨g1 b hb, g2 b, g3 b⟩
    · exact Or.inl (hf b hb (by omega))
  have hblk : ∀ l n, (γ 0 a = 2 ∨ γ 0 a = 102 ∨ γ 0 a = 202) → rGl γ a l n → (γ 0 l = 3 ∨ γ 0 l = 103) → rFm γ l a → (γ 0 n = 1 ∨ γ 0 n = 101) → rFm γ n a → rOw γ n a → rGl γ1 a l n ∧ γ1 0 l = γ 0 l ∧ rFm γ1 l a ∧ γ1 0 n = γ 0 n ∧ rFm γ1 n a ∧ rOw γ1 n a := fun l n hka g1 g2 g3 g4 g5 g6 => by
    have l0 : γ 0 l ≠ 0 := by omega
    have n0 : γ 0 n ≠ 0 := by omega
    have kl : γ1 0 l = γ 0 l := by
      rcases hsm l l0 g3 (by omega) with h | ⟨h, h', -⟩
      · exact h
      · by_cases e : γ1 0 l = γ 0 l
        · exact e
        · rcases g2 with g2 | g2
          · unfold rKc at h; omega
          · have := h' g2 (by omega)
            rw [g1.2.2] at this
            exact absurd this hTa
    have kn : γ1 0 n = γ 0 n := by
      rcases hsm n n0 g5 (by omega) with h | ⟨h, -, h'⟩
      · exact h
      · by_cases e : γ1 0 n = γ 0 n
        · exact e
        · rcases g4 with g4 | g4
          · unfold rKc at h; omega
          · have := h' g4 (by omega) g6.2
            rw [g6.1] at this
            exact absurd this hTa
    have h4 := h45 n n0 (by rw [g6.1]; exact hTa) (Or.inr g6.2)
    refine ⟨⟨(hs 14 a h1 (by omega)).trans g1.1, (hs 15 a h1 (by omega)).trans g1.2.1, (hs 20 l l0 (by omega)).trans g1.2.2⟩, kl, ?_, kn, ?_, ⟨h4.1.trans g6.1, (hs 22 n n0 (by omega)).trans g6.2⟩⟩
    · unfold rFm at g3 ⊢; rw [hs 1 l l0 (by omega), hs 1 a h1 (by omega)]; exact g3
    · unfold rFm at g5 ⊢; rw [hs 1 n n0 (by omega), hs 1 a h1 (by omega)]; exact g5
  have hR : γ 0 a = 1 → γ 7 (γ 1 a) ≤ γ1 7 (γ1 1 a) := fun e => by
    rw [hs 1 a h1 (by omega)]
    by_cases hff : γ 1 a = f
    · rw [hff]
      exact h7.resolve_right (fun g => hTa (g a e hff))
    · rw [hn 7 _ hff (by omega)]; exact Nat.le_refl _
  obtain ⟨k, hk0⟩ : ∃ k, k = γ 0 a := ⟨_, rfl⟩
  rw [← hk0] at z ⊢
  have hkk : γ 0 a = k := hk0.symm
  clear hk0
  unfold rFit at z ⊢
  split at z
  · -- 1
    obtain ⟨op, t, x, y, s, ra, rb, c1, c2, c3, c4, c5, c6, c7, c8, c9, c10, c11⟩ := z
    exact ⟨op, t, x, y, s, ra, rb, h3.trans c1, c2, c3, c4, c5, c6, c7, c8, c9, by have := hR hkk; rcases c10 with c | c; exact Or.inl c; exact Or.inr (by omega), by rw [hs 22 a h1 (by omega)]; exact c11⟩
  · -- 2
    obtain ⟨l, n, p, s, c1, c2, c3, c4, c5, c6, c7, c8, c9, c10, c11, c12⟩ := z
    obtain ⟨d1, d2, d3, d4, d5, d6⟩ := hblk l n (Or.inl hkk) c2 (Or.inl c3) c4 (Or.inl c5) c6 c7
    have e6 : (γ1 6 (γ1 1 a) = 0 ∨ (p.toInt < γ1 6 (γ1 1 a) ∧ s.toInt < γ1 6 (γ1 1 a))) ∧ p.toInt < γ1 19 (γ1 1 a) ∧ s.toInt < γ1 19 (γ1 1 a) := by
      rw [hs 1 a h1 (by omega)]
      by_cases hff : γ 1 a = f
      · rw [hff] at c10 c11 c12 ⊢
        obtain ⟨g1, g2⟩ := h19.resolve_right (fun g => hTa (g a hkk hff))
        omega
      · rw [hn 6 _ hff (by omega), hn 19 _ hff (by omega)]
        exact ⟨c10, c11, c12⟩
    exact ⟨l, n, p, s, h3.trans c1, d1, d2.trans c3, d3, d4.trans c5, d5, d6, c8, c9, e6.1, e6.2⟩
  · -- 102
    obtain ⟨l, n, p, s, c1, c2, c3, c4, c5, c6, c7, c8, c9⟩ := z
    obtain ⟨d1, d2, d3, d4, d5, d6⟩ := hblk l n (Or.inr (Or.inl hkk)) c2 (Or.inr c3) c4 (Or.inr c5) c6 c7
    exact ⟨l, n, p, s, h3.trans c1, d1, d2.trans c3, d3, d4.trans c5, d5, d6, c8, c9⟩
  · -- 202
    obtain ⟨l, n, p, s, c1, c2, c3, c4, c5, c6, c7, c8, c9⟩ := z
    obtain ⟨d1, d2, d3, d4, d5, d6⟩ := hblk l n (Or.inr (Or.inr hkk)) c2 (Or.inl c3) c4 (Or.inr c5) c6 c7
    exact ⟨l, n, p, s, h3.trans c1, d1, d2.trans c3, d3, d4.trans c5, d5, d6, c8, c9⟩
  · -- 101
    rw [h3]; exact z
  · -- 3
    obtain ⟨z1, z2⟩ := z
    obtain ⟨a1, a2, a3, a4⟩ := hl a h1 hTa
    refine ⟨hlst 6 (by omega) z1, fun i hi => ?_⟩
    rw [a1] at hi
    obtain ⟨e1, e2, e3, e4, e5⟩ := z2 i hi
    have t0 : γ 0 (el a i) ≠ 0 := by omega
    have e6 := h45 (el a i) t0 (by rw [e3]; exact hTa) (Or.inl e1)
    rw [a4]
    refine ⟨?_, by rw [hs 1 _ t0 (by omega), hs 1 a h1 (by omega)]; exact e2, e6.1.trans e3, e6.2.trans e4, (hs 22 _ t0 (by omega)).trans e5⟩
    rcases hsm _ t0 e2 (by omega) with h | ⟨h, -⟩
    · omega
    · unfold rKc at h; omega
  · -- 4
    obtain ⟨z1, z2⟩ := z
    obtain ⟨a1, a2, a3, a4⟩ := hl a h1 hTa
    refine ⟨hlst 7 (by omega) z1, fun i hi => ?_⟩
    rw [a1] at hi
    obtain ⟨e1, e2, e3⟩ := z2 i hi
    have t0 : γ 0 (el a i) ≠ 0 := by omega
    rw [a4]
    refine ⟨?_, by rw [hs 1 _ t0 (by omega), hs 1 a h1 (by omega)]; exact e2, (hs 8 _ t0 (by omega)).trans e3⟩
    rcases hsm _ t0 e2 (by omega) with h | ⟨h, -⟩
    · omega
    · unfold rKc at h; omega
  · -- 5
    obtain ⟨z1, z2⟩ := z
    obtain ⟨a1, a2, a3, a4⟩ := hl a h1 hTa
    refine ⟨hlst 8 (by omega) z1, fun i hi => ?_⟩
    rw [a1] at hi
    obtain ⟨e1, e2, e3, e4⟩ := z2 i hi
    have t0 : γ 0 (el a i) ≠ 0 := by omega
    rw [a4]
    refine ⟨?_, by rw [hs 1 _ t0 (by omega), hs 1 a h1 (by omega)]; exact e2, (hs 8 _ t0 (by omega)).trans e3, (hs 22 _ t0 (by omega)).trans e4⟩
    rcases hsm _ t0 e2 (by omega) with h | ⟨h, -⟩
    · omega
    · unfold rKc at h; omega
  · -- 103
    exact hlst 6 (by omega) z
  · -- 9
    have hff : γ 1 a ≠ f := fun e => hTa (hc a hkk e)
    obtain ⟨lb, lr, rn, md, c1, c2, c3, c4, c5, c6, c7, c8, c9, c10, c11, c12, c13, c14, c15, c16, c17⟩ := z
    have lb0 : γ 0 lb ≠ 0 := by unfold rKd at c3; omega
    have lr0 : γ 0 lr ≠ 0 := by unfold rKd at c5; omega
    have lbT : ¬ T lb := fun t => hff (by rw [← c4]; exact hTm lb lb0 t)
    have lrT : ¬ T lr := fun t => hff (by rw [← c6]; exact hTm lr lr0 t)
    obtain ⟨b1, -, -, b4⟩ := hl lb lb0 lbT
    obtain ⟨r1, -, -, r4⟩ := hl lr lr0 lrT
    have hlb : rk_4 D I γ el F lb := RS_o hT c3
    have hlr : rk_5 D I γ el F lr := RS_o hT c5
    have kb : ∀ i, i < γ 2 lb → γ1 0 (el lb i) = γ 0 (el lb i) := fun i hi => by
      obtain ⟨e1, e2, -⟩ := hlb.2 i hi
      exact hf _ (by omega) (by rw [e2, c4]; exact hff)
    have kr : ∀ i, i < γ 2 lr → γ1 0 (el lr i) = γ 0 (el lr i) := fun i hi => by
      obtain ⟨e1, e2, -⟩ := hlr.2 i hi
      exact hf _ (by omega) (by rw [e2, c6]; exact hff)
    have hfa : γ1 1 a = γ 1 a := hs 1 a h1 (by omega)
    have hsum : rsum (fun i => γ1 2 (γ1 14 (el lb i))) md.toInt.toNat = rsum (fun i => γ 2 (γ 14 (el lb i))) md.toInt.toNat := rsum_c _ (fun i hi => by
      have hi2 : i < γ 2 lb := by omega
      obtain ⟨e1, e2, -⟩ := hlb.2 i hi2
      have i0 : γ 0 (el lb i) ≠ 0 := by omega
      show γ1 2 (γ1 14 (el lb i)) = γ 2 (γ 14 (el lb i))
      rw [hs 14 _ i0 (by omega)]
      have hx : γ 0 (γ 14 (el lb i)) ≠ 0 ∧ γ 1 (γ 14 (el lb i)) = γ 1 (el lb i) := by
        rcases c14 i (by omega) with q | ⟨-, q⟩
        · obtain ⟨l', n', p', s', w1, w2, w3, w4, -⟩ := show rk_2 γ (el lb i) (F (el lb i)) from RS_o hT q
          rw [w2.1]
          exact ⟨by unfold rKd at w3; omega, w4⟩
        · obtain ⟨l', n', p', s', w1, w2, w3, w4, -⟩ := show rk_202 γ (el lb i) (F (el lb i)) from RS_o hT q
          rw [w2.1]
          exact ⟨by unfold rKd at w3; omega, w4⟩
      exact (hl _ hx.1 (fun t => hff (by rw [← c4, ← e2, ← hx.2]; exact hTm _ hx.1 t))).1)
    refine ⟨lb, lr, rn, md, h3.trans c1, ⟨(hs 14 a h1 (by omega)).trans c2.1, (hs 15 a h1 (by omega)).trans c2.2.1, by rw [hfa, hg 21 (by omega)]; exact c2.2.2⟩, (hk lb (by unfold rKd at c3; omega) (by unfold rKd at c3; omega)).trans c3, ?_, (hk lr (by unfold rKd at c5; omega) (by unfold rKd at c5; omega)).trans c5, ?_, c7, by rw [r1]; exact c8, c9, by rw [b1]; exact c10, by rw [r1]; exact c11, by rw [b1]; exact c12, ?_, fun i hi => ?_, fun i hi hi2 => ?_, fun i hi hi2 => ?_, ?_⟩
    · unfold rFm at c4 ⊢; rw [hs 1 lb lb0 (by omega), hfa]; exact c4
    · unfold rFm at c6 ⊢; rw [hs 1 lr lr0 (by omega), hfa]; exact c6
    · rw [hfa, hn 6 _ hff (by omega), hn 19 _ hff (by omega)]; exact c13
    · rw [b4, kb i (by omega), hfa, hn 6 _ hff (by omega)]; exact c14 i hi
    · rw [b4, kb i (by omega)]; exact c15 i hi (by omega)
    · rw [r4, kr i (by omega)]; exact c16 i hi (by omega)
    · unfold rCd at c17 ⊢
      rw [hfa, hn 16 _ hff (by omega), hn 18 _ hff (by omega), b4, hsum]
      exact c17
  · -- 10
    rw [h3]
    refine rk10_t (hg 9 (by omega)) hk (fun b hb => hs 1 b hb (by omega)) (fun v9 v10 v34 r35 q => ?_) z
    have q0 := hM 0 (by omega)
    have q1 := hM 1 (by omega)
    unfold rM2 at q ⊢
    rw [hg 12 (by omega)]
    omega
  · -- 28
    rw [h3]
    obtain ⟨r, mb, c, g1, g2, g3, g4, g5⟩ := z
    unfold rKd at g4
    exact ⟨r, mb, c, g1, g2, g3, (hk r (by omega) (by omega)).trans g4, by rw [hg 12 (by omega)]; exact g5⟩
  · -- 12
    rw [h3]
    obtain ⟨g, g1, g2⟩ := z
    refine ⟨g, g1, fun i hi => ?_⟩
    rw [hg 10 (by omega), hg 12 (by omega)]
    obtain ⟨q1, q2, q3⟩ := g2 i hi
    exact ⟨q1, (hk _ (by omega) (by omega)).trans q2, q3⟩
  · -- 13
    rw [h3]
    obtain ⟨g, g1, g2⟩ := z
    refine ⟨g, g1, fun i hi => ?_⟩
    rw [hg 11 (by omega), hg 12 (by omega)]
    obtain ⟨q1, q2, q3⟩ := g2 i hi
    exact ⟨q1, (hk _ (by omega) (by omega)).trans q2, q3⟩
  all_goals first
    | exact trivial
    | (rw [h3]; exact z)
    | (rw [h3]; obtain ⟨n, g, z1, z2, z3, z4⟩ := z; exact ⟨n, g, z1, z2, z3, by rw [hg 12 (by omega)]; exact z4⟩)
end RGEN
