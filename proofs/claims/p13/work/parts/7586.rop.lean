section
/-! a block is finished; a program begun; numbers of a family -/
def gBeg (γ : Nat → Nat → Nat) (f B : Nat) : Nat → Nat → Nat
  | 0 => fun a => if γ 1 a = f then (if γ 0 a = 1 then 101 else if γ 0 a = 2 ∨ γ 0 a = 202 then 102 else if γ 0 a = 3 then 103 else γ 0 a) else γ 0 a
  | 6 => fun g => if g = f then 0 else γ 6 g
  | 7 => fun g => if g = f then 0 else γ 7 g
  | 16 => fun g => if g = f then 0 else γ 16 g
  | 18 => fun g => if g = f then 0 else γ 18 g
  | 19 => fun g => if g = f then B else γ 19 g
  | 23 => fun g => if g = f then 1 else γ 23 g
  | j => γ j
section ROP6
variable {D : va_G} {I : FieldType → ClassId} {P P1 : List Nat} {F F1 : Nat → va_E} {γ γ1 el : Nat → Nat → Nat} {l x c e e1 n1 k lb lr b n : Nat} {rn md rn1 md1 z0 z1 : Int32}
theorem RS_seal {p s : Int32} (hT : RS D I P F γ el) (hb : γ 0 b = 202) (hF : F b = .inr (17, [.ref l, .ref n, .int p, .int s])) (hc : γ 0 c = 9) (hcf : γ 1 c = γ 1 b) (hp : p.toInt < γ 19 (γ 1 b)) (hs : s.toInt < γ 19 (γ 1 b)) (hv : γ 6 (γ 1 b) = 0) (hn1 : rk_1 γ n (F n)) : RS D I P F (gSea γ b n) el := by
  obtain ⟨u1, u2, u3, u4, u5, u6, u7, u8⟩ := rk202_at hF (show rk_202 γ b (F b) from RS_o hT hb)
  have hbn : b ≠ n := fun q => by rw [q, u4] at hb; cases hb
  have k0 : ∀ a, a ≠ b → a ≠ n → (gSea γ b n) 0 a = γ 0 a := fun a h1 h2 => (if_neg h1).trans (if_neg h2)
  have kb : (gSea γ b n) 0 b = 2 := if_pos rfl
  have kn : (gSea γ b n) 0 n = 1 := (if_neg (Ne.symm hbn)).trans (if_pos rfl)
  have nb : ∀ a, γ 0 a ≠ 202 → a ≠ b := fun a h q => h (by rw [q]; exact hb)
  have nn : ∀ a, γ 0 a ≠ 101 → a ≠ n := fun a h q => h (by rw [q]; exact u4)
  have hlk : ∀ w, rLK γ w → rLK (gSea γ b n) w := fun w hw => by
    by_cases q : w = b
    · rw [q]; exact Or.inr (Or.inl kb)
    · by_cases q2 : w = n
      · rw [q2]; exact Or.inl kn
      · unfold rLK at hw ⊢
        rw [k0 w q q2]
        exact hw
  refine RS_gen (T := fun a => a = c ∨ a = b ∨ a = n) (γ 1 b) hT (fun a ha => ?_) (fun a ha hTa => ?_) (fun a ha hTa => ?_) (fun a h0 hTa => ?_) (fun a h4 h100 => k0 a (nb a (by omega)) (nn a (by omega))) (fun a h0 hf => k0 a (fun q => hf (by rw [q])) (fun q => hf (by rw [q]; exact u5))) hlk (fun j a h0 hj => ?_) (fun j hj => ?_) (fun j g hg hj => ?_) (Or.inl (Nat.le_refl _)) (Or.inl ⟨Nat.le_refl _, Or.inl rfl⟩) (fun g _ h => h) (fun a h0 hTa => ⟨rfl, rfl, rfl, rfl⟩) (fun e' he' hTe => rfl) (fun a h0 hTa ha => ⟨rfl, rfl⟩) (fun a ha haf => Or.inl (RS_same_c hT hc ha (haf.trans hcf.symm))) (Or.inr ⟨fun a h0 => ?_, fun a ha hne => ?_, fun a ha hne h22 => ?_⟩)
  · by_cases q : a = b
    · rw [q]; exact hT.1 b (by rw [hb]; decide)
    · by_cases q2 : a = n
      · rw [q2]; exact hT.1 n (by rw [u4]; decide)
      · rw [k0 a q q2] at ha; exact hT.1 a ha
  · rcases hTa with rfl | rfl | rfl
    · rw [k0 a (nb a (by rw [hc]; decide)) (nn a (by rw [hc]; decide)), hc]
      obtain ⟨lb, lr, rn, md, w1, w2, w3, w4, w5, w6, w7, w8, w9, w10, w11, w12, w13, w14, w15, w16, w17⟩ := show rk_9 γ el a (F a) from RS_o hT hc
      unfold rKd at w3 w5
      have hlr5 : rk_5 D I γ el F lr := RS_o hT w5
      refine ⟨lb, lr, rn, md, w1, w2, (k0 lb (nb lb (by rw [w3]; decide)) (nn lb (by rw [w3]; decide))).trans w3, w4, (k0 lr (nb lr (by rw [w5]; decide)) (nn lr (by rw [w5]; decide))).trans w5, w6, w7, w8, w9, w10, w11, w12, w13, fun i hi => ?_, fun i hi hi2 => ?_, fun i hi hi2 => ?_, w17⟩
      · have v := w14 i hi
        by_cases q : el lb i = b
        · rw [q]; exact Or.inl kb
        · have q2 : el lb i ≠ n := nn _ (by omega)
          rw [k0 _ q q2]
          exact v
      · have v := w15 i hi hi2
        rw [k0 _ (nb _ (by omega)) (nn _ (by omega))]
        exact v
      · have v := w16 i hi hi2
        have v22 := (hlr5.2 i hi2).2.2.2
        rw [k0 _ (nb _ (by omega)) (fun q => by rw [q, u6.2] at v22; cases v22)]
        exact v
    · rw [kb]
      exact ⟨l, n, p, s, hF, u1, (k0 l (nb l (by rw [u2]; decide)) (nn l (by rw [u2]; decide))).trans u2, u3, kn, u5, u6, u7, u8, Or.inl hv, hp, hs⟩
    · rw [kn]
      exact hn1
  · have hb' : a ≠ b := fun q => hTa (Or.inr (Or.inl q))
    have hn' : a ≠ n := fun q => hTa (Or.inr (Or.inr q))
    rw [k0 a hb' hn'] at ha
    exact ⟨ha, k0 a hb' hn', rfl⟩
  · rcases hTa with rfl | rfl | rfl
    · exact hcf
    · rfl
    · exact u5
  · rcases hj with rfl | rfl | rfl | rfl | rfl | rfl | rfl <;> rfl
  · rcases hj with rfl | rfl | rfl | rfl | rfl <;> rfl
  · rcases hj with rfl | rfl | rfl | rfl | rfl <;> rfl
  · by_cases q : a = b
    · rw [q, kb]; exact Or.inr (Or.inr (Or.inr (Or.inl ⟨hb, rfl⟩)))
    · by_cases q2 : a = n
      · rw [q2, kn]; exact Or.inr (Or.inl ⟨u4, rfl⟩)
      · exact Or.inl (k0 a q q2)
  · exact absurd ((k0 a (nb a (by omega)) (nn a (by omega))).trans ha) hne
  · by_cases q2 : a = n
    · rw [q2, u6.1]; exact Or.inr (Or.inl rfl)
    · exact absurd ((k0 a (nb a (by omega)) q2).trans ha) hne
/-- numbers of a family change alone -/
theorem RS_num (f : Nat) (hT : RS D I P F γ el) (hc : γ 0 c = 9) (hcf : γ 1 c = f) (hj : ∀ j, j ≠ 6 → j ≠ 7 → j ≠ 19 → j ≠ 23 → γ1 j = γ j) (hg : ∀ j g, g ≠ f → γ1 j g = γ j g) (h7 : γ 7 f ≤ γ1 7 f) (h19 : γ 19 f ≤ γ1 19 f ∧ (γ1 6 f = γ 6 f ∨ γ1 6 f = 0 ∨ γ 19 f ≤ γ1 6 f)) (h23 : ∀ g, g < 2 → 0 < γ 6 g ∨ 0 < γ 23 g → 0 < γ1 6 g ∨ 0 < γ1 23 g)
    (h9 : ∀ lb lr rn md, F c = .inr (18, [.ref lb, .ref lr, .int rn, .int md]) → rk_9 γ el c (F c) → (γ1 6 f = 0 ∨ (md.toInt = γ1 6 f ∧ md.toInt ≤ 40 ∧ γ1 19 f ≤ γ1 6 f)) ∧ (∀ i : Nat, (i : Int) < md.toInt → γ 0 (el lb i) = 2 ∨ (γ1 6 f = 0 ∧ γ 0 (el lb i) = 202))) : RS D I P F γ1 el := by
  have e : ∀ j, j ≠ 6 → j ≠ 7 → j ≠ 19 → j ≠ 23 → ∀ a, γ1 j a = γ j a := fun j h1 h2 h3 h4 a => by rw [hj j h1 h2 h3 h4]
  have e0 := e 0 (by decide) (by decide) (by decide) (by decide)
  refine RS_gen (T := fun a => a = c) f hT (fun a ha => hT.1 a (by rw [e0] at ha; exact ha)) (fun a ha hTa => ?_) (fun a ha hTa => ⟨by rw [e0] at ha; exact ha, e0 a, rfl⟩) (fun a h0 hTa => by rw [hTa]; exact hcf) (fun a _ _ => e0 a) (fun a _ _ => e0 a) (fun w hw => by unfold rLK at hw ⊢; rw [e0]; exact hw) (fun j a h0 hj => ?_) (fun j hj => ?_) (fun j g hne _ => hg j g hne) (Or.inl h7) (Or.inl h19) h23 (fun a h0 hTa => ⟨e 2 (by decide) (by decide) (by decide) (by decide) a, e 13 (by decide) (by decide) (by decide) (by decide) a, e 17 (by decide) (by decide) (by decide) (by decide) a, rfl⟩) (fun e' he' hTe => rfl) (fun a h0 hTa ha => ⟨e 4 (by decide) (by decide) (by decide) (by decide) a, e 5 (by decide) (by decide) (by decide) (by decide) a⟩) (fun a ha haf => RS_same_c hT hc ha (haf.trans hcf.symm)) (Or.inr ⟨fun a h0 => Or.inl (e0 a), fun a ha hne => absurd ((e0 a).trans ha) hne, fun a ha hne h22 => absurd ((e0 a).trans ha) hne⟩)
  · rw [hTa, e0, hc]
    have h9' : rk_9 γ el c (F c) := RS_o hT hc
    obtain ⟨lb, lr, rn, md, w1, w2, w3, w4, w5, w6, w7, w8, w9, w10, w11, w12, w13, w14, w15, w16, w17⟩ := show rk_9 γ el c (F c) from RS_o hT hc
    obtain ⟨g1, g2⟩ := h9 lb lr rn md w1 h9'
    have e1 := e 1 (by decide) (by decide) (by decide) (by decide)
    have e2 := hj 2 (by decide) (by decide) (by decide) (by decide)
    have e14 := hj 14 (by decide) (by decide) (by decide) (by decide)
    refine ⟨lb, lr, rn, md, w1, ⟨by rw [e14]; exact w2.1, by rw [hj 15 (by decide) (by decide) (by decide) (by decide)]; exact w2.2.1, by rw [e1, hj 21 (by decide) (by decide) (by decide) (by decide)]; exact w2.2.2⟩, (e0 lb).trans w3, ?_, (e0 lr).trans w5, ?_, w7, by rw [e2]; exact w8, w9, by rw [e2]; exact w10, by rw [e2]; exact w11, by rw [e2]; exact w12, ?_, fun i hi => ?_, fun i hi hi2 => ?_, fun i hi hi2 => ?_, ?_⟩
    · unfold rFm; rw [e1, e1]; exact w4
    · unfold rFm; rw [e1, e1]; exact w6
    · rw [e1, hcf]; exact g1
    · rw [e0, e1, hcf]; exact g2 i hi
    · rw [e2] at hi2; rw [e0]; exact w15 i hi hi2
    · rw [e2] at hi2; rw [e0]; exact w16 i hi hi2
    · unfold rCd at w17 ⊢
      rw [e1, hj 16 (by decide) (by decide) (by decide) (by decide), hj 18 (by decide) (by decide) (by decide) (by decide), e2, e14]
      exact w17
  · rcases hj with rfl | rfl | rfl | rfl | rfl | rfl | rfl <;> exact e _ (by decide) (by decide) (by decide) (by decide) a
  · rcases hj with rfl | rfl | rfl | rfl | rfl <;> exact hj _ (by decide) (by decide) (by decide) (by decide)
theorem rk1_R {a : Nat} {q : va_E} (h : rk_1 γ a q) : rkR q := by
  obtain ⟨op, t, x, y, s, ra, rb, c1, c2, c3, c4, c5, c6, c7, c8, c9, -⟩ := h
  exact ⟨op, t, x, y, s, ra, rb, c1, c2, c3, c4, c5, c6, c7, c8, c9⟩
theorem RS_beg (B : Nat) (hT : RS D I P F γ el) (hc : γ 0 c = 9) (hF : F c = .inr (18, [.ref lb, .ref lr, .int rn, .int md])) (hfr : ∀ a, γ 0 a ≠ 0 → a ≠ c → F1 a = F a) (c1 : F1 c = .inr (18, [.ref lb, .ref lr, .int 0, .int 0])) : RS D I P F1 (gBeg γ (γ 1 c) B) el := by
  obtain ⟨w2, w3, w4, w5, w6, w7, w8, w9, w10, w11, w12, w13, w14, w15, w16, w17⟩ := rk9_at hF (show rk_9 γ el c (F c) from RS_o hT hc)
  generalize hγ1 : gBeg γ (γ 1 c) B = γ1
  have kf : ∀ a, γ 1 a ≠ γ 1 c → γ1 0 a = γ 0 a := fun a h => by rw [← hγ1]; exact if_neg h
  have kx : ∀ a, γ 1 a = γ 1 c → γ1 0 a = (if γ 0 a = 1 then 101 else if γ 0 a = 2 ∨ γ 0 a = 202 then 102 else if γ 0 a = 3 then 103 else γ 0 a) := fun a h => by rw [← hγ1]; exact if_pos h
  have ko : ∀ a, γ 0 a ≠ 1 → γ 0 a ≠ 2 → γ 0 a ≠ 202 → γ 0 a ≠ 3 → γ1 0 a = γ 0 a := fun a h1 h2 h3 h4 => by
    by_cases q : γ 1 a = γ 1 c
    · rw [kx a q, if_neg h1, if_neg (fun z => by rcases z with z | z; exact h2 z; exact h3 z), if_neg h4]
    · exact kf a q
  have kr : ∀ a, γ 1 a = γ 1 c → γ 0 a = 1 ∨ γ 0 a = 101 → γ1 0 a = 101 := fun a h h2 => by
    rcases h2 with h2 | h2
    · rw [kx a h, if_pos h2]
    · exact (ko a (by omega) (by omega) (by omega) (by omega)).trans h2
  have kb : ∀ a, γ 1 a = γ 1 c → γ 0 a = 2 ∨ γ 0 a = 202 ∨ γ 0 a = 102 → γ1 0 a = 102 := fun a h h2 => by
    rcases h2 with h2 | h2 | h2
    · rw [kx a h, if_neg (by omega), if_pos (Or.inl h2)]
    · rw [kx a h, if_neg (by omega), if_pos (Or.inr h2)]
    · exact (ko a (by omega) (by omega) (by omega) (by omega)).trans h2
  have kl : ∀ a, γ 1 a = γ 1 c → γ 0 a = 3 ∨ γ 0 a = 103 → γ1 0 a = 103 := fun a h h2 => by
    rcases h2 with h2 | h2
    · rw [kx a h, if_neg (by omega), if_neg (by omega), if_pos h2]
    · exact (ko a (by omega) (by omega) (by omega) (by omega)).trans h2
  have kz : ∀ a, γ1 0 a ≠ 0 → γ 0 a ≠ 0 := fun a h q => h ((ko a (by omega) (by omega) (by omega) (by omega)).trans q)
  have kj : ∀ j, j = 1 ∨ j = 2 ∨ j = 3 ∨ j = 4 ∨ j = 5 ∨ j = 8 ∨ j = 9 ∨ j = 10 ∨ j = 11 ∨ j = 12 ∨ j = 13 ∨ j = 14 ∨ j = 15 ∨ j = 17 ∨ j = 20 ∨ j = 21 ∨ j = 22 → γ1 j = γ j := fun j hj => by
    rw [← hγ1]
    rcases hj with rfl | rfl | rfl | rfl | rfl | rfl | rfl | rfl | rfl | rfl | rfl | rfl | rfl | rfl | rfl | rfl | rfl <;> rfl
  have kn : ∀ j g, g ≠ γ 1 c → j = 6 ∨ j = 7 ∨ j = 16 ∨ j = 18 ∨ j = 19 → γ1 j g = γ j g := fun j g hg hj => by
    rw [← hγ1]
    rcases hj with rfl | rfl | rfl | rfl | rfl <;> exact if_neg hg
  have k6 : γ1 6 (γ 1 c) = 0 := by rw [← hγ1]; exact if_pos rfl
  have k16 : γ1 16 (γ 1 c) = 0 := by rw [← hγ1]; exact if_pos rfl
  have k18 : γ1 18 (γ 1 c) = 0 := by rw [← hγ1]; exact if_pos rfl
  have hM : ∀ g, g < 2 → 0 < γ 6 g ∨ 0 < γ 23 g → 0 < γ1 6 g ∨ 0 < γ1 23 g := fun g _ h => by
    by_cases q : g = γ 1 c
    · right
      rw [← hγ1]
      show 0 < (if g = γ 1 c then 1 else γ 23 g)
      rw [if_pos q]
      decide
    · rw [kn 6 g q (by decide)]
      have : γ1 23 g = γ 23 g := by rw [← hγ1]; exact if_neg q
      rw [this]
      exact h
  clear hγ1
  have k1 : γ1 1 = γ 1 := kj 1 (by decide)
  have hlk : ∀ w, rLK γ w → rLK γ1 w := fun w hw => by
    by_cases q : γ 1 w = γ 1 c
    · unfold rLK at hw
      by_cases q2 : γ 0 w = 1 ∨ γ 0 w = 101
      · exact Or.inr (Or.inr (Or.inl (kr w q q2)))
      · exact Or.inr (Or.inr (Or.inr (Or.inl (kb w q (by omega)))))
    · unfold rLK at hw ⊢
      rw [kf w q]
      exact hw
  have hL : ∀ ka a, ka = 6 ∨ ka = 7 ∨ ka = 8 → a ≠ c → γ 0 a ≠ 0 → rkL D I γ el F ka a → rkL D I γ1 el F1 ka a := fun ka a hka hac h0 z => by
    refine rkL_t (hfr a h0 hac) ⟨by rw [kj 2 (by decide)], by rw [kj 13 (by decide)], by rw [kj 17 (by decide)], rfl⟩ (fun e he he3 => ⟨hfr e (by omega) (fun q => by rw [q, hc] at he; omega), ko e (by omega) (by omega) (by omega) (by omega), by rw [kj 3 (by decide)], by rw [k1]⟩) (by rw [k1]) hlk z
  have hB : ∀ a (l n : Nat), γ 1 a = γ 1 c → rGl γ a l n → (γ 0 l = 3 ∨ γ 0 l = 103) → γ 1 l = γ 1 a → (γ 0 n = 1 ∨ γ 0 n = 101) → γ 1 n = γ 1 a → rOw γ n a → rGl γ1 a l n ∧ rKd γ1 l 103 ∧ rFm γ1 l a ∧ rKd γ1 n 101 ∧ rFm γ1 n a ∧ rOw γ1 n a := fun a l n hf g1 g2 g3 g4 g5 g6 => by
    unfold rGl rKd rFm rOw
    rw [k1, kj 14 (by decide), kj 15 (by decide), kj 20 (by decide), kj 4 (by decide), kj 22 (by decide)]
    exact ⟨g1, kl l (by omega) g2, g3, kr n (by omega) g4, g5, g6⟩
  refine RS_gen (T := fun a => γ 1 a = γ 1 c ∧ (γ 0 a < 10 ∨ 100 ≤ γ 0 a)) (γ 1 c) hT (fun a ha => hT.1 a (kz a ha)) (fun a ha hTa => ?_) (fun a ha hTa => ?_) (fun a h0 hTa => hTa.1) (fun a h4 h100 => ko a (by omega) (by omega) (by omega) (by omega)) (fun a h0 hf => kf a hf) hlk (fun j a h0 hj => ?_) (fun j hj => kj j (by omega)) kn (Or.inr (fun a ha haf => ⟨haf, by omega⟩)) (Or.inr (fun a ha haf => ⟨haf, by omega⟩)) hM (fun a h0 hTa => ⟨by rw [kj 2 (by decide)], by rw [kj 13 (by decide)], by rw [kj 17 (by decide)], rfl⟩) (fun e' he' hTe => hfr e' (by omega) (fun q => by rw [q, hc] at he'; omega)) (fun a h0 hTa ha => ⟨by rw [kj 4 (by decide)], by rw [kj 5 (by decide)]⟩) (fun a ha haf => ⟨haf, by omega⟩) (Or.inl (fun a h0 haf hk => ⟨haf, hk⟩))
  · obtain ⟨hf, hk⟩ := hTa
    have h0 := kz a ha
    have z := hT.2 a
    by_cases ec : a = c
    · subst ec
      rw [ko a (by omega) (by omega) (by omega) (by omega), hc]
      have h4 : rk_4 D I γ el F lb := RS_o hT w3
      have h5 : rk_5 D I γ el F lr := RS_o hT w5
      refine ⟨lb, lr, 0, 0, c1, ?_, (ko lb (by omega) (by omega) (by omega) (by omega)).trans w3, ?_, (ko lr (by omega) (by omega) (by omega) (by omega)).trans w5, ?_, by decide, ?_, by decide, ?_, by rw [kj 2 (by decide)]; exact w11, by rw [kj 2 (by decide)]; exact w12, Or.inl (by rw [k1]; exact k6), fun i hi => absurd hi ?_, fun i hi hi2 => ?_, fun i hi hi2 => ?_, ?_⟩
      · unfold rGc; rw [k1, kj 14 (by decide), kj 15 (by decide), kj 21 (by decide)]; exact w2
      · unfold rFm; rw [k1]; exact w4
      · unfold rFm; rw [k1]; exact w6
      · show (0 : Int) ≤ _; omega
      · show (0 : Int) ≤ _; omega
      · show ¬ ((i : Int) < 0); omega
      · rw [kj 2 (by decide)] at hi2
        obtain ⟨v1, v2, v3⟩ := h4.2 i hi2
        exact kb _ (v2.trans w4) v1
      · rw [kj 2 (by decide)] at hi2
        obtain ⟨v1, v2, v3⟩ := h5.2 i hi2
        exact kr _ (v2.trans w6) v1
      · unfold rCd
        rw [k1, k16, k18]
        exact ⟨rfl, Nat.le_refl _⟩
    have hFa : F1 a = F a := hfr a h0 ec
    by_cases hx : γ 0 a = 1 ∨ γ 0 a = 2 ∨ γ 0 a = 102 ∨ γ 0 a = 202 ∨ γ 0 a = 101 ∨ γ 0 a = 3 ∨ γ 0 a = 4 ∨ γ 0 a = 5 ∨ γ 0 a = 103 ∨ γ 0 a = 9
    rcases hx with hkk | hkk | hkk | hkk | hkk | hkk | hkk | hkk | hkk | hkk <;> rw [hkk] at z
    · rw [kr a hf (Or.inl hkk)]
      show rkR (F1 a)
      rw [hFa]; exact rk1_R (show rk_1 γ a (F a) from z)
    · obtain ⟨l, n, p, s, v1, v2, v3, v4, v5, v6, v7, v8, v9, -⟩ := show rk_2 γ a (F a) from z
      obtain ⟨u1, u2, u3, u4, u5, u6⟩ := hB a l n hf v2 (Or.inl v3) v4 (Or.inl v5) v6 v7
      rw [kb a hf (Or.inl hkk)]
      exact ⟨l, n, p, s, hFa.trans v1, u1, u2, u3, u4, u5, u6, v8, v9⟩
    · obtain ⟨l, n, p, s, v1, v2, v3, v4, v5, v6, v7, v8, v9⟩ := show rk_102 γ a (F a) from z
      obtain ⟨u1, u2, u3, u4, u5, u6⟩ := hB a l n hf v2 (Or.inr v3) v4 (Or.inr v5) v6 v7
      rw [kb a hf (Or.inr (Or.inr hkk))]
      exact ⟨l, n, p, s, hFa.trans v1, u1, u2, u3, u4, u5, u6, v8, v9⟩
    · obtain ⟨l, n, p, s, v1, v2, v3, v4, v5, v6, v7, v8, v9⟩ := show rk_202 γ a (F a) from z
      obtain ⟨u1, u2, u3, u4, u5, u6⟩ := hB a l n hf v2 (Or.inl v3) v4 (Or.inr v5) v6 v7
      rw [kb a hf (Or.inr (Or.inl hkk))]
      exact ⟨l, n, p, s, hFa.trans v1, u1, u2, u3, u4, u5, u6, v8, v9⟩
    · rw [kr a hf (Or.inr hkk)]
      show rkR (F1 a)
      rw [hFa]; exact z
    · rw [kl a hf (Or.inl hkk)]
      exact hL 6 a (by omega) ec h0 (show rk_3 D I γ el F a from z).1
    · rw [ko a (by omega) (by omega) (by omega) (by omega), hkk]
      have z : rk_4 D I γ el F a := z
      refine ⟨hL 7 a (by omega) ec h0 z.1, fun i hi => ?_⟩
      rw [kj 2 (by decide)] at hi
      rw [k1, kj 8 (by decide)]
      obtain ⟨v1, v2, v3⟩ := z.2 i hi
      exact ⟨Or.inr (Or.inr (kb _ (v2.trans hf) v1)), v2, v3⟩
    · rw [ko a (by omega) (by omega) (by omega) (by omega), hkk]
      have z : rk_5 D I γ el F a := z
      refine ⟨hL 8 a (by omega) ec h0 z.1, fun i hi => ?_⟩
      rw [kj 2 (by decide)] at hi
      rw [k1, kj 8 (by decide), kj 22 (by decide)]
      obtain ⟨v1, v2, v3⟩ := z.2 i hi
      exact ⟨Or.inr (kr _ (v2.trans hf) v1), v2, v3⟩
    · rw [kl a hf (Or.inr hkk)]
      exact hL 6 a (by omega) ec h0 z
    · exact absurd (RS_same_c hT hc hkk hf) ec
    · rw [ko a (by omega) (by omega) (by omega) (by omega)]
      clear z
      unfold rFit
      split <;> first
        | exact trivial
        | (exfalso; omega)
  · have h0 := kz a ha
    have hne : γ1 0 a = γ 0 a := by
      by_cases q : γ 1 a = γ 1 c
      · exact ko a (fun z => hTa ⟨q, by omega⟩) (fun z => hTa ⟨q, by omega⟩) (fun z => hTa ⟨q, by omega⟩) (fun z => hTa ⟨q, by omega⟩)
      · exact kf a q
    exact ⟨h0, hne, hfr a h0 (fun q => hTa ⟨by rw [q], by rw [q]; omega⟩)⟩
  · rw [kj j (by omega)]
end ROP6
end
section
/-! what a step of the programs keeps; the room of the lists -/
def rPhc (γ el : Nat → Nat → Nat) (lb lr : Nat) : Nat := 4 * γ 13 lb + 4 * γ 13 lr + 18 * γ 2 lr + 54 * γ 2 lb + rsum (fun i => 4 * γ 13 (γ 14 (el lb i))) (γ 2 lb)
/-- what was made for the lists of a family: cells at 18, slots at 1 -/
def rPh (γ el : Nat → Nat → Nat) (f : Nat) : Nat := rPhc γ el (γ 14 (γ 21 f)) (γ 15 (γ 21 f))
def rMc (γ el : Nat → Nat → Nat) (lb lr : Nat) : Nat := 9 * γ 17 lb + 9 * γ 17 lr + 18 * γ 2 lr + 54 * γ 2 lb + 300 + rsum (fun i => 9 * γ 17 (γ 14 (el lb i)) + 60) (γ 2 lb)
/-- more than that, by the largest sizes -/
def rM (γ el : Nat → Nat → Nat) (f : Nat) : Nat := rMc γ el (γ 14 (γ 21 f)) (γ 15 (γ 21 f))
def rEx (f : Nat) (K : List Nat) (γ γ1 el el1 : Nat → Nat → Nat) : Prop :=
  (∀ a, γ 0 a ≠ 0 → γ 1 a ≠ f ∨ γ 0 a ∉ K → γ1 0 a = γ 0 a) ∧
  (∀ a, γ 0 a ≠ 0 → γ1 0 a ≠ 0 ∧ γ1 1 a = γ 1 a ∧ γ1 14 a = γ 14 a ∧ γ1 15 a = γ 15 a ∧ γ1 8 a = γ 8 a ∧ γ1 20 a = γ 20 a ∧ γ1 22 a = γ 22 a) ∧
  (∀ a, γ 0 a ≠ 0 → γ 1 a ≠ f → γ1 2 a = γ 2 a ∧ γ1 13 a = γ 13 a ∧ γ1 17 a = γ 17 a ∧ el1 a = el a) ∧
  (γ1 9 = γ 9 ∧ γ1 10 = γ 10 ∧ γ1 11 = γ 11 ∧ γ1 12 = γ 12 ∧ γ1 21 = γ 21) ∧
  ∀ g, g ≠ f → γ1 6 g = γ 6 g ∧ γ1 7 g = γ 7 g ∧ γ1 16 g = γ 16 g ∧ γ1 18 g = γ 18 g ∧ γ1 19 g = γ 19 g ∧ γ1 23 g = γ 23 g
def rFf (f : Nat) (K : List Nat) (γ : Nat → Nat → Nat) (F F1 : Nat → va_E) : Prop := ∀ a, γ 0 a ≠ 0 → γ 0 a ∉ K ∨ (γ 1 a ≠ f ∧ (γ 0 a ≤ 9 ∨ 100 ≤ γ 0 a)) → F1 a = F a
def rNu (f : Nat) (γ γ1 : Nat → Nat → Nat) : Prop := γ1 6 f = γ 6 f ∧ γ1 7 f = γ 7 f ∧ γ1 19 f = γ 19 f ∧ γ1 23 f = γ 23 f
/-- a step of family f: kinds of K may change (in f), cells of the kinds KF (the programs' in f alone) -/
def rSt (f : Nat) (K KF : List Nat) (D : va_G) (I : FieldType → ClassId) (P : List Nat) (F : Nat → va_E) (γ el : Nat → Nat → Nat) (P1 : List Nat) (F1 : Nat → va_E) (γ1 el1 : Nat → Nat → Nat) : Prop :=
  RS D I P1 F1 γ1 el1 ∧ rSub P P1 ∧ rEx f K γ γ1 el el1 ∧ rFf f KF γ F F1
section RPH
variable {D : va_G} {I : FieldType → ClassId} {P P1 P2 : List Nat} {F F1 F2 : Nat → va_E} {γ el γ1 el1 γ2 el2 : Nat → Nat → Nat} {f a k : Nat} {K K2 KF KF2 : List Nat}
theorem rEx_rf : rEx f K γ γ el el := ⟨fun _ _ _ => rfl, fun _ h => ⟨h, rfl, rfl, rfl, rfl, rfl, rfl⟩, fun _ _ _ => ⟨rfl, rfl, rfl, rfl⟩, ⟨rfl, rfl, rfl, rfl, rfl⟩, fun _ _ => ⟨rfl, rfl, rfl, rfl, rfl, rfl⟩⟩
theorem rSt_rf (hT : RS D I P F γ el) : rSt f K KF D I P F γ el P F γ el := ⟨hT, rSub_rf, rEx_rf, fun _ _ _ => rfl⟩
theorem rEx_tr (h : rEx f K γ γ1 el el1) (g : rEx f K2 γ1 γ2 el1 el2) (hk : ∀ j, j ∈ K2 → j ∈ K) : rEx f K γ γ2 el el2 := by
  obtain ⟨a1, a2, a3, ⟨a4, a5, a6, a7, a8⟩, a9⟩ := h
  obtain ⟨b1, b2, b3, ⟨b4, b5, b6, b7, b8⟩, b9⟩ := g
  refine ⟨fun a h0 hx => ?_, fun a h0 => ?_, fun a h0 hf => ?_, ⟨b4.trans a4, b5.trans a5, b6.trans a6, b7.trans a7, b8.trans a8⟩, fun g hg => ?_⟩
  · obtain ⟨c0, c1, -⟩ := a2 a h0
    have e := a1 a h0 hx
    rw [b1 a c0 (by rw [c1, e]; rcases hx with hx | hx; exact Or.inl hx; exact Or.inr (fun z => hx (hk _ z))), e]
  · obtain ⟨c0, c1, c2, c3, c4, c5, c6⟩ := a2 a h0
    obtain ⟨d0, d1, d2, d3, d4, d5, d6⟩ := b2 a c0
    exact ⟨d0, d1.trans c1, d2.trans c2, d3.trans c3, d4.trans c4, d5.trans c5, d6.trans c6⟩
  · obtain ⟨c0, c1, -⟩ := a2 a h0
    obtain ⟨e1, e2, e3, e4⟩ := a3 a h0 hf
    obtain ⟨g1, g2, g3, g4⟩ := b3 a c0 (by rw [c1]; exact hf)
    exact ⟨g1.trans e1, g2.trans e2, g3.trans e3, g4.trans e4⟩
  · obtain ⟨e1, e2, e3, e4, e5, e6⟩ := a9 g hg
    obtain ⟨g1, g2, g3, g4, g5, g6⟩ := b9 g hg
    exact ⟨g1.trans e1, g2.trans e2, g3.trans e3, g4.trans e4, g5.trans e5, g6.trans e6⟩
/-- kinds that change lie in KF too: a cell whose kind changes to one outside counts as changed -/
theorem rFf_tr (hx : rEx f K γ γ1 el el1) (h : rFf f KF γ F F1) (g : rFf f KF2 γ1 F1 F2) (hk : ∀ j, j ∈ KF2 → j ∈ KF) (hK : ∀ j, j ∈ K → j ∈ KF ∧ (j ≤ 9 ∨ 100 ≤ j)) : rFf f KF γ F F2 := fun a h0 hx2 => by
  obtain ⟨c0, c1, -⟩ := hx.2.1 a h0
  have hkn : γ 1 a ≠ f ∨ γ 0 a ∉ K := by
    rcases hx2 with q | q
    · exact Or.inr (fun z => q (hK _ z).1)
    · exact Or.inl q.1
  have e := hx.1 a h0 hkn
  have e2 := h a h0 hx2
  refine (g a c0 ?_).trans e2
  rw [e, c1]
  rcases hx2 with q | q
  · exact Or.inl (fun z => q (hk _ z))
  · exact Or.inr q
theorem rSt_tr (h : rSt f K KF D I P F γ el P1 F1 γ1 el1) (g : rSt f K2 KF2 D I P1 F1 γ1 el1 P2 F2 γ2 el2) (hk : ∀ j, j ∈ K2 → j ∈ K) (hkf : ∀ j, j ∈ KF2 → j ∈ KF) (hK : ∀ j, j ∈ K → j ∈ KF ∧ (j ≤ 9 ∨ 100 ≤ j)) : rSt f K KF D I P F γ el P2 F2 γ2 el2 :=
  ⟨g.1, rSub_tr h.2.1 g.2.1, rEx_tr h.2.2.1 g.2.2.1 hk, rFf_tr h.2.2.1 h.2.2.2 g.2.2.2 hkf hK⟩
/-- a step that keeps the ghosts -/
theorem rSt_put (h : rSt f K KF D I P F γ el P1 F1 γ1 el1) (hT : RS D I P1 F2 γ1 el1) (n : ∀ b, b ≠ a → F2 b = F1 b) (hk : rKd γ1 a k) (hk2 : k ∈ KF) (hf : (9 < k ∧ k < 100) ∨ γ1 1 a = f) (hK : ∀ j, j ∈ K → j ∈ KF ∧ (j ≤ 9 ∨ 100 ≤ j)) : rSt f K KF D I P F γ el P1 F2 γ1 el1 :=
  rSt_tr h (K2 := []) (KF2 := KF) ⟨hT, rSub_rf, rEx_rf, fun b h0 hx => n b (fun e => by
    subst e
    unfold rKd at hk
    rw [hk] at hx
    rcases hx with hx | hx
    · exact hx hk2
    · rcases hf with hf | hf
      · omega
      · exact hx.1 hf)⟩ (fun _ z => nomatch z) (fun _ z => z) hK
theorem rSt_str (h : rSt f K KF D I P F γ el P1 F1 γ1 el1) (hT : RS D I P1 F2 γ1 el1) (W : List Nat) (hs : rStr γ1 W F1 F2) (hW : W = []) (hN : ∀ j, 9 < j → j < 100 → j ∈ KF ∨ 36 < j) (h36 : ∀ b, 36 < γ1 0 b → γ1 0 b < 100 → F2 b = F1 b) (hK : ∀ j, j ∈ K → j ∈ KF ∧ (j ≤ 9 ∨ 100 ≤ j)) : rSt f K KF D I P F γ el P1 F2 γ1 el1 :=
  rSt_tr h (K2 := []) (KF2 := KF) ⟨hT, rSub_rf, rEx_rf, fun b h0 hx => by
    subst hW
    by_cases q : γ1 0 b ≤ 9 ∨ 100 ≤ γ1 0 b
    · exact hs b h0 (by omega) (List.not_mem_nil)
    · rcases hN (γ1 0 b) (by omega) (by omega) with z | z
      · rcases hx with hx | hx
        · exact absurd z hx
        · exact absurd hx.2 q
      · exact h36 b z (by omega)⟩ (fun _ z => nomatch z) (fun _ z => z) hK
-- what a step gives of a cell
theorem rSt_k (h : rSt f K KF D I P F γ el P1 F1 γ1 el1) (hk : rKd γ a k) (h0 : k ≠ 0) (hK : k ∉ K) : rKd γ1 a k := by
  have e : γ 0 a = k := hk
  exact (h.2.2.1.1 a (by omega) (Or.inr (by rw [e]; exact hK))).trans e
theorem rSt_kf (h : rSt f K KF D I P F γ el P1 F1 γ1 el1) (hk : rKd γ a k) (h0 : k ≠ 0) (hf : γ 1 a ≠ f) : rKd γ1 a k := by
  have e : γ 0 a = k := hk
  exact (h.2.2.1.1 a (by omega) (Or.inl hf)).trans e
theorem rSt_s (h : rSt f K KF D I P F γ el P1 F1 γ1 el1) (hk : rKd γ a k) (h0 : k ≠ 0) : γ1 1 a = γ 1 a ∧ γ1 14 a = γ 14 a ∧ γ1 15 a = γ 15 a ∧ γ1 8 a = γ 8 a ∧ γ1 20 a = γ 20 a ∧ γ1 22 a = γ 22 a := (h.2.2.1.2.1 a (by unfold rKd at hk; omega)).2
theorem rSt_fm {b j : Nat} (h : rSt f K KF D I P F γ el P1 F1 γ1 el1) (hk : rKd γ a k) (h0 : k ≠ 0) (hb : rKd γ b j) (j0 : j ≠ 0) (z : rFm γ a b) : rFm γ1 a b := by
  unfold rFm at z ⊢
  rw [(rSt_s h hk h0).1, (rSt_s h hb j0).1]
  exact z
theorem rSt_F (h : rSt f K KF D I P F γ el P1 F1 γ1 el1) (hk : rKd γ a k) (h0 : k ≠ 0) (hK : k ∉ KF) : F1 a = F a := by
  have e : γ 0 a = k := hk
  exact h.2.2.2 a (by omega) (Or.inl (by rw [e]; exact hK))
theorem rSt_Ff (h : rSt f K KF D I P F γ el P1 F1 γ1 el1) (hk : rKd γ a k) (h0 : k ≠ 0) (hp : k ≤ 9 ∨ 100 ≤ k) (hf : γ 1 a ≠ f) : F1 a = F a := by
  have e : γ 0 a = k := hk
  exact h.2.2.2 a (by omega) (Or.inr ⟨hf, by omega⟩)
theorem rSt_l (h : rSt f K KF D I P F γ el P1 F1 γ1 el1) (hk : rKd γ a k) (h0 : k ≠ 0) (hf : γ 1 a ≠ f) : γ1 2 a = γ 2 a ∧ γ1 13 a = γ 13 a ∧ γ1 17 a = γ 17 a ∧ el1 a = el a := h.2.2.1.2.2.1 a (by unfold rKd at hk; omega) hf
theorem rsum_s {f g : Nat → Nat} {k n : Nat} (h : ∀ i, i < n → f i ≤ g i) (hk : k < n) : rsum f n + g k ≤ rsum g n + f k := by
  have h1 := rsum_u (f := f) (g := fun i => if i = k then g k else f i) n hk (fun i _ hne => if_neg hne)
  have h2 : rsum (fun i => if i = k then g k else f i) n ≤ rsum g n := rsum_le n (fun i hi => by
    show (if i = k then g k else f i) ≤ g i
    split
    · next e => rw [e]; exact Nat.le_refl _
    · exact h i hi)
  rw [if_pos rfl] at h1
  omega
theorem RS_lst {lb i : Nat} (hT : RS D I P F γ el) (h : γ 0 lb = 4) (hi : i < γ 2 lb) : (γ 0 (γ 14 (el lb i)) = 3 ∨ γ 0 (γ 14 (el lb i)) = 103) ∧ γ 1 (γ 14 (el lb i)) = γ 1 lb ∧ γ 20 (γ 14 (el lb i)) = el lb i ∧ rCp γ (γ 14 (el lb i)) := by
  have h4 : rk_4 D I γ el F lb := RS_o hT h
  obtain ⟨q, q1, -⟩ := h4.2 i hi
  have hc : ∀ l, γ 0 l = 3 ∨ γ 0 l = 103 → rCp γ l := fun l hl => by
    rcases hl with hl | hl
    · obtain ⟨⟨m, z, e, v1, v2, v3, v4, v5⟩, -⟩ := show rk_3 D I γ el F l from RS_o hT hl
      exact v5
    · obtain ⟨m, z, e, v1, v2, v3, v4, v5⟩ := show rkL D I γ el F 6 l from RS_o hT hl
      exact v5
  rcases q with q | q | q
  · obtain ⟨l', n', p', s', w1, w2, w3, w4, -⟩ := show rk_2 γ (el lb i) (F (el lb i)) from RS_o hT q
    rw [w2.1]; exact ⟨Or.inl w3, w4.trans q1, w2.2.2, hc l' (Or.inl w3)⟩
  · obtain ⟨l', n', p', s', w1, w2, w3, w4, -⟩ := show rk_202 γ (el lb i) (F (el lb i)) from RS_o hT q
    rw [w2.1]; exact ⟨Or.inl w3, w4.trans q1, w2.2.2, hc l' (Or.inl w3)⟩
  · obtain ⟨l', n', p', s', w1, w2, w3, w4, -⟩ := show rk_102 γ (el lb i) (F (el lb i)) from RS_o hT q
    rw [w2.1]; exact ⟨Or.inr w3, w4.trans q1, w2.2.2, hc l' (Or.inr w3)⟩
/-- the slack of the room -/
theorem rM_ge {c : Nat} (hT : RS D I P F γ el) (hc : γ 0 c = 9) (hf : γ 1 c = f) : rPh γ el f + 2 * γ 13 (γ 14 c) + 100 ≤ rM γ el f ∧ rPh γ el f + 2 * γ 13 (γ 15 c) + 100 ≤ rM γ el f ∧ ∀ i, i < γ 2 (γ 14 c) → rPh γ el f + 2 * γ 13 (γ 14 (el (γ 14 c) i)) + 100 ≤ rM γ el f := by
  obtain ⟨lb, lr, rn, md, w1, w2, w3, w4, w5, w6, -⟩ := show rk_9 γ el c (F c) from RS_o hT hc
  have e21 : γ 21 f = c := by rw [← hf]; exact w2.2.2
  unfold rPh rM
  rw [e21, w2.1, w2.2.1]
  obtain ⟨⟨m, z, e, v1, v2, v3, v4, v5⟩, -⟩ := show rk_4 D I γ el F lb from RS_o hT w3
  obtain ⟨⟨m', z', e', u1, u2, u3, u4, u5⟩, -⟩ := show rk_5 D I γ el F lr from RS_o hT w5
  have hle : ∀ i, i < γ 2 lb → 4 * γ 13 (γ 14 (el lb i)) ≤ 9 * γ 17 (γ 14 (el lb i)) + 60 ∧ 6 * γ 13 (γ 14 (el lb i)) ≤ 9 * γ 17 (γ 14 (el lb i)) + 60 := fun i hi => by
    obtain ⟨-, -, -, q⟩ := RS_lst hT w3 hi
    unfold rCp at q
    omega
  have hs := rsum_le (f := fun i => 4 * γ 13 (γ 14 (el lb i))) (g := fun i => 9 * γ 17 (γ 14 (el lb i)) + 60) (γ 2 lb) (fun i hi => (hle i hi).1)
  unfold rCp at v5 u5
  unfold rPhc rMc
  refine ⟨by omega, by omega, fun i hi => ?_⟩
  have hk := rsum_s (f := fun i => 4 * γ 13 (γ 14 (el lb i))) (g := fun i => 9 * γ 17 (γ 14 (el lb i)) + 60) (fun i hi => (hle i hi).1) hi
  have h2 := (hle i hi).2
  omega
/-- bounds of a family with few blocks -/
def rBd (γ el : Nat → Nat → Nat) (f B : Nat) : Prop := γ 16 f ≤ B ∧ γ 2 (γ 14 (γ 21 f)) ≤ 40 ∧ γ 17 (γ 14 (γ 21 f)) ≤ 40 ∧ γ 2 (γ 15 (γ 21 f)) ≤ B ∧ γ 17 (γ 15 (γ 21 f)) ≤ B ∧ ∀ i, i < γ 2 (γ 14 (γ 21 f)) → γ 17 (γ 14 (el (γ 14 (γ 21 f)) i)) ≤ B
theorem rM_bd {B : Nat} (h : rBd γ el f B) : rM γ el f ≤ 387 * B + 6000 := by
  obtain ⟨h1, h2, h3, h4, h5, h6⟩ := h
  unfold rM rMc
  have hs := rsum_b (f := fun i => 9 * γ 17 (γ 14 (el (γ 14 (γ 21 f)) i)) + 60) (B := 9 * B + 60) (γ 2 (γ 14 (γ 21 f))) (fun i hi => by have := h6 i hi; show 9 * _ + 60 ≤ _; omega)
  have hm : γ 2 (γ 14 (γ 21 f)) * (9 * B + 60) ≤ 40 * (9 * B + 60) := Nat.mul_le_mul_right _ h2
  omega
end RPH
end
section
/-! the steps, with what they keep and the room they take -/
section RST
variable {D : va_G} {I : FieldType → ClassId} {P P1 : List Nat} {F F1 : Nat → va_E} {γ el : Nat → Nat → Nat} {f l x c e e1 n1 k lb lr b n i : Nat} {rn md rn1 md1 : Int32}
theorem rc_at (hT : RS D I P F γ el) (hc : γ 0 c = 9) (hf : γ 1 c = f) : γ 21 f = c ∧ γ 0 (γ 14 c) = 4 ∧ γ 1 (γ 14 c) = f ∧ γ 0 (γ 15 c) = 5 ∧ γ 1 (γ 15 c) = f := by
  obtain ⟨lb, lr, rn, md, w1, w2, w3, w4, w5, w6, -⟩ := show rk_9 γ el c (F c) from RS_o hT hc
  rw [w2.1, w2.2.1]
  exact ⟨by rw [← hf]; exact w2.2.2, w3, w4.trans hf, w5, w6.trans hf⟩
theorem St_ins3 {m1 z1 : Int32} {f1 : Nat → Option Nat} (hT : RS D I P F γ el) (hs : rSub P P1) (hl : γ 0 l = 3) (hlf : γ 1 l = f) (hx : γ 0 x = 101) (hxf : γ 1 x = f) (hx22 : γ 22 x = 0) (hx8 : γ 8 x < γ 16 f) (h18 : 0 < γ 18 f) (hk : k ≤ γ 2 l)
    (hc : γ 0 c = 9) (hcf : γ 1 c = f) (hi : i < γ 2 (γ 14 c)) (hli : γ 14 (el (γ 14 c) i) = l) (hx1 : rk_1 γ x (F x)) (he1 : (γ 0 e1 = 6 ∧ γ 3 e1 = l ∧ γ 1 e1 = γ 1 l) ∨ γ 0 e1 = 0) (heP : e1 ∈ P1)
    (hfr : ∀ b, γ 0 b ≠ 0 → b ≠ l → b ≠ e1 → F1 b = F b) (c1 : F1 l = .inr (4, [.int m1, .ref e1, .int z1])) (c2 : z1.toInt = γ 2 l + 1) (c3 : F1 e1 = .inl (I (.object "java/lang/Object"), n1, .inr (.inr (.inr (.inr f1)))))
    (d1 : γ 2 l + 1 ≤ n1) (d2 : (n1 : Int) ≤ 1000000) (d3 : 2 * n1 ≤ 3 * max (γ 17 l) (γ 2 l + 1) + 20) (d4 : 10 ≤ n1)
    (g1 : ∀ j, j < k → f1 j = some (el l j)) (g2 : f1 k = some x) (g3 : ∀ j, k ≤ j → j < γ 2 l → f1 (j + 1) = some (el l j)) (g4 : ∀ j w, f1 j = some w → rLK γ w ∨ w = x) :
    rSt f [101] [3, 6, 101] D I P F γ el P1 F1 (gIns γ l x e1 n1 k f) (eIns el l k x) ∧ rPh (gIns γ l x e1 n1 k f) (eIns el l k x) f + 4 * γ 13 l = rPh γ el f + 4 * n1 ∧ rM (gIns γ l x e1 n1 k f) (eIns el l k x) f ≤ rM γ el f + 9 ∧ (∀ B, rBd γ el f B → rBd (gIns γ l x e1 n1 k f) (eIns el l k x) f B) := by
  subst hlf
  obtain ⟨a21, a4, a41, a5, a51⟩ := rc_at hT hc hcf
  have hR := RS_ins3 hT hs hl hx hxf hx22 hx8 h18 hk hc hcf hx1 he1 heP hfr c1 c2 c3 d1 d2 d3 d4 g1 g2 g3 g4
  have hlx : l ≠ x := fun e => by rw [e, hx] at hl; cases hl
  have hlb : γ 14 c ≠ l := fun e => by rw [e, hl] at a4; cases a4
  have hlr : γ 15 c ≠ l := fun e => by rw [e, hl] at a5; cases a5
  have k0 : ∀ b, b ≠ x → γ 0 b ≠ 0 → (gIns γ l x e1 n1 k (γ 1 l)) 0 b = γ 0 b := fun b hb h0 => by
    show (if b = x then 1 else if b = e1 then 6 else γ 0 b) = _
    rw [if_neg hb]
    split
    · next e => subst e; omega
    · rfl
  have k1 : ∀ b, γ 0 b ≠ 0 → (gIns γ l x e1 n1 k (γ 1 l)) 1 b = γ 1 b := fun b h0 => by
    show (if b = e1 then γ 1 l else γ 1 b) = _
    split
    · next e => subst e; omega
    · rfl
  have hex : rEx (γ 1 l) [101] γ (gIns γ l x e1 n1 k (γ 1 l)) el (eIns el l k x) := by
    refine ⟨fun b h0 hb => k0 b (fun q => ?_) h0, fun b h0 => ⟨?_, k1 b h0, rfl, rfl, rfl, rfl, rfl⟩, fun b h0 hb => ?_, ⟨rfl, rfl, rfl, rfl, rfl⟩, fun g hg => ⟨rfl, rfl, rfl, if_neg hg, rfl, rfl⟩⟩
    · rw [q] at hb
      rcases hb with hb | hb
      · exact hb hxf
      · exact hb (by rw [hx]; exact List.mem_cons_self)
    · by_cases q : b = x
      · rw [q, show (gIns γ l x e1 n1 k (γ 1 l)) 0 x = 1 from if_pos rfl]; decide
      · rw [k0 b q h0]; exact h0
    · have q : b ≠ l := fun q => hb (by rw [q])
      exact ⟨if_neg q, if_neg q, if_neg q, eIns_ne q⟩
  have h3 : rk_3 D I γ el F l := RS_o hT hl
  obtain ⟨⟨m', z', e', v1, v2, v3, v4, v5⟩, -⟩ := h3
  have s13 : ∀ j, j < γ 2 (γ 14 c) → j ≠ i → γ 14 (el (γ 14 c) j) ≠ l := fun j hj hne q => hne (RS_inj hT a4 hj hi (q.trans hli.symm))
  have z2b : (gIns γ l x e1 n1 k (γ 1 l)) 2 (γ 14 c) = γ 2 (γ 14 c) := if_neg hlb
  have z2r : (gIns γ l x e1 n1 k (γ 1 l)) 2 (γ 15 c) = γ 2 (γ 15 c) := if_neg hlr
  have z13b : (gIns γ l x e1 n1 k (γ 1 l)) 13 (γ 14 c) = γ 13 (γ 14 c) := if_neg hlb
  have z13r : (gIns γ l x e1 n1 k (γ 1 l)) 13 (γ 15 c) = γ 13 (γ 15 c) := if_neg hlr
  have z17b : (gIns γ l x e1 n1 k (γ 1 l)) 17 (γ 14 c) = γ 17 (γ 14 c) := if_neg hlb
  have z17r : (gIns γ l x e1 n1 k (γ 1 l)) 17 (γ 15 c) = γ 17 (γ 15 c) := if_neg hlr
  have z17l : (gIns γ l x e1 n1 k (γ 1 l)) 17 l = max (γ 17 l) (γ 2 l + 1) := if_pos rfl
  have z13l : (gIns γ l x e1 n1 k (γ 1 l)) 13 l = n1 := if_pos rfl
  have o21 : (gIns γ l x e1 n1 k (γ 1 l)) 21 (γ 1 l) = c := a21
  have o14 : (gIns γ l x e1 n1 k (γ 1 l)) 14 = γ 14 := rfl
  have o15 : (gIns γ l x e1 n1 k (γ 1 l)) 15 = γ 15 := rfl
  have o16 : (gIns γ l x e1 n1 k (γ 1 l)) 16 = γ 16 := rfl
  have u1 := rsum_u (f := fun j => 4 * γ 13 (γ 14 (el (γ 14 c) j))) (g := fun j => 4 * (gIns γ l x e1 n1 k (γ 1 l)) 13 (γ 14 (el (γ 14 c) j))) _ hi (fun j hj hne => by show 4 * _ = 4 * _; rw [show (gIns γ l x e1 n1 k (γ 1 l)) 13 (γ 14 (el (γ 14 c) j)) = γ 13 (γ 14 (el (γ 14 c) j)) from if_neg (s13 j hj hne)])
  have u2 := rsum_u (f := fun j => 9 * γ 17 (γ 14 (el (γ 14 c) j)) + 60) (g := fun j => 9 * (gIns γ l x e1 n1 k (γ 1 l)) 17 (γ 14 (el (γ 14 c) j)) + 60) _ hi (fun j hj hne => by show 9 * _ + 60 = 9 * _ + 60; rw [show (gIns γ l x e1 n1 k (γ 1 l)) 17 (γ 14 (el (γ 14 c) j)) = γ 17 (γ 14 (el (γ 14 c) j)) from if_neg (s13 j hj hne)])
  rw [hli, z13l] at u1
  rw [hli, z17l] at u2
  refine ⟨⟨hR, hs, hex, fun b h0 hb => hfr b h0 (fun q => ?_) (fun q => ?_)⟩, ?_, ?_, fun B hB => ?_⟩
  · rw [q, hl] at hb
    rcases hb with hb | hb
    · exact hb List.mem_cons_self
    · exact hb.1 rfl
  · rw [q] at hb h0
    have h6 := he1.resolve_right h0
    rw [h6.1, h6.2.2] at hb
    rcases hb with hb | hb
    · exact hb (by decide)
    · exact hb.1 rfl
  · unfold rPh rPhc
    rw [o21, o14, o15, a21, z2b, z2r, z13b, z13r, eIns_ne hlb]
    omega
  · unfold rM rMc
    rw [o21, o14, o15, a21, z2b, z2r, z17b, z17r, eIns_ne hlb]
    unfold rCp at v5
    omega
  · unfold rBd at hB ⊢
    rw [a21] at hB
    rw [o21, o14, o15, o16, z2b, z2r, z17b, z17r, eIns_ne hlb]
    obtain ⟨b1, b2, b3, b4, b5, b6⟩ := hB
    refine ⟨b1, b2, b3, b4, b5, fun j hj => ?_⟩
    by_cases q : j = i
    · rw [q, hli, z17l]
      have q1 := b6 i hi
      rw [hli] at q1
      -- the list's size is below the rows in use
      obtain ⟨lb, lr, rn, md, w1, w2, w3, w4, w5, w6, w7, w8, w9, w10, w11, w12, w13, w14, w15, w16, w17⟩ := show rk_9 γ el c (F c) from RS_o hT hc
      have hmd : i < md.toInt.toNat := by
        by_cases q2 : (i : Int) < md.toInt
        · omega
        · have hi' := hi
          rw [w2.1] at hi'
          have q3 := w15 i (by omega) hi'
          obtain ⟨l', n', p', s', y1, y2, y3, -⟩ := show rk_102 γ (el lb i) (F (el lb i)) from RS_o hT q3
          rw [w2.1] at hli
          rw [← hli, y2.1] at hl
          unfold rKd at y3
          omega
      have q4 := w17.2
      have q5 := rsum_t (f := fun i => γ 2 (γ 14 (el lb i))) hmd
      rw [w2.1] at hli
      rw [hli] at q5
      rw [hcf] at q4
      omega
    · rw [show (gIns γ l x e1 n1 k (γ 1 l)) 17 (γ 14 (el (γ 14 c) j)) = γ 17 (γ 14 (el (γ 14 c) j)) from if_neg (s13 j hj q)]
      exact b6 j hj
end RST
end
section
section RST2
variable {D : va_G} {I : FieldType → ClassId} {P P1 : List Nat} {F F1 : Nat → va_E} {γ el : Nat → Nat → Nat} {f l x c e e1 n1 k lb lr b n i : Nat} {rn md rn1 md1 : Int32}
theorem St_del3 {m1 z1 : Int32} {f1 : Nat → Option Nat} (hT : RS D I P F γ el) (hl : γ 0 l = 3) (hlf : γ 1 l = f) (hk : k < γ 2 l) (hc : γ 0 c = 9) (hcf : γ 1 c = f)
    (he : γ 0 e = 6) (he3 : γ 3 e = l) (he1 : γ 1 e = γ 1 l) (hn : n1 = γ 13 l ∧ 10 ≤ n1) (d1 : γ 2 l ≤ n1) (d2 : (n1 : Int) ≤ 1000000)
    (hfr : ∀ b, γ 0 b ≠ 0 → b ≠ l → b ≠ e → F1 b = F b) (c1 : F1 l = .inr (4, [.int m1, .ref e, .int z1])) (c2 : z1.toInt = γ 2 l - 1) (c3 : F1 e = .inl (I (.object "java/lang/Object"), n1, .inr (.inr (.inr (.inr f1)))))
    (g1 : ∀ j, j < k → f1 j = some (el l j)) (g3 : ∀ j, k ≤ j → j + 1 < γ 2 l → f1 j = some (el l (j + 1))) (g4 : ∀ j w, f1 j = some w → rLK γ w) :
    rSt f [] [3, 6] D I P F γ el P F1 (gDel γ l k) (eDel el l k) ∧ rPh (gDel γ l k) (eDel el l k) f = rPh γ el f ∧ rM (gDel γ l k) (eDel el l k) f = rM γ el f ∧ (∀ B, rBd γ el f B → rBd (gDel γ l k) (eDel el l k) f B) := by
  subst hlf
  obtain ⟨a21, a4, a41, a5, a51⟩ := rc_at hT hc hcf
  have hR := RS_del3 hT hl hk hc hcf he he3 he1 hn d1 d2 hfr c1 c2 c3 g1 g3 g4
  have hlb : γ 14 c ≠ l := fun e => by rw [e, hl] at a4; cases a4
  have hlr : γ 15 c ≠ l := fun e => by rw [e, hl] at a5; cases a5
  have o21 : (gDel γ l k) 21 (γ 1 l) = c := a21
  have o14 : (gDel γ l k) 14 = γ 14 := rfl
  have o15 : (gDel γ l k) 15 = γ 15 := rfl
  have o16 : (gDel γ l k) 16 = γ 16 := rfl
  have o13 : (gDel γ l k) 13 = γ 13 := rfl
  have o17 : (gDel γ l k) 17 = γ 17 := rfl
  have z2b : (gDel γ l k) 2 (γ 14 c) = γ 2 (γ 14 c) := if_neg hlb
  have z2r : (gDel γ l k) 2 (γ 15 c) = γ 2 (γ 15 c) := if_neg hlr
  refine ⟨⟨hR, rSub_rf, ⟨fun b _ _ => rfl, fun b h0 => ⟨h0, rfl, rfl, rfl, rfl, rfl, rfl⟩, fun b h0 hb => ⟨if_neg (fun q => hb (by rw [q])), rfl, rfl, eDel_ne (fun q => hb (by rw [q]))⟩, ⟨rfl, rfl, rfl, rfl, rfl⟩, fun g hg => ⟨rfl, rfl, rfl, rfl, rfl, rfl⟩⟩, fun b h0 hb => hfr b h0 (fun q => ?_) (fun q => ?_)⟩, ?_, ?_, fun B hB => ?_⟩
  · rw [q, hl] at hb
    rcases hb with hb | hb
    · exact hb List.mem_cons_self
    · exact hb.1 rfl
  · rw [q, he, he1] at hb
    rcases hb with hb | hb
    · exact hb (by decide)
    · exact hb.1 rfl
  · unfold rPh rPhc
    rw [o21, o14, o15, a21, o13, z2b, z2r, eDel_ne hlb]
  · unfold rM rMc
    rw [o21, o14, o15, a21, o17, z2b, z2r, eDel_ne hlb]
  · unfold rBd at hB ⊢
    rw [a21] at hB
    rw [o21, o14, o15, o16, o17, z2b, z2r, eDel_ne hlb]
    exact hB
/-- what a row out of the store is, and what it leaves -/
def rRq (D : va_G) (I : FieldType → ClassId) (P : List Nat) (F : Nat → va_E) (γ el : Nat → Nat → Nat) (f c : Nat) (P1 : List Nat) (F1 : Nat → va_E) (γ1 el1 : Nat → Nat → Nat) (x dc ds : Nat) : Prop :=
  rSt f [] [5, 8, 9, 101] D I P F γ el P1 F1 γ1 el1 ∧ γ1 0 x = 101 ∧ γ1 1 x = f ∧ γ1 22 x = 0 ∧ γ1 8 x = γ 16 f ∧ γ1 16 f = γ 16 f + 1 ∧ γ1 18 f = γ 18 f + 1 ∧ rNu f γ γ1 ∧ (∀ a, γ 0 a ≠ 0 → γ 0 a ≠ 5 → γ1 2 a = γ 2 a ∧ el1 a = el a) ∧ ((∀ a, γ 0 a ≠ 0 → γ1 4 a = γ 4 a ∧ γ1 5 a = γ 5 a) ∧ (fI (F1 x) 2).toInt = 0 ∧ (fI (F1 x) 3).toInt = 0) ∧ ((fI (F1 x) 5).toInt = 0 ∧ (fI (F1 x) 6).toInt = 0 ∧ (fI (F1 c) 3).toInt = (fI (F c) 3).toInt) ∧ (18 * dc + rPh γ el f ≤ rPh γ1 el1 f ∧ ds + rPh γ el f ≤ rPh γ1 el1 f) ∧ rM γ1 el1 f ≤ rM γ el f + 27 ∧ ∀ B, γ 16 f + 1 ≤ B → rBd γ el f B → rBd γ1 el1 f B
theorem St_rowo {dc ds : Nat} (hT : RS D I P F γ el) (hc : γ 0 c = 9) (hcf : γ 1 c = f) (hF : F c = .inr (18, [.ref lb, .ref lr, .int rn, .int md])) (hlr : γ 15 c = lr) (hlt : rn.toInt < γ 2 lr) (hx : x = el lr rn.toInt.toNat)
    (hfr : ∀ b, γ 0 b ≠ 0 → b ≠ c → b ≠ x → F1 b = F b) (c1 : F1 c = .inr (18, [.ref lb, .ref lr, .int rn1, .int md])) (c2 : rn1.toInt = rn.toInt + 1) (c3 : rkR (F1 x)) (c4 : (fI (F1 x) 5).toInt = 0 ∧ (fI (F1 x) 6).toInt = 0 ∧ (fI (F1 x) 2).toInt = 0 ∧ (fI (F1 x) 3).toInt = 0) (hdc : dc ≤ 0) (hds : ds ≤ 0) :
    rRq D I P F γ el f c P F1 (gRow γ f) el x dc ds := by
  subst hcf
  obtain ⟨hR, x0, x1, x22, x8, x16⟩ := RS_rowo hT hc hF hlr hlt hx hfr c1 c2 c3
  refine ⟨⟨hR, rSub_rf, ⟨fun b _ _ => rfl, fun b h0 => ⟨h0, rfl, rfl, rfl, rfl, rfl, rfl⟩, fun b h0 hb => ⟨rfl, rfl, rfl, rfl⟩, ⟨rfl, rfl, rfl, rfl, rfl⟩, fun g hg => ⟨rfl, rfl, if_neg hg, if_neg hg, rfl, rfl⟩⟩, fun b h0 hb => hfr b h0 (fun q => ?_) (fun q => ?_)⟩, x0, x1, x22, x8.trans x16.symm, if_pos rfl, if_pos rfl, ⟨rfl, rfl, rfl, rfl⟩, fun a _ _ => ⟨rfl, rfl⟩, ⟨fun a _ => ⟨rfl, rfl⟩, c4.2.2⟩, ⟨c4.1, c4.2.1, by rw [c1, hF]; rfl⟩, ⟨?_, ?_⟩, ?_, fun B h1 hB => ?_⟩
  · rw [q, hc] at hb
    rcases hb with hb | hb
    · exact hb (by decide)
    · exact hb.1 rfl
  · rw [q, x0, x1] at hb
    rcases hb with hb | hb
    · exact hb (by decide)
    · exact hb.1 rfl
  · show 18 * dc + rPh γ el (γ 1 c) ≤ rPh γ el (γ 1 c); omega
  · show ds + rPh γ el (γ 1 c) ≤ rPh γ el (γ 1 c); omega
  · show rM γ el (γ 1 c) ≤ _; omega
  · have e16 : (gRow γ (γ 1 c)) 16 (γ 1 c) = γ 16 (γ 1 c) + 1 := if_pos rfl
    exact ⟨by rw [e16]; exact h1, hB.2⟩
theorem St_rown {m1 z1 : Int32} {f1 : Nat → Option Nat} {dc ds : Nat} (hT : RS D I P F γ el) (hs : rSub P P1) (hc : γ 0 c = 9) (hcf : γ 1 c = f) (hF : F c = .inr (18, [.ref lb, .ref lr, .int rn, .int md])) (heq : rn.toInt = γ 2 lr) (hx : γ 0 x = 0) (hxP : x ∈ P1) (he1 : (γ 0 e1 = 8 ∧ γ 3 e1 = lr ∧ γ 1 e1 = γ 1 lr) ∨ γ 0 e1 = 0) (heP : e1 ∈ P1) (hxe : x ≠ e1)
    (hfr : ∀ b, γ 0 b ≠ 0 → b ≠ c → b ≠ lr → b ≠ e1 → F1 b = F b) (c1 : F1 c = .inr (18, [.ref lb, .ref lr, .int rn1, .int md])) (c2 : rn1.toInt = rn.toInt + 1) (c3 : rkR (F1 x)) (c4 : (fI (F1 x) 5).toInt = 0 ∧ (fI (F1 x) 6).toInt = 0 ∧ (fI (F1 x) 2).toInt = 0 ∧ (fI (F1 x) 3).toInt = 0)
    (q1 : F1 lr = .inr (4, [.int m1, .ref e1, .int z1])) (q2 : z1.toInt = γ 2 lr + 1) (q3 : F1 e1 = .inl (I (.object "java/lang/Object"), n1, .inr (.inr (.inr (.inr f1)))))
    (d1 : γ 2 lr + 1 ≤ n1) (d2 : (n1 : Int) ≤ 1000000) (d3 : 2 * n1 ≤ 3 * max (γ 17 lr) (γ 2 lr + 1) + 20) (d4 : 10 ≤ n1)
    (g1 : ∀ j, j < γ 2 lr → f1 j = some (el lr j)) (g2 : f1 (γ 2 lr) = some x) (g4 : ∀ j w, f1 j = some w → rLK γ w ∨ w = x) (hdc : 18 * dc + 4 * γ 13 lr ≤ 4 * n1 + 18) (hds : ds + 4 * γ 13 lr ≤ 4 * n1 + 18) :
    rRq D I P F γ el f c P1 F1 (gRwn γ lr x e1 n1 f) (eIns el lr (γ 2 lr) x) x dc ds := by
  subst hcf
  obtain ⟨hR, x16⟩ := RS_rown hT hs hc hF heq hx hxP he1 heP hxe hfr c1 c2 c3 q1 q2 q3 d1 d2 d3 d4 g1 g2 g4
  obtain ⟨w2, w3, w4, w5, w6, w7, w8, w9, w10, w11, w12, w13, w14, w15, w16, w17⟩ := rk9_at hF (show rk_9 γ el c (F c) from RS_o hT hc)
  obtain ⟨⟨m', z', e', v1, v2, v3, v4, v5⟩, -⟩ := show rk_5 D I γ el F lr from RS_o hT w5
  have nx : ∀ b, γ 0 b ≠ 0 → b ≠ x := fun b h q => h (by rw [q]; exact hx)
  have ne : ∀ b, γ 0 b ≠ 0 → b = e1 → γ 0 e1 = 8 ∧ γ 3 e1 = lr ∧ γ 1 e1 = γ 1 lr := fun b h q => he1.resolve_right (fun z => h (by rw [q]; exact z))
  have k0 : ∀ b, γ 0 b ≠ 0 → (gRwn γ lr x e1 n1 (γ 1 c)) 0 b = γ 0 b := fun b h0 => by
    show (if b = x then 101 else if b = e1 then 8 else γ 0 b) = _
    rw [if_neg (nx b h0)]
    split
    · next q => rw [q]; exact (ne b h0 q).1.symm
    · rfl
  have k1 : ∀ b, γ 0 b ≠ 0 → (gRwn γ lr x e1 n1 (γ 1 c)) 1 b = γ 1 b := fun b h0 => by
    show (if b = x then γ 1 c else if b = e1 then γ 1 c else γ 1 b) = _
    rw [if_neg (nx b h0)]
    split
    · next q => rw [q, (ne b h0 q).2.2]; exact w6.symm
    · rfl
  have hlblr : lb ≠ lr := fun q => by rw [q, w5] at w3; cases w3
  have a21 : γ 21 (γ 1 c) = c := w2.2.2
  have o21 : (gRwn γ lr x e1 n1 (γ 1 c)) 21 (γ 1 c) = c := a21
  have o14 : (gRwn γ lr x e1 n1 (γ 1 c)) 14 = γ 14 := rfl
  have o15 : (gRwn γ lr x e1 n1 (γ 1 c)) 15 = γ 15 := rfl
  have z2b : (gRwn γ lr x e1 n1 (γ 1 c)) 2 lb = γ 2 lb := if_neg hlblr
  have z2r : (gRwn γ lr x e1 n1 (γ 1 c)) 2 lr = γ 2 lr + 1 := if_pos rfl
  have z13b : (gRwn γ lr x e1 n1 (γ 1 c)) 13 lb = γ 13 lb := if_neg hlblr
  have z13r : (gRwn γ lr x e1 n1 (γ 1 c)) 13 lr = n1 := if_pos rfl
  have z17b : (gRwn γ lr x e1 n1 (γ 1 c)) 17 lb = γ 17 lb := if_neg hlblr
  have z17r : (gRwn γ lr x e1 n1 (γ 1 c)) 17 lr = max (γ 17 lr) (γ 2 lr + 1) := if_pos rfl
  have hne : ∀ i, i < γ 2 lb → γ 14 (el lb i) ≠ lr := fun i hi q => by
    obtain ⟨r, -⟩ := RS_lst hT w3 hi
    rw [q, w5] at r
    omega
  have s13 : rsum (fun i => 4 * (gRwn γ lr x e1 n1 (γ 1 c)) 13 (γ 14 (el lb i))) (γ 2 lb) = rsum (fun i => 4 * γ 13 (γ 14 (el lb i))) (γ 2 lb) := rsum_c _ (fun i hi => by show 4 * (gRwn γ lr x e1 n1 (γ 1 c)) 13 (γ 14 (el lb i)) = _; rw [show (gRwn γ lr x e1 n1 (γ 1 c)) 13 (γ 14 (el lb i)) = γ 13 (γ 14 (el lb i)) from if_neg (hne i hi)])
  have s17 : rsum (fun i => 9 * (gRwn γ lr x e1 n1 (γ 1 c)) 17 (γ 14 (el lb i)) + 60) (γ 2 lb) = rsum (fun i => 9 * γ 17 (γ 14 (el lb i)) + 60) (γ 2 lb) := rsum_c _ (fun i hi => by show 9 * (gRwn γ lr x e1 n1 (γ 1 c)) 17 (γ 14 (el lb i)) + 60 = _; rw [show (gRwn γ lr x e1 n1 (γ 1 c)) 17 (γ 14 (el lb i)) = γ 17 (γ 14 (el lb i)) from if_neg (hne i hi)])
  have hph : rPh (gRwn γ lr x e1 n1 (γ 1 c)) (eIns el lr (γ 2 lr) x) (γ 1 c) + 4 * γ 13 lr = rPh γ el (γ 1 c) + 4 * n1 + 18 := by
    unfold rPh rPhc
    rw [o21, o14, o15, a21, w2.1, w2.2.1, z2b, z2r, z13b, z13r, eIns_ne hlblr, s13]
    omega
  refine ⟨⟨hR, hs, ⟨fun b h0 _ => k0 b h0, fun b h0 => ⟨by rw [k0 b h0]; exact h0, k1 b h0, rfl, rfl, if_neg (nx b h0), rfl, if_neg (nx b h0)⟩, fun b h0 hb => ?_, ⟨rfl, rfl, rfl, rfl, rfl⟩, fun g hg => ⟨rfl, rfl, if_neg hg, if_neg hg, rfl, rfl⟩⟩, fun b h0 hb => hfr b h0 (fun q => ?_) (fun q => ?_) (fun q => ?_)⟩, if_pos rfl, if_pos rfl, if_pos rfl, ?_, if_pos rfl, if_pos rfl, ⟨rfl, rfl, rfl, rfl⟩, fun a h0 h5 => ?_, ⟨fun a _ => ⟨rfl, rfl⟩, c4.2.2⟩, ⟨c4.1, c4.2.1, by rw [c1, hF]; rfl⟩, ⟨by omega, by omega⟩, ?_, fun B h1 hB => ?_⟩
  · have q : b ≠ lr := fun q => hb (by rw [q]; exact w6)
    exact ⟨if_neg q, if_neg q, if_neg q, eIns_ne q⟩
  · rw [q, hc] at hb
    rcases hb with hb | hb
    · exact hb (by decide)
    · exact hb.1 rfl
  · rw [q, w5, w6] at hb
    rcases hb with hb | hb
    · exact hb (by decide)
    · exact hb.1 rfl
  · have h8 := ne b h0 q
    rw [q, h8.1, h8.2.2, w6] at hb
    rcases hb with hb | hb
    · exact hb (by decide)
    · exact hb.1 rfl
  · show (if x = x then γ 2 lr else γ 8 x) = _
    rw [if_pos rfl]
    omega
  · have q : a ≠ lr := fun q => h5 (by rw [q]; exact w5)
    exact ⟨if_neg q, eIns_ne q⟩
  · unfold rM rMc
    rw [o21, o14, o15, a21, w2.1, w2.2.1, z2b, z2r, z17b, z17r, eIns_ne hlblr, s17]
    unfold rCp at v5
    omega
  · unfold rBd at hB ⊢
    have e16 : (gRwn γ lr x e1 n1 (γ 1 c)) 16 (γ 1 c) = γ 16 (γ 1 c) + 1 := if_pos rfl
    rw [a21, w2.1, w2.2.1] at hB
    rw [o21, o14, o15, w2.1, w2.2.1, z2b, z2r, z17b, z17r, e16, eIns_ne hlblr]
    obtain ⟨b1, b2, b3, b4, b5, b6⟩ := hB
    refine ⟨h1, b2, b3, by omega, by omega, fun j hj => ?_⟩
    rw [show (gRwn γ lr x e1 n1 (γ 1 c)) 17 (γ 14 (el lb j)) = γ 17 (γ 14 (el lb j)) from if_neg (hne j hj)]
    exact b6 j hj
end RST2
end
section
/-- what a block out of the store is, and what it leaves -/
def rBq (D : va_G) (I : FieldType → ClassId) (P : List Nat) (F : Nat → va_E) (γ el : Nat → Nat → Nat) (f c : Nat) (P1 : List Nat) (F1 : Nat → va_E) (γ1 el1 : Nat → Nat → Nat) (b dc ds : Nat) : Prop :=
  rSt f [102, 103] [3, 4, 6, 7, 9, 102, 103] D I P F γ el P1 F1 γ1 el1 ∧ γ1 0 b = 202 ∧ γ1 1 b = f ∧ (∃ j, (fI (F1 c) 3).toInt = (j : Nat) + 1 ∧ (fI (F c) 3).toInt = (j : Nat) ∧ j < γ1 2 (γ 14 c) ∧ el1 (γ 14 c) j = b ∧ γ 2 (γ 14 c) ≤ γ1 2 (γ 14 c) ∧ ∀ i, i < j → el1 (γ 14 c) i = el (γ 14 c) i) ∧ γ1 2 (γ1 14 b) = 0 ∧ γ1 16 f = γ 16 f ∧ γ1 18 f = γ 18 f ∧ rNu f γ γ1 ∧ (∀ a, γ 0 a = 3 → γ1 2 a = γ 2 a ∧ el1 a = el a) ∧ (∀ a, γ 0 a ≠ 0 → γ1 4 a = γ 4 a ∧ γ1 5 a = γ 5 a) ∧ (18 * dc + rPh γ el f ≤ rPh γ1 el1 f ∧ ds + rPh γ el f ≤ rPh γ1 el1 f) ∧ rM γ1 el1 f ≤ rM γ el f + 123 ∧ ∀ B, (fI (F c) 3).toInt < 40 → rBd γ el f B → rBd γ1 el1 f B
section RST3
variable {D : va_G} {I : FieldType → ClassId} {P P1 : List Nat} {F F1 : Nat → va_E} {γ γ1 el : Nat → Nat → Nat} {f l x c e e1 n1 k lb lr b n i : Nat} {rn md rn1 md1 : Int32}
theorem St_blko {m1 p s : Int32} {E dc ds : Nat} (hT : RS D I P F γ el) (hc : γ 0 c = 9) (hcf : γ 1 c = f) (hF : F c = .inr (18, [.ref lb, .ref lr, .int rn, .int md])) (hv : γ 6 f = 0) (hlt : md.toInt < γ 2 lb) (hb : b = el lb md.toInt.toNat) (hFb : F b = .inr (17, [.ref l, .ref n, .int p, .int s]))
    (he : e = l ∨ (γ 0 e = 6 ∧ γ 3 e = l ∧ γ 1 e = γ 1 l)) (hfr : ∀ a, γ 0 a ≠ 0 → a ≠ c → a ≠ l → a ≠ e → F1 a = F a) (c1 : F1 c = .inr (18, [.ref lb, .ref lr, .int rn, .int md1])) (c2 : md1.toInt = md.toInt + 1)
    (q1 : F1 l = .inr (4, [.int m1, .ref E, .int 0])) (q2 : rEc D I γ F1 l e E) (hdc : dc ≤ 0) (hds : ds ≤ 0) :
    rBq D I P F γ el f c P F1 (gBlo γ b l) el b dc ds := by
  subst hcf
  obtain ⟨hR, b0, b1, b14, b15, b8⟩ := RS_blko hT hc hF hv hlt hb hFb he hfr c1 c2 q1 q2
  obtain ⟨w2, w3, w4, w5, w6, w7, w8, w9, w10, w11, w12, w13, w14, w15, w16, w17⟩ := rk9_at hF (show rk_9 γ el c (F c) from RS_o hT hc)
  obtain ⟨u1, u2, u3, u4, u5, u6, u7, u8⟩ := rk102_at hFb (show rk_102 γ b (F b) from RS_o hT b0)
  have hbl : b ≠ l := fun q => by rw [q, u2] at b0; cases b0
  have hlbl : lb ≠ l := fun q => by rw [q, u2] at w3; cases w3
  have hlrl : lr ≠ l := fun q => by rw [q, u2] at w5; cases w5
  have k0 : ∀ a, a ≠ b → a ≠ l → (gBlo γ b l) 0 a = γ 0 a := fun a h1 h2 => (if_neg h1).trans (if_neg h2)
  have kb : (gBlo γ b l) 0 b = 202 := if_pos rfl
  have kl : (gBlo γ b l) 0 l = 3 := (if_neg (Ne.symm hbl)).trans (if_pos rfl)
  have a21 : γ 21 (γ 1 c) = c := w2.2.2
  have o21 : (gBlo γ b l) 21 (γ 1 c) = c := a21
  have o14 : (gBlo γ b l) 14 = γ 14 := rfl
  have o15 : (gBlo γ b l) 15 = γ 15 := rfl
  have o13 : (gBlo γ b l) 13 = γ 13 := rfl
  have o17 : (gBlo γ b l) 17 = γ 17 := rfl
  have z2b : (gBlo γ b l) 2 lb = γ 2 lb := if_neg hlbl
  have z2r : (gBlo γ b l) 2 lr = γ 2 lr := if_neg hlrl
  have fc : (fI (F c) 3).toInt = md.toInt := by rw [hF]; rfl
  have fc1 : (fI (F1 c) 3).toInt = md1.toInt := by rw [c1]; rfl
  have hph : rPh (gBlo γ b l) el (γ 1 c) = rPh γ el (γ 1 c) := by
    unfold rPh rPhc
    rw [o21, o14, o15, o13, a21, w2.1, w2.2.1, z2b, z2r]
  have hM : rM (gBlo γ b l) el (γ 1 c) = rM γ el (γ 1 c) := by
    unfold rM rMc
    rw [o21, o14, o15, o17, a21, w2.1, w2.2.1, z2b, z2r]
  refine ⟨⟨hR, rSub_rf, ⟨fun a h0 ha => k0 a (fun q => ?_) (fun q => ?_), fun a h0 => ⟨?_, rfl, rfl, rfl, rfl, rfl, rfl⟩, fun a h0 ha => ⟨if_neg (fun q => ha (by rw [q]; exact u3.trans b1)), rfl, rfl, rfl⟩, ⟨rfl, rfl, rfl, rfl, rfl⟩, fun g hg => ⟨rfl, rfl, rfl, rfl, rfl, rfl⟩⟩, fun a h0 ha => hfr a h0 (fun q => ?_) (fun q => ?_) (fun q => ?_)⟩, kb, b1, ⟨md.toInt.toNat, by rw [fc1, c2]; omega, by rw [fc]; omega, by rw [w2.1, z2b]; omega, by rw [w2.1]; exact hb.symm, by rw [w2.1, z2b]; exact Nat.le_refl _, fun _ _ => rfl⟩, by rw [o14, b14]; exact if_pos rfl, rfl, rfl, ⟨rfl, rfl, rfl, rfl⟩, fun a ha => ⟨if_neg (fun q => by rw [q, u2] at ha; cases ha), rfl⟩, fun a _ => ⟨rfl, rfl⟩, ⟨by rw [hph]; omega, by rw [hph]; omega⟩, by rw [hM]; omega, fun B _ hB => ?_⟩
  · rw [q, b0, b1] at ha
    rcases ha with ha | ha
    · exact ha rfl
    · exact ha (by decide)
  · rw [q, u2, u3, b1] at ha
    rcases ha with ha | ha
    · exact ha rfl
    · exact ha (by decide)
  · by_cases q : a = b
    · rw [q, kb]; decide
    · by_cases q2 : a = l
      · rw [q2, kl]; decide
      · rw [k0 a q q2]; exact h0
  · rw [q, hc] at ha
    rcases ha with ha | ha
    · exact ha (by decide)
    · exact ha.1 rfl
  · rw [q, u2, u3, b1] at ha
    rcases ha with ha | ha
    · exact ha (by decide)
    · exact ha.1 rfl
  · rcases he with he | he
    · rw [q, he, u2, u3, b1] at ha
      rcases ha with ha | ha
      · exact ha (by decide)
      · exact ha.1 rfl
    · rw [q, he.1, he.2.2, u3, b1] at ha
      rcases ha with ha | ha
      · exact ha (by decide)
      · exact ha.1 rfl
  · unfold rBd at hB ⊢
    rw [a21, w2.1, w2.2.1] at hB
    rw [o21, o14, o15, o17, w2.1, w2.2.1, z2b, z2r]
    exact hB
theorem St_blkn {m1 z1 m2 p s : Int32} {f1 : Nat → Option Nat} {dc ds : Nat} (hT : RS D I P F γ el) (hs : rSub P P1) (hc : γ 0 c = 9) (hcf : γ 1 c = f) (hF : F c = .inr (18, [.ref lb, .ref lr, .int rn, .int md])) (hv : γ 6 f = 0) (heq : md.toInt = γ 2 lb)
    (hb : γ 0 b = 0) (hl : γ 0 l = 0) (hn : γ 0 n = 0) (hbl : b ≠ l) (hbn : b ≠ n) (hln : l ≠ n) (hbe : b ≠ e1) (hle : l ≠ e1) (hne : n ≠ e1) (hbP : b ∈ P1) (hlP : l ∈ P1) (hnP : n ∈ P1) (he1 : (γ 0 e1 = 7 ∧ γ 3 e1 = lb ∧ γ 1 e1 = γ 1 lb) ∨ γ 0 e1 = 0) (heP : e1 ∈ P1)
    (hfr : ∀ a, γ 0 a ≠ 0 → a ≠ c → a ≠ lb → a ≠ e1 → F1 a = F a) (c1 : F1 c = .inr (18, [.ref lb, .ref lr, .int rn, .int md1])) (c2 : md1.toInt = md.toInt + 1)
    (hFb : F1 b = .inr (17, [.ref l, .ref n, .int p, .int s])) (bp : gB p 0 39) (bs : gB s 0 39) (hFn : rkR (F1 n)) (hFl : F1 l = .inr (4, [.int m2, .ref (D.2 1002 1), .int 0]))
    (q1 : F1 lb = .inr (4, [.int m1, .ref e1, .int z1])) (q2 : z1.toInt = γ 2 lb + 1) (q3 : F1 e1 = .inl (I (.object "java/lang/Object"), n1, .inr (.inr (.inr (.inr f1)))))
    (d1 : γ 2 lb + 1 ≤ n1) (d2 : (n1 : Int) ≤ 1000000) (d3 : 2 * n1 ≤ 3 * max (γ 17 lb) (γ 2 lb + 1) + 20) (d4 : 10 ≤ n1)
    (g1 : ∀ j, j < γ 2 lb → f1 j = some (el lb j)) (g2 : f1 (γ 2 lb) = some b) (g4 : ∀ j w, f1 j = some w → rLK γ w ∨ w = b) (hdc : 18 * dc + 4 * γ 13 lb ≤ 4 * n1 + 54) (hds : ds + 4 * γ 13 lb ≤ 4 * n1 + 54) :
    rBq D I P F γ el f c P1 F1 (gBln γ lb b l n e1 n1 f) (eIns el lb (γ 2 lb) b) b dc ds := by
  subst hcf
  have hR := RS_blkn hT hs hc hF hv heq hb hl hn hbl hbn hln hbe hle hne hbP hlP hnP he1 heP hfr c1 c2 hFb bp bs hFn hFl q1 q2 q3 d1 d2 d3 d4 g1 g2 g4
  obtain ⟨w2, w3, w4, w5, w6, w7, w8, w9, w10, w11, w12, w13, w14, w15, w16, w17⟩ := rk9_at hF (show rk_9 γ el c (F c) from RS_o hT hc)
  obtain ⟨⟨m', z', e', v1, v2, v3, v4, v5⟩, -⟩ := show rk_4 D I γ el F lb from RS_o hT w3
  have nb : ∀ a, γ 0 a ≠ 0 → a ≠ b := fun a h q => h (q ▸ hb)
  have nl : ∀ a, γ 0 a ≠ 0 → a ≠ l := fun a h q => h (q ▸ hl)
  have nn : ∀ a, γ 0 a ≠ 0 → a ≠ n := fun a h q => h (q ▸ hn)
  have c0 : γ 0 c ≠ 0 := by rw [hc]; decide
  have lb0 : γ 0 lb ≠ 0 := by rw [w3]; decide
  have lr0 : γ 0 lr ≠ 0 := by rw [w5]; decide
  have hlrb : lr ≠ lb := fun q => by rw [q, w3] at w5; cases w5
  have ne1 : ∀ a, γ 0 a ≠ 0 → a = e1 → γ 0 e1 = 7 ∧ γ 3 e1 = lb ∧ γ 1 e1 = γ 1 lb := fun a h q => he1.resolve_right (fun z => h (q ▸ z))
  have k0 : ∀ a, γ 0 a ≠ 0 → (gBln γ lb b l n e1 n1 (γ 1 c)) 0 a = γ 0 a := fun a h => by
    show (if a = b then 202 else if a = l then 3 else if a = n then 101 else if a = e1 then 7 else γ 0 a) = _
    rw [if_neg (nb a h), if_neg (nl a h), if_neg (nn a h)]
    split
    · next q => rw [q]; exact (ne1 a h q).1.symm
    · rfl
  have k1 : ∀ a, γ 0 a ≠ 0 → (gBln γ lb b l n e1 n1 (γ 1 c)) 1 a = γ 1 a := fun a h => by
    show (if a = b ∨ a = l ∨ a = n ∨ a = e1 then γ 1 c else γ 1 a) = _
    by_cases q : a = e1
    · rw [if_pos (Or.inr (Or.inr (Or.inr q))), q, (ne1 a h q).2.2, w4]
    · exact if_neg (fun z => by rcases z with z | z | z | z; exact nb a h z; exact nl a h z; exact nn a h z; exact q z)
  have k2 : ∀ a, γ 0 a ≠ 0 → a ≠ lb → (gBln γ lb b l n e1 n1 (γ 1 c)) 2 a = γ 2 a := fun a h h2 => (if_neg (nl a h)).trans (if_neg h2)
  have k13 : ∀ a, γ 0 a ≠ 0 → a ≠ lb → (gBln γ lb b l n e1 n1 (γ 1 c)) 13 a = γ 13 a := fun a h h2 => (if_neg (nl a h)).trans (if_neg h2)
  have k17 : ∀ a, γ 0 a ≠ 0 → a ≠ lb → (gBln γ lb b l n e1 n1 (γ 1 c)) 17 a = γ 17 a := fun a h h2 => (if_neg (nl a h)).trans (if_neg h2)
  have k14 : ∀ a, γ 0 a ≠ 0 → (gBln γ lb b l n e1 n1 (γ 1 c)) 14 a = γ 14 a := fun a h => if_neg (nb a h)
  have k15 : ∀ a, γ 0 a ≠ 0 → (gBln γ lb b l n e1 n1 (γ 1 c)) 15 a = γ 15 a := fun a h => if_neg (nb a h)
  have z2 : (gBln γ lb b l n e1 n1 (γ 1 c)) 2 lb = γ 2 lb + 1 := (if_neg (nl lb lb0)).trans (if_pos rfl)
  have zl : (gBln γ lb b l n e1 n1 (γ 1 c)) 2 l = 0 := if_pos rfl
  have z13 : (gBln γ lb b l n e1 n1 (γ 1 c)) 13 lb = n1 := (if_neg (nl lb lb0)).trans (if_pos rfl)
  have z13l : (gBln γ lb b l n e1 n1 (γ 1 c)) 13 l = 0 := if_pos rfl
  have z17 : (gBln γ lb b l n e1 n1 (γ 1 c)) 17 lb = max (γ 17 lb) (γ 2 lb + 1) := (if_neg (nl lb lb0)).trans (if_pos rfl)
  have z17l : (gBln γ lb b l n e1 n1 (γ 1 c)) 17 l = 0 := if_pos rfl
  have y14 : (gBln γ lb b l n e1 n1 (γ 1 c)) 14 b = l := if_pos rfl
  have o21 : (gBln γ lb b l n e1 n1 (γ 1 c)) 21 (γ 1 c) = c := w2.2.2
  have o14 : (gBln γ lb b l n e1 n1 (γ 1 c)) 14 c = lb := (k14 c c0).trans w2.1
  have o15 : (gBln γ lb b l n e1 n1 (γ 1 c)) 15 c = lr := (k15 c c0).trans w2.2.1
  have ze : ∀ i, eIns el lb (γ 2 lb) b lb i = if i < γ 2 lb then el lb i else if i = γ 2 lb then b else el lb (i - 1) := fun i => if_pos rfl
  have zb : eIns el lb (γ 2 lb) b lb (γ 2 lb) = b := by rw [ze, if_neg (Nat.lt_irrefl _), if_pos rfl]
  have zo : ∀ i, i < γ 2 lb → eIns el lb (γ 2 lb) b lb i = el lb i := fun i hi => by rw [ze, if_pos hi]
  have lbi : ∀ i, i < γ 2 lb → γ 0 (el lb i) ≠ 0 := fun i hi q => by have := ((show rk_4 D I γ el F lb from RS_o hT w3).2 i hi).1; omega
  have lst : ∀ i, i < γ 2 lb → γ 0 (γ 14 (el lb i)) ≠ 0 ∧ γ 14 (el lb i) ≠ lb := fun i hi => by
    obtain ⟨r, -⟩ := RS_lst hT w3 hi
    exact ⟨by omega, fun q => by rw [q, w3] at r; omega⟩
  have s13 : rsum (fun i => 4 * (gBln γ lb b l n e1 n1 (γ 1 c)) 13 ((gBln γ lb b l n e1 n1 (γ 1 c)) 14 (eIns el lb (γ 2 lb) b lb i))) (γ 2 lb + 1) = rsum (fun i => 4 * γ 13 (γ 14 (el lb i))) (γ 2 lb) := by
    show rsum _ (γ 2 lb) + 4 * (gBln γ lb b l n e1 n1 (γ 1 c)) 13 ((gBln γ lb b l n e1 n1 (γ 1 c)) 14 (eIns el lb (γ 2 lb) b lb (γ 2 lb))) = _
    rw [zb, y14, z13l]
    refine rsum_c _ (fun i hi => ?_)
    show 4 * _ = 4 * _
    rw [zo i hi, k14 _ (lbi i hi), k13 _ (lst i hi).1 (lst i hi).2]
  have s17 : rsum (fun i => 9 * (gBln γ lb b l n e1 n1 (γ 1 c)) 17 ((gBln γ lb b l n e1 n1 (γ 1 c)) 14 (eIns el lb (γ 2 lb) b lb i)) + 60) (γ 2 lb + 1) = rsum (fun i => 9 * γ 17 (γ 14 (el lb i)) + 60) (γ 2 lb) + 60 := by
    show rsum _ (γ 2 lb) + (9 * (gBln γ lb b l n e1 n1 (γ 1 c)) 17 ((gBln γ lb b l n e1 n1 (γ 1 c)) 14 (eIns el lb (γ 2 lb) b lb (γ 2 lb))) + 60) = _
    rw [zb, y14, z17l]
    have h : rsum (fun i => 9 * (gBln γ lb b l n e1 n1 (γ 1 c)) 17 ((gBln γ lb b l n e1 n1 (γ 1 c)) 14 (eIns el lb (γ 2 lb) b lb i)) + 60) (γ 2 lb) = rsum (fun i => 9 * γ 17 (γ 14 (el lb i)) + 60) (γ 2 lb) := rsum_c _ (fun i hi => by
      show 9 * _ + 60 = 9 * _ + 60
      rw [zo i hi, k14 _ (lbi i hi), k17 _ (lst i hi).1 (lst i hi).2])
    rw [h]
  have fc : (fI (F c) 3).toInt = md.toInt := by rw [hF]; rfl
  have fc1 : (fI (F1 c) 3).toInt = md1.toInt := by rw [c1]; rfl
  have hph : rPh (gBln γ lb b l n e1 n1 (γ 1 c)) (eIns el lb (γ 2 lb) b) (γ 1 c) + 4 * γ 13 lb = rPh γ el (γ 1 c) + 4 * n1 + 54 := by
    unfold rPh rPhc
    rw [o21, o14, o15, w2.2.2, w2.1, w2.2.1, z2, k2 lr lr0 hlrb, z13, k13 lr lr0 hlrb, s13]
    omega
  refine ⟨⟨hR, hs, ⟨fun a h0 _ => k0 a h0, fun a h0 => ⟨by rw [k0 a h0]; exact h0, k1 a h0, k14 a h0, k15 a h0, if_neg (nb a h0), if_neg (nl a h0), if_neg (nn a h0)⟩, fun a h0 ha => ?_, ⟨rfl, rfl, rfl, rfl, rfl⟩, fun g hg => ⟨rfl, rfl, rfl, rfl, rfl, rfl⟩⟩, fun a h0 ha => hfr a h0 (fun q => ?_) (fun q => ?_) (fun q => ?_)⟩, if_pos rfl, if_pos (Or.inl rfl), ⟨md.toInt.toNat, by rw [fc1, c2]; omega, by rw [fc]; omega, by rw [w2.1, z2]; omega, ?_, by rw [w2.1, z2]; omega, fun i hi => by rw [w2.1]; exact zo i (by omega)⟩, by rw [y14]; exact zl, rfl, rfl, ⟨rfl, rfl, rfl, rfl⟩, fun a ha => ?_, fun a h0 => ⟨if_neg (nn a h0), rfl⟩, ⟨by omega, by omega⟩, ?_, fun B h40 hB => ?_⟩
  · have q : a ≠ lb := fun q => ha (by rw [q]; exact w4)
    exact ⟨k2 a h0 q, k13 a h0 q, k17 a h0 q, eIns_ne q⟩
  · rw [q, hc] at ha
    rcases ha with ha | ha
    · exact ha (by decide)
    · exact ha.1 rfl
  · rw [q, w3, w4] at ha
    rcases ha with ha | ha
    · exact ha (by decide)
    · exact ha.1 rfl
  · have h7 := ne1 a h0 q
    rw [q, h7.1, h7.2.2, w4] at ha
    rcases ha with ha | ha
    · exact ha (by decide)
    · exact ha.1 rfl
  · have e2 : md.toInt.toNat = γ 2 lb := by omega
    rw [w2.1, e2]
    exact zb
  · have a0 : γ 0 a ≠ 0 := by rw [ha]; decide
    have q : a ≠ lb := fun q => by rw [q, w3] at ha; cases ha
    exact ⟨k2 a a0 q, eIns_ne q⟩
  · unfold rM rMc
    rw [o21, o14, o15, w2.2.2, w2.1, w2.2.1, z2, k2 lr lr0 hlrb, z17, k17 lr lr0 hlrb, s17]
    unfold rCp at v5
    omega
  · rw [fc, heq] at h40
    unfold rBd at hB ⊢
    have e16 : (gBln γ lb b l n e1 n1 (γ 1 c)) 16 = γ 16 := rfl
    rw [w2.2.2, w2.1, w2.2.1] at hB
    rw [o21, o14, o15, z2, k2 lr lr0 hlrb, z17, k17 lr lr0 hlrb, e16]
    obtain ⟨b1, b2, b3, b4, b5, b6⟩ := hB
    refine ⟨b1, by omega, by omega, b4, b5, fun j hj => ?_⟩
    by_cases q : j = γ 2 lb
    · rw [q, zb, y14, z17l]; exact Nat.zero_le _
    · have hj2 : j < γ 2 lb := by omega
      rw [zo j hj2, k14 _ (lbi j hj2), k17 _ (lst j hj2).1 (lst j hj2).2]
      exact b6 j hj2
theorem St_seal {p s : Int32} (hT : RS D I P F γ el) (hb : γ 0 b = 202) (hbf : γ 1 b = f) (hF : F b = .inr (17, [.ref l, .ref n, .int p, .int s])) (hc : γ 0 c = 9) (hcf : γ 1 c = f) (hp : p.toInt < γ 19 f) (hs : s.toInt < γ 19 f) (hv : γ 6 f = 0) (hn1 : rk_1 γ n (F n)) : rSt f [101, 202] [101, 202] D I P F γ el P F (gSea γ b n) el := by
  subst hbf
  obtain ⟨u1, u2, u3, u4, u5, u6, u7, u8⟩ := rk202_at hF (show rk_202 γ b (F b) from RS_o hT hb)
  refine ⟨RS_seal hT hb hF hc hcf hp hs hv hn1, rSub_rf, ⟨fun a h0 ha => (if_neg (fun q => ?_)).trans (if_neg (fun q => ?_)), fun a h0 => ⟨?_, rfl, rfl, rfl, rfl, rfl, rfl⟩, fun a h0 ha => ⟨rfl, rfl, rfl, rfl⟩, ⟨rfl, rfl, rfl, rfl, rfl⟩, fun g hg => ⟨rfl, rfl, rfl, rfl, rfl, rfl⟩⟩, fun a h0 ha => rfl⟩
  · rw [q, hb] at ha
    rcases ha with ha | ha
    · exact ha rfl
    · exact ha (by decide)
  · rw [q, u4, u5] at ha
    rcases ha with ha | ha
    · exact ha rfl
    · exact ha (by decide)
  · show (if a = b then 2 else if a = n then 1 else γ 0 a) ≠ 0
    split
    · decide
    · split
      · decide
      · exact h0
theorem St_num (hT : RS D I P F γ el) (hc : γ 0 c = 9) (hcf : γ 1 c = f) (hj : ∀ j, j ≠ 6 → j ≠ 7 → j ≠ 19 → j ≠ 23 → γ1 j = γ j) (hg : ∀ j g, g ≠ f → γ1 j g = γ j g) (h7 : γ 7 f ≤ γ1 7 f) (h19 : γ 19 f ≤ γ1 19 f ∧ (γ1 6 f = γ 6 f ∨ γ1 6 f = 0 ∨ γ 19 f ≤ γ1 6 f)) (h23 : ∀ g, g < 2 → 0 < γ 6 g ∨ 0 < γ 23 g → 0 < γ1 6 g ∨ 0 < γ1 23 g)
    (h9 : ∀ lb lr rn md, F c = .inr (18, [.ref lb, .ref lr, .int rn, .int md]) → rk_9 γ el c (F c) → (γ1 6 f = 0 ∨ (md.toInt = γ1 6 f ∧ md.toInt ≤ 40 ∧ γ1 19 f ≤ γ1 6 f)) ∧ (∀ i : Nat, (i : Int) < md.toInt → γ 0 (el lb i) = 2 ∨ (γ1 6 f = 0 ∧ γ 0 (el lb i) = 202))) : rSt f [] [] D I P F γ el P F γ1 el := by
  have e : ∀ j, j ≠ 6 → j ≠ 7 → j ≠ 19 → j ≠ 23 → ∀ a, γ1 j a = γ j a := fun j h1 h2 h3 h4 a => by rw [hj j h1 h2 h3 h4]
  have e' : ∀ j, j ≠ 6 ∧ j ≠ 7 ∧ j ≠ 19 ∧ j ≠ 23 → ∀ a, γ1 j a = γ j a := fun j h a => e j h.1 h.2.1 h.2.2.1 h.2.2.2 a
  have ej : ∀ j, j ≠ 6 ∧ j ≠ 7 ∧ j ≠ 19 ∧ j ≠ 23 → γ1 j = γ j := fun j h => hj j h.1 h.2.1 h.2.2.1 h.2.2.2
  exact ⟨RS_num f hT hc hcf hj hg h7 h19 h23 h9, rSub_rf, ⟨fun a _ _ => e' 0 (by decide) a, fun a h0 => ⟨by rw [e' 0 (by decide)]; exact h0, e' 1 (by decide) a, e' 14 (by decide) a, e' 15 (by decide) a, e' 8 (by decide) a, e' 20 (by decide) a, e' 22 (by decide) a⟩, fun a h0 ha => ⟨e' 2 (by decide) a, e' 13 (by decide) a, e' 17 (by decide) a, rfl⟩, ⟨ej 9 (by decide), ej 10 (by decide), ej 11 (by decide), ej 12 (by decide), ej 21 (by decide)⟩, fun g h => ⟨hg 6 g h, hg 7 g h, hg 16 g h, hg 18 g h, hg 19 g h, hg 23 g h⟩⟩, fun a _ _ => rfl⟩
theorem St_beg (B : Nat) (hT : RS D I P F γ el) (hc : γ 0 c = 9) (hcf : γ 1 c = f) (hF : F c = .inr (18, [.ref lb, .ref lr, .int rn, .int md])) (hfr : ∀ a, γ 0 a ≠ 0 → a ≠ c → F1 a = F a) (c1 : F1 c = .inr (18, [.ref lb, .ref lr, .int 0, .int 0])) :
    rSt f [1, 2, 3, 202] [1, 2, 3, 9, 202] D I P F γ el P F1 (gBeg γ f B) el ∧ rPh (gBeg γ f B) el f = rPh γ el f ∧ rM (gBeg γ f B) el f = rM γ el f ∧ ∀ C, rBd γ el f C → rBd (gBeg γ f B) el f C := by
  subst hcf
  have hz : ∀ a, γ 0 a ≠ 0 → (gBeg γ (γ 1 c) B) 0 a ≠ 0 := fun a h0 => by
    show (if γ 1 a = γ 1 c then (if γ 0 a = 1 then 101 else if γ 0 a = 2 ∨ γ 0 a = 202 then 102 else if γ 0 a = 3 then 103 else γ 0 a) else γ 0 a) ≠ 0
    split
    · split
      · decide
      · split
        · decide
        · split
          · decide
          · exact h0
    · exact h0
  refine ⟨⟨RS_beg B hT hc hF hfr c1, rSub_rf, ⟨fun a h0 ha => ?_, fun a h0 => ⟨hz a h0, rfl, rfl, rfl, rfl, rfl, rfl⟩, fun a h0 ha => ⟨rfl, rfl, rfl, rfl⟩, ⟨rfl, rfl, rfl, rfl, rfl⟩, fun g hg => ⟨if_neg hg, if_neg hg, if_neg hg, if_neg hg, if_neg hg, if_neg hg⟩⟩, fun a h0 ha => hfr a h0 (fun q => ?_)⟩, rfl, rfl, fun C hC => ⟨?_, hC.2⟩⟩
  · by_cases q : γ 1 a = γ 1 c
    · have hk := ha.resolve_left (fun z => z q)
      have n1 : γ 0 a ≠ 1 := fun z => hk (by rw [z]; decide)
      have n2 : γ 0 a ≠ 2 := fun z => hk (by rw [z]; decide)
      have n3 : γ 0 a ≠ 3 := fun z => hk (by rw [z]; decide)
      have n4 : γ 0 a ≠ 202 := fun z => hk (by rw [z]; decide)
      show (if γ 1 a = γ 1 c then (if γ 0 a = 1 then 101 else if γ 0 a = 2 ∨ γ 0 a = 202 then 102 else if γ 0 a = 3 then 103 else γ 0 a) else γ 0 a) = γ 0 a
      rw [if_pos q, if_neg n1, if_neg (fun z => by rcases z with z | z; exact n2 z; exact n4 z), if_neg n3]
    · exact if_neg q
  · rw [q, hc] at ha
    rcases ha with ha | ha
    · exact ha (by decide)
    · exact ha.1 rfl
  · show (if γ 1 c = γ 1 c then 0 else _) ≤ C
    rw [if_pos rfl]
    exact Nat.zero_le _
end RST3
end
section
/-! a walk's step: kinds alone say which cells may have changed -/
def npk : List Nat := List.range' 10 86
def rFk (K : List Nat) (γ : Nat → Nat → Nat) (F F1 : Nat → va_E) : Prop := ∀ a, γ 0 a ≠ 0 → γ 0 a ∉ K → F1 a = F a
/-- cells of another family, and such as are of no program: as they were; 999 in KF: nothing is said of families -/
def rFg (f : Nat) (K : List Nat) (γ : Nat → Nat → Nat) (F F1 : Nat → va_E) : Prop := ∀ a, γ 0 a ≠ 0 → (γ 0 a ∉ K ∨ (999 ∉ K ∧ γ 1 a ≠ f ∧ (γ 0 a ≤ 9 ∨ 100 ≤ γ 0 a))) → F1 a = F a
/-- cells of other families: as they were -/
def rFs (γ : Nat → Nat → Nat) (f : Nat) (F F1 : Nat → va_E) : Prop := ∀ a, γ 0 a ≠ 0 → (γ 0 a ≤ 9 ∨ 100 ≤ γ 0 a) → γ 1 a ≠ f → F1 a = F a
section RFS
variable {γ : Nat → Nat → Nat} {F F1 F2 : Nat → va_E} {f g a k : Nat} {P : List Nat}
theorem rFs_rf : rFs γ f F F := fun _ _ _ _ => rfl
theorem rFs_put (h : rFs γ f F F1) (n : ∀ b, b ≠ a → F2 b = F1 b) (hf : γ 1 a = f) : rFs γ f F F2 := fun b h0 hb hn => (n b (fun e => hn (by rw [e]; exact hf))).trans (h b h0 hb hn)
theorem rFs_pn (h : rFs γ f F F1) (n : ∀ b, b ≠ a → F2 b = F1 b) (hk : rKd γ a k) (h1 : 10 ≤ k ∧ k < 100) : rFs γ f F F2 := fun b h0 hb hn => (n b (fun e => by
  have e2 : γ 0 a = k := hk
  rw [e, e2] at hb
  omega)).trans (h b h0 hb hn)
theorem rFs_0 (hs : rStr γ [] F F1) : rFs γ f F F1 := fun b h0 hb _ => hs b h0 (by omega) (fun z => nomatch z)
theorem rFs_tr (h : rFs γ f F F1) (g : rFs γ f F1 F2) : rFs γ f F F2 := fun b h0 hb hn => (g b h0 hb hn).trans (h b h0 hb hn)
theorem rFs_e (h : rFs γ g F F1) (e : g = f) : rFs γ f F F1 := e ▸ h
theorem rFs_1 (n : ∀ b, b ≠ a → F1 b = F b) (hf : γ 1 a = f) : rFs γ f F F1 := rFs_put rFs_rf n hf
theorem rFs_fn {D : va_G} {I : FieldType → ClassId} {el : Nat → Nat → Nat} (hT : RS D I P F1 γ el) (h : rFs γ f F F1) (n : rFr [a] P F1 F2) (hk : rKd γ a k) (h1 : 10 ≤ k ∧ k < 100) : rFs γ f F F2 := fun b h0 hb hn => (n b (hT.1 b h0) (nm_c (fun e => by
  have e2 : γ 0 a = k := hk
  rw [e, e2] at hb
  omega) nm_n)).trans (h b h0 hb hn)
end RFS
def rSk (f : Nat) (K KF : List Nat) (D : va_G) (I : FieldType → ClassId) (P : List Nat) (F : Nat → va_E) (γ el : Nat → Nat → Nat) (P1 : List Nat) (F1 : Nat → va_E) (γ1 el1 : Nat → Nat → Nat) : Prop :=
  RS D I P1 F1 γ1 el1 ∧ rSub P P1 ∧ rEx f K γ γ1 el el1 ∧ rFg f KF γ F F1
section RSK
variable {D : va_G} {I : FieldType → ClassId} {P P1 P2 : List Nat} {F F1 F2 : Nat → va_E} {γ el γ1 el1 γ2 el2 : Nat → Nat → Nat} {f a k : Nat} {K K2 KF KF2 : List Nat}
theorem rSk_rf (hT : RS D I P F γ el) : rSk f K KF D I P F γ el P F γ el := ⟨hT, rSub_rf, rEx_rf, fun _ _ _ => rfl⟩
theorem rSk_of (h : rSt f K KF D I P F γ el P1 F1 γ1 el1) : rSk f K KF D I P F γ el P1 F1 γ1 el1 := ⟨h.1, h.2.1, h.2.2.1, fun a h0 ha => h.2.2.2 a h0 (ha.elim Or.inl (fun z => Or.inr z.2))⟩
theorem rSk_tr (h : rSk f K KF D I P F γ el P1 F1 γ1 el1) (g : rSk f K2 KF2 D I P1 F1 γ1 el1 P2 F2 γ2 el2) (hk : ∀ j, j ∈ K2 → j ∈ K) (hkf : ∀ j, j ∈ KF2 → j ∈ KF) (hK : ∀ j, j ∈ K → j ∈ KF) : rSk f K KF D I P F γ el P2 F2 γ2 el2 :=
  ⟨g.1, rSub_tr h.2.1 g.2.1, rEx_tr h.2.2.1 g.2.2.1 hk, fun a h0 ha => by
    have h1 := (h.2.2.1.2.1 a h0).1
    refine Eq.trans ?_ (h.2.2.2 a h0 ha)
    rcases ha with ha | ⟨q1, q2, q3⟩
    · have hk0 := h.2.2.1.1 a h0 (Or.inr (fun z => ha (hK _ z)))
      exact g.2.2.2 a h1 (Or.inl (by rw [hk0]; exact fun z => ha (hkf _ z)))
    · have hk0 := h.2.2.1.1 a h0 (Or.inl q2)
      exact g.2.2.2 a h1 (Or.inr ⟨fun z => q1 (hkf _ z), by rw [(h.2.2.1.2.1 a h0).2.1]; exact q2, by rw [hk0]; exact q3⟩)⟩
theorem rSk_put (h : rSk f K KF D I P F γ el P1 F1 γ1 el1) (hT : RS D I P1 F2 γ1 el1) (n : ∀ b, b ≠ a → F2 b = F1 b) (hk : rKd γ1 a k) (hk2 : k ∈ KF) (hK : ∀ j, j ∈ K → j ∈ KF) (hfm : 999 ∈ KF ∨ γ1 1 a = f ∨ (10 ≤ k ∧ k < 100) := by first | exact Or.inl (by decide) | exact Or.inr (Or.inr (by decide))) : rSk f K KF D I P F γ el P1 F2 γ1 el1 :=
  rSk_tr h (K2 := []) (KF2 := KF) ⟨hT, rSub_rf, rEx_rf, fun b _ hb => n b (fun e => by
    have e2 : γ1 0 a = k := hk
    rcases hb with hb | ⟨q1, q2, q3⟩
    · exact hb (by rw [e, e2]; exact hk2)
    · rw [e] at q2
      rw [e, e2] at q3
      rcases hfm with z | z | z
      · exact q1 z
      · exact q2 z
      · omega)⟩ (fun _ z => nomatch z) (fun _ z => z) hK
theorem rSk_str {W : List Nat} (h : rSk f K KF D I P F γ el P1 F1 γ1 el1) (hT : RS D I P1 F2 γ1 el1) (hs : rStr γ1 W F1 F2) (hW : ∀ j, j ∈ W → j ∈ KF) (hN : ∀ j, j ∈ npk → j ∈ KF) (hK : ∀ j, j ∈ K → j ∈ KF) (hfm : W = [] ∨ rFs γ1 f F1 F2 := by exact Or.inl rfl) : rSk f K KF D I P F γ el P1 F2 γ1 el1 :=
  rSk_tr h (K2 := []) (KF2 := KF) ⟨hT, rSub_rf, rEx_rf, fun b h0 hb => by
    rcases hb with hb | ⟨q1, q2, q3⟩
    · by_cases q : γ1 0 b ≤ 9 ∨ 96 ≤ γ1 0 b
      · exact hs b h0 q (fun z => hb (hW _ z))
      · exact absurd (hN (γ1 0 b) (by unfold npk; rw [List.mem_range']; exact ⟨γ1 0 b - 10, by omega, by omega⟩)) hb
    · rcases hfm with z | z
      · exact hs b h0 (by omega) (by rw [z]; exact fun z => nomatch z)
      · exact z b h0 q3 q2⟩ (fun _ z => nomatch z) (fun _ z => z) hK
theorem rSk_k (h : rSk f K KF D I P F γ el P1 F1 γ1 el1) (hk : rKd γ a k) (h0 : k ≠ 0) (hK : k ∉ K) : rKd γ1 a k := by
  have e : γ 0 a = k := hk
  exact (h.2.2.1.1 a (by omega) (Or.inr (by rw [e]; exact hK))).trans e
theorem rSk_kf (h : rSk f K KF D I P F γ el P1 F1 γ1 el1) (hk : rKd γ a k) (h0 : k ≠ 0) (hf : γ 1 a ≠ f) : rKd γ1 a k := by
  have e : γ 0 a = k := hk
  exact (h.2.2.1.1 a (by omega) (Or.inl hf)).trans e
theorem rSk_s (h : rSk f K KF D I P F γ el P1 F1 γ1 el1) (hk : rKd γ a k) (h0 : k ≠ 0) : γ1 1 a = γ 1 a ∧ γ1 14 a = γ 14 a ∧ γ1 15 a = γ 15 a ∧ γ1 8 a = γ 8 a ∧ γ1 20 a = γ 20 a ∧ γ1 22 a = γ 22 a := (h.2.2.1.2.1 a (by unfold rKd at hk; omega)).2
theorem rSk_1 {g : Nat} (h : rSk f K KF D I P F γ el P1 F1 γ1 el1) (hk : rKd γ a k) (h0 : k ≠ 0) (hg : γ 1 a = g) : γ1 1 a = g := ((h.2.2.1.2.1 a (by unfold rKd at hk; omega)).2.1).trans hg
theorem rSk_F (h : rSk f K KF D I P F γ el P1 F1 γ1 el1) (hk : rKd γ a k) (h0 : k ≠ 0) (hK : k ∉ KF) : F1 a = F a := by
  have e : γ 0 a = k := hk
  exact h.2.2.2 a (by omega) (Or.inl (by rw [e]; exact hK))
theorem rSk_l (h : rSk f K KF D I P F γ el P1 F1 γ1 el1) (hk : rKd γ a k) (h0 : k ≠ 0) (hf : γ 1 a ≠ f) : γ1 2 a = γ 2 a ∧ γ1 13 a = γ 13 a ∧ γ1 17 a = γ 17 a ∧ el1 a = el a := h.2.2.1.2.2.1 a (by unfold rKd at hk; omega) hf
theorem rSk_9 (h : rSk f K KF D I P F γ el P1 F1 γ1 el1) : γ1 9 = γ 9 := h.2.2.1.2.2.2.1.1
theorem rSk_g {g : Nat} (h : rSk f K KF D I P F γ el P1 F1 γ1 el1) (hg : g ≠ f) : γ1 6 g = γ 6 g ∧ γ1 7 g = γ 7 g ∧ γ1 16 g = γ 16 g ∧ γ1 18 g = γ 18 g ∧ γ1 19 g = γ 19 g ∧ γ1 23 g = γ 23 g := h.2.2.1.2.2.2.2 g hg
/-- a program of another family is as before -/
theorem rSk_o {o i : Nat} (hT : RS D I P F γ el) (h : rSk f K KF D I P F γ el P1 F1 γ1 el1) (ho : γ 0 o = 9) (hf : γ 1 o ≠ f) : γ1 14 o = γ 14 o ∧ γ1 2 (γ 14 o) = γ 2 (γ 14 o) ∧ el1 (γ 14 o) = el (γ 14 o) ∧ (i < γ 2 (γ 14 o) → γ1 14 (el (γ 14 o) i) = γ 14 (el (γ 14 o) i) ∧ γ1 2 (γ 14 (el (γ 14 o) i)) = γ 2 (γ 14 (el (γ 14 o) i)) ∧ el1 (γ 14 (el (γ 14 o) i)) = el (γ 14 (el (γ 14 o) i))) := by
  obtain ⟨a21, a4, a41, a5, a51⟩ := rc_at hT ho rfl
  obtain ⟨l1, -, -, l4⟩ := rSk_l h (show rKd γ (γ 14 o) 4 from a4) (by decide) (by rw [a41]; exact hf)
  refine ⟨(rSk_s h (show rKd γ o 9 from ho) (by decide)).2.1, l1, l4, fun hi => ?_⟩
  obtain ⟨q, q1, -⟩ := (show rk_4 D I γ el F (γ 14 o) from RS_o hT a4).2 i hi
  have q0 : γ 0 (el (γ 14 o) i) ≠ 0 := by omega
  obtain ⟨r, r1, -⟩ := RS_lst hT a4 hi
  have r0 : γ 0 (γ 14 (el (γ 14 o) i)) ≠ 0 := by omega
  obtain ⟨s1, -, -, s4⟩ := h.2.2.1.2.2.1 _ r0 (by rw [r1, a41]; exact hf)
  exact ⟨(h.2.2.1.2.1 _ q0).2.2.1, s1, s4⟩
end RSK
section RSK2
variable {D : va_G} {I : FieldType → ClassId} {P P1 P2 : List Nat} {F F1 F2 : Nat → va_E} {γ el γ1 el1 γ2 el2 : Nat → Nat → Nat} {f a k : Nat} {K K2 KF KF2 : List Nat}
theorem rSk_fr (h : rSk f K KF D I P F γ el P1 F1 γ1 el1) (hT : RS D I P1 F2 γ1 el1) (n : rFr [a] P1 F1 F2) (hk : rKd γ1 a k) (hk2 : k ∈ KF) (hK : ∀ j, j ∈ K → j ∈ KF) (hfm : 999 ∈ KF ∨ γ1 1 a = f ∨ (10 ≤ k ∧ k < 100) := by first | exact Or.inl (by decide) | exact Or.inr (Or.inr (by decide))) : rSk f K KF D I P F γ el P1 F2 γ1 el1 :=
  rSk_tr h (K2 := []) (KF2 := KF) ⟨hT, rSub_rf, rEx_rf, fun b h0 hb => n b (h.1.1 b h0) (nm_c (fun e => by
    have e2 : γ1 0 a = k := hk
    rcases hb with hb | ⟨q1, q2, q3⟩
    · exact hb (by rw [e, e2]; exact hk2)
    · rw [e] at q2
      rw [e, e2] at q3
      rcases hfm with z | z | z
      · exact q1 z
      · exact q2 z
      · omega) nm_n)⟩ (fun _ z => nomatch z) (fun _ z => z) hK
theorem rBd_c {c B : Nat} (hT : RS D I P F γ el) (hc : γ 0 c = 9) (hf : γ 1 c = f) (h : rBd γ el f B) : γ 16 f ≤ B ∧ γ 2 (γ 14 c) ≤ 40 ∧ γ 2 (γ 15 c) ≤ B ∧ ∀ i, i < γ 2 (γ 14 c) → γ 2 (γ 14 (el (γ 14 c) i)) ≤ B := by
  obtain ⟨a21, a4, a41, a5, a51⟩ := rc_at hT hc hf
  obtain ⟨b1, b2, b3, b4, b5, b6⟩ := h
  rw [a21] at b2 b4 b6
  refine ⟨b1, b2, b4, fun i hi => ?_⟩
  obtain ⟨-, -, -, q⟩ := RS_lst hT a4 hi
  have := b6 i hi
  unfold rCp at q
  omega
end RSK2
end
section
theorem dr_cJx4a65c_size_8abf5_0 : decode cJx4a65c_size_8abf5 0 = .ok (.aload_n 0, 1) := by decide +kernel
theorem dr_cJx4a65c_size_8abf5_1 : decode cJx4a65c_size_8abf5 1 = .ok (.getfield 48, 3) := by decide +kernel
theorem wr_7_18 : (Jvm.Cond.fieldLink "java/util/ArrayList" (48 : Nat) "java/util/ArrayList" "size" "I") ∈ gw := gw_7 18 rfl rfl
theorem dr_cJx4a65c_size_8abf5_4 : decode cJx4a65c_size_8abf5 4 = .ok (.ireturn, 1) := by decide +kernel
theorem dr_cJ3_checkIndex_8e157_0 : decode cJ3_checkIndex_8e157 0 = .ok (.iload_n 0, 1) := by decide +kernel
theorem dr_cJ3_checkIndex_8e157_1 : decode cJ3_checkIndex_8e157 1 = .ok (.ifCond .lt 8, 3) := by decide +kernel
theorem dr_cJ3_checkIndex_8e157_4 : decode cJ3_checkIndex_8e157 4 = .ok (.iload_n 0, 1) := by decide +kernel
theorem dr_cJ3_checkIndex_8e157_5 : decode cJ3_checkIndex_8e157 5 = .ok (.iload_n 1, 1) := by decide +kernel
theorem dr_cJ3_checkIndex_8e157_6 : decode cJ3_checkIndex_8e157 6 = .ok (.if_icmp .lt 10, 3) := by decide +kernel
theorem dr_cJ3_checkIndex_8e157_16 : decode cJ3_checkIndex_8e157 16 = .ok (.iload_n 0, 1) := by decide +kernel
theorem dr_cJ3_checkIndex_8e157_17 : decode cJ3_checkIndex_8e157 17 = .ok (.ireturn, 1) := by decide +kernel
theorem dr_cJ15_checkIndex_7cf53_0 : decode cJ15_checkIndex_7cf53 0 = .ok (.iload_n 0, 1) := by decide +kernel
theorem dr_cJ15_checkIndex_7cf53_1 : decode cJ15_checkIndex_7cf53 1 = .ok (.iload_n 1, 1) := by decide +kernel
theorem dr_cJ15_checkIndex_7cf53_2 : decode cJ15_checkIndex_7cf53 2 = .ok (.aconst_null, 1) := by decide +kernel
theorem dr_cJ15_checkIndex_7cf53_3 : decode cJ15_checkIndex_7cf53 3 = .ok (.invokestatic 105, 3) := by decide +kernel
theorem wr_10_69 : (Jvm.Cond.methodLink "java/util/Objects" (105 : Nat) ({ cls := "jdk/internal/util/Preconditions", name := "checkIndex", desc := "(IILjava/util/function/BiFunction;)I" } : Jvm.MethodName)) ∈ gw := gw_10 69 rfl rfl
theorem wr_1_29 : (Jvm.Cond.initialized "jdk/internal/util/Preconditions") ∈ gw := gw_1 29 rfl rfl
theorem wr_3_85 : (Jvm.Cond.code ({ cls := "jdk/internal/util/Preconditions", name := "checkIndex", desc := "(IILjava/util/function/BiFunction;)I" } : Jvm.MethodName) prog_52_method_11_code (3 : Nat) (Option.some Jvm.ClassFile.FieldType.int)) ∈ gw := gw_3 85 rfl rfl
theorem wr_3_84 : (Jvm.Cond.static ({ cls := "jdk/internal/util/Preconditions", name := "checkIndex", desc := "(IILjava/util/function/BiFunction;)I" } : Jvm.MethodName)) ∈ gw := gw_3 84 rfl rfl
theorem dr_cJ15_checkIndex_7cf53_6 : decode cJ15_checkIndex_7cf53 6 = .ok (.ireturn, 1) := by decide +kernel
theorem dr_cJx4a65c_elementData_915e3_0 : decode cJx4a65c_elementData_915e3 0 = .ok (.aload_n 0, 1) := by decide +kernel
theorem dr_cJx4a65c_elementData_915e3_1 : decode cJx4a65c_elementData_915e3 1 = .ok (.getfield 9, 3) := by decide +kernel
theorem wr_7_17 : (Jvm.Cond.fieldLink "java/util/ArrayList" (9 : Nat) "java/util/ArrayList" "elementData" "[Ljava/lang/Object;") ∈ gw := gw_7 17 rfl rfl
theorem dr_cJx4a65c_elementData_915e3_4 : decode cJx4a65c_elementData_915e3 4 = .ok (.iload_n 1, 1) := by decide +kernel
theorem dr_cJx4a65c_elementData_915e3_5 : decode cJx4a65c_elementData_915e3 5 = .ok (.aaload, 1) := by decide +kernel
theorem dr_cJx4a65c_elementData_915e3_6 : decode cJx4a65c_elementData_915e3 6 = .ok (.areturn, 1) := by decide +kernel
theorem dr_cJx4a65c_get_915e3_0 : decode cJx4a65c_get_915e3 0 = .ok (.iload_n 1, 1) := by decide +kernel
theorem dr_cJx4a65c_get_915e3_1 : decode cJx4a65c_get_915e3 1 = .ok (.aload_n 0, 1) := by decide +kernel
theorem dr_cJx4a65c_get_915e3_2 : decode cJx4a65c_get_915e3 2 = .ok (.getfield 48, 3) := by decide +kernel
theorem dr_cJx4a65c_get_915e3_5 : decode cJx4a65c_get_915e3 5 = .ok (.invokestatic 118, 3) := by decide +kernel
theorem wr_10_66 : (Jvm.Cond.methodLink "java/util/ArrayList" (118 : Nat) ({ cls := "java/util/Objects", name := "checkIndex", desc := "(II)I" } : Jvm.MethodName)) ∈ gw := gw_10 66 rfl rfl
theorem wr_1_40 : (Jvm.Cond.initialized "java/util/Objects") ∈ gw := gw_1 40 rfl rfl
theorem wr_10_68 : (Jvm.Cond.code ({ cls := "java/util/Objects", name := "checkIndex", desc := "(II)I" } : Jvm.MethodName) prog_48_method_17_code (2 : Nat) (Option.some Jvm.ClassFile.FieldType.int)) ∈ gw := gw_10 68 rfl rfl
theorem wr_10_67 : (Jvm.Cond.static ({ cls := "java/util/Objects", name := "checkIndex", desc := "(II)I" } : Jvm.MethodName)) ∈ gw := gw_10 67 rfl rfl
theorem dr_cJx4a65c_get_915e3_8 : decode cJx4a65c_get_915e3 8 = .ok (.pop, 1) := by decide +kernel
theorem dr_cJx4a65c_get_915e3_9 : decode cJx4a65c_get_915e3 9 = .ok (.aload_n 0, 1) := by decide +kernel
theorem dr_cJx4a65c_get_915e3_10 : decode cJx4a65c_get_915e3 10 = .ok (.iload_n 1, 1) := by decide +kernel
theorem dr_cJx4a65c_get_915e3_11 : decode cJx4a65c_get_915e3 11 = .ok (.invokevirtual 123, 3) := by decide +kernel
theorem wr_10_70 : (Jvm.Cond.methodLink "java/util/ArrayList" (123 : Nat) ({ cls := "java/util/ArrayList", name := "elementData", desc := "(I)Ljava/lang/Object;" } : Jvm.MethodName)) ∈ gw := gw_10 70 rfl rfl
theorem wr_1_18 : (Jvm.Cond.initialized "java/util/ArrayList") ∈ gw := gw_1 18 rfl rfl
theorem wr_10_73 : (Jvm.Cond.code ({ cls := "java/util/ArrayList", name := "elementData", desc := "(I)Ljava/lang/Object;" } : Jvm.MethodName) prog_43_method_18_code (2 : Nat) (Option.some (Jvm.ClassFile.FieldType.object "java/lang/Object"))) ∈ gw := gw_10 73 rfl rfl
theorem wr_10_71 : (Jvm.Cond.instanceMethod ({ cls := "java/util/ArrayList", name := "elementData", desc := "(I)Ljava/lang/Object;" } : Jvm.MethodName)) ∈ gw := gw_10 71 rfl rfl
theorem wr_10_72 : (Jvm.Cond.selects "java/util/ArrayList" ({ cls := "java/util/ArrayList", name := "elementData", desc := "(I)Ljava/lang/Object;" } : Jvm.MethodName) ({ cls := "java/util/ArrayList", name := "elementData", desc := "(I)Ljava/lang/Object;" } : Jvm.MethodName)) ∈ gw := gw_10 72 rfl rfl
theorem dr_cJx4a65c_get_915e3_14 : decode cJx4a65c_get_915e3 14 = .ok (.areturn, 1) := by decide +kernel
theorem dr_cJx4a65c_add_72be8_0 : decode cJx4a65c_add_72be8 0 = .ok (.iload_n 3, 1) := by decide +kernel
theorem dr_cJx4a65c_add_72be8_1 : decode cJx4a65c_add_72be8 1 = .ok (.aload_n 2, 1) := by decide +kernel
theorem dr_cJx4a65c_add_72be8_2 : decode cJx4a65c_add_72be8 2 = .ok (.arraylength, 1) := by decide +kernel
theorem dr_cJx4a65c_add_72be8_3 : decode cJx4a65c_add_72be8 3 = .ok (.if_icmp .ne 8, 3) := by decide +kernel
theorem dr_cJx4a65c_add_72be8_11 : decode cJx4a65c_add_72be8 11 = .ok (.aload_n 2, 1) := by decide +kernel
theorem dr_cJx4a65c_add_72be8_12 : decode cJx4a65c_add_72be8 12 = .ok (.iload_n 3, 1) := by decide +kernel
theorem dr_cJx4a65c_add_72be8_13 : decode cJx4a65c_add_72be8 13 = .ok (.aload_n 1, 1) := by decide +kernel
theorem dr_cJx4a65c_add_72be8_14 : decode cJx4a65c_add_72be8 14 = .ok (.aastore, 1) := by decide +kernel
theorem dr_cJx4a65c_add_72be8_15 : decode cJx4a65c_add_72be8 15 = .ok (.aload_n 0, 1) := by decide +kernel
theorem dr_cJx4a65c_add_72be8_16 : decode cJx4a65c_add_72be8 16 = .ok (.iload_n 3, 1) := by decide +kernel
theorem dr_cJx4a65c_add_72be8_17 : decode cJx4a65c_add_72be8 17 = .ok (.iconst 1, 1) := by decide +kernel
theorem dr_cJx4a65c_add_72be8_18 : decode cJx4a65c_add_72be8 18 = .ok (.iadd, 1) := by decide +kernel
theorem dr_cJx4a65c_add_72be8_19 : decode cJx4a65c_add_72be8 19 = .ok (.putfield 48, 3) := by decide +kernel
theorem dr_cJx4a65c_add_72be8_22 : decode cJx4a65c_add_72be8 22 = .ok (.return_, 1) := by decide +kernel
theorem dr_cJx4a65c_add_9ea2d_0 : decode cJx4a65c_add_9ea2d 0 = .ok (.aload_n 0, 1) := by decide +kernel
theorem dr_cJx4a65c_add_9ea2d_1 : decode cJx4a65c_add_9ea2d 1 = .ok (.dup, 1) := by decide +kernel
theorem dr_cJx4a65c_add_9ea2d_2 : decode cJx4a65c_add_9ea2d 2 = .ok (.getfield 63, 3) := by decide +kernel
theorem wr_7_20 : (Jvm.Cond.fieldLink "java/util/ArrayList" (63 : Nat) "java/util/ArrayList" "modCount" "I") ∈ gw := gw_7 20 rfl rfl
theorem wr_7_21 : (Jvm.Cond.sameField "java/util/ArrayList" "java/util/AbstractList" "modCount" "I") ∈ gw := gw_7 21 rfl rfl
theorem dr_cJx4a65c_add_9ea2d_5 : decode cJx4a65c_add_9ea2d 5 = .ok (.iconst 1, 1) := by decide +kernel
theorem dr_cJx4a65c_add_9ea2d_6 : decode cJx4a65c_add_9ea2d 6 = .ok (.iadd, 1) := by decide +kernel
theorem dr_cJx4a65c_add_9ea2d_7 : decode cJx4a65c_add_9ea2d 7 = .ok (.putfield 63, 3) := by decide +kernel
theorem dr_cJx4a65c_add_9ea2d_10 : decode cJx4a65c_add_9ea2d 10 = .ok (.aload_n 0, 1) := by decide +kernel
theorem dr_cJx4a65c_add_9ea2d_11 : decode cJx4a65c_add_9ea2d 11 = .ok (.aload_n 1, 1) := by decide +kernel
theorem dr_cJx4a65c_add_9ea2d_12 : decode cJx4a65c_add_9ea2d 12 = .ok (.aload_n 0, 1) := by decide +kernel
theorem dr_cJx4a65c_add_9ea2d_13 : decode cJx4a65c_add_9ea2d 13 = .ok (.getfield 9, 3) := by decide +kernel
theorem dr_cJx4a65c_add_9ea2d_16 : decode cJx4a65c_add_9ea2d 16 = .ok (.aload_n 0, 1) := by decide +kernel
theorem dr_cJx4a65c_add_9ea2d_17 : decode cJx4a65c_add_9ea2d 17 = .ok (.getfield 48, 3) := by decide +kernel
theorem dr_cJx4a65c_add_9ea2d_20 : decode cJx4a65c_add_9ea2d 20 = .ok (.invokevirtual 131, 3) := by decide +kernel
theorem wr_10_7 : (Jvm.Cond.methodLink "java/util/ArrayList" (131 : Nat) ({ cls := "java/util/ArrayList", name := "add", desc := "(Ljava/lang/Object;[Ljava/lang/Object;I)V" } : Jvm.MethodName)) ∈ gw := gw_10 7 rfl rfl
theorem wr_10_10 : (Jvm.Cond.code ({ cls := "java/util/ArrayList", name := "add", desc := "(Ljava/lang/Object;[Ljava/lang/Object;I)V" } : Jvm.MethodName) prog_43_method_24_code (4 : Nat) (Option.none : Option Jvm.ClassFile.FieldType)) ∈ gw := gw_10 10 rfl rfl
theorem wr_10_9 : (Jvm.Cond.instanceMethod ({ cls := "java/util/ArrayList", name := "add", desc := "(Ljava/lang/Object;[Ljava/lang/Object;I)V" } : Jvm.MethodName)) ∈ gw := gw_10 9 rfl rfl
theorem wr_p_85 : Cond.selects "java/util/ArrayList" ⟨"java/util/ArrayList", "add", "(Ljava/lang/Object;[Ljava/lang/Object;I)V"⟩ ⟨"java/util/ArrayList", "add", "(Ljava/lang/Object;[Ljava/lang/Object;I)V"⟩ ∈ gw := gw_p _ 85 rfl rfl rfl
theorem dr_cJx4a65c_add_9ea2d_23 : decode cJx4a65c_add_9ea2d 23 = .ok (.iconst 1, 1) := by decide +kernel
theorem dr_cJx4a65c_add_9ea2d_24 : decode cJx4a65c_add_9ea2d 24 = .ok (.ireturn, 1) := by decide +kernel
theorem dr_cJ8_newLength_cabcc_0 : decode cJ8_newLength_cabcc 0 = .ok (.iload_n 0, 1) := by decide +kernel
theorem dr_cJ8_newLength_cabcc_1 : decode cJ8_newLength_cabcc 1 = .ok (.iload_n 1, 1) := by decide +kernel
theorem dr_cJ8_newLength_cabcc_2 : decode cJ8_newLength_cabcc 2 = .ok (.iload_n 2, 1) := by decide +kernel
theorem dr_cJ8_newLength_cabcc_3 : decode cJ8_newLength_cabcc 3 = .ok (.invokestatic 194, 3) := by decide +kernel
theorem wr_8_15 : (Jvm.Cond.methodLink "jdk/internal/util/ArraysSupport" (194 : Nat) ({ cls := "java/lang/Math", name := "max", desc := "(II)I" } : Jvm.MethodName)) ∈ gw := gw_8 15 rfl rfl
theorem wr_1_140 : (Jvm.Cond.static ({ cls := "java/lang/Math", name := "max", desc := "(II)I" } : Jvm.MethodName)) ∈ gw := gw_1 140 rfl rfl
theorem wr_1_6 : (Jvm.Cond.initialized "java/lang/Math") ∈ gw := gw_1 6 rfl rfl
theorem wr_1_141 : (Jvm.Cond.code ({ cls := "java/lang/Math", name := "max", desc := "(II)I" } : Jvm.MethodName) prog_32_method_65_code (2 : Nat) (Option.some Jvm.ClassFile.FieldType.int)) ∈ gw := gw_1 141 rfl rfl
theorem dr_cJ8_newLength_cabcc_6 : decode cJ8_newLength_cabcc 6 = .ok (.iadd, 1) := by decide +kernel
theorem dr_cJ8_newLength_cabcc_7 : decode cJ8_newLength_cabcc 7 = .ok (.istore_n 3, 1) := by decide +kernel
theorem dr_cJ8_newLength_cabcc_8 : decode cJ8_newLength_cabcc 8 = .ok (.iconst 0, 1) := by decide +kernel
theorem dr_cJ8_newLength_cabcc_9 : decode cJ8_newLength_cabcc 9 = .ok (.iload_n 3, 1) := by decide +kernel
theorem dr_cJ8_newLength_cabcc_10 : decode cJ8_newLength_cabcc 10 = .ok (.if_icmp .ge 11, 3) := by decide +kernel
theorem dr_cJ8_newLength_cabcc_13 : decode cJ8_newLength_cabcc 13 = .ok (.iload_n 3, 1) := by decide +kernel
theorem dr_cJ8_newLength_cabcc_14 : decode cJ8_newLength_cabcc 14 = .ok (.ldc 200, 2) := by decide +kernel
theorem wr_8_16 : (Jvm.Cond.constant "jdk/internal/util/ArraysSupport" (200 : Nat) (2147483639 : Int32)) ∈ gw := gw_8 16 rfl rfl
theorem dr_cJ8_newLength_cabcc_16 : decode cJ8_newLength_cabcc 16 = .ok (.if_icmp .gt 5, 3) := by decide +kernel
theorem dr_cJ8_newLength_cabcc_19 : decode cJ8_newLength_cabcc 19 = .ok (.iload_n 3, 1) := by decide +kernel
theorem dr_cJ8_newLength_cabcc_20 : decode cJ8_newLength_cabcc 20 = .ok (.ireturn, 1) := by decide +kernel
theorem dr_cJ7_copyOf_6403c_0 : decode cJ7_copyOf_6403c 0 = .ok (.aload_n 2, 1) := by decide +kernel
theorem dr_cJ7_copyOf_6403c_1 : decode cJ7_copyOf_6403c 1 = .ok (.ldc 110, 2) := by decide +kernel
theorem wr_10_57 : (Jvm.Cond.classLink "java/util/Arrays" (110 : Nat) "[Ljava/lang/Object;") ∈ gw := gw_10 57 rfl rfl
theorem dr_cJ7_copyOf_6403c_3 : decode cJ7_copyOf_6403c 3 = .ok (.if_acmp .ne 10, 3) := by decide +kernel
theorem dr_cJ7_copyOf_6403c_6 : decode cJ7_copyOf_6403c 6 = .ok (.iload_n 1, 1) := by decide +kernel
theorem dr_cJ7_copyOf_6403c_7 : decode cJ7_copyOf_6403c 7 = .ok (.anewarray 2, 3) := by decide +kernel
theorem wr_10_59 : (Jvm.Cond.classLink "java/util/Arrays" (2 : Nat) "java/lang/Object") ∈ gw := gw_10 59 rfl rfl
theorem dr_cJ7_copyOf_6403c_10 : decode cJ7_copyOf_6403c 10 = .ok (.goto 14, 3) := by decide +kernel
theorem dr_cJ7_copyOf_6403c_24 : decode cJ7_copyOf_6403c 24 = .ok (.astore_n 3, 1) := by decide +kernel
theorem dr_cJ7_copyOf_6403c_25 : decode cJ7_copyOf_6403c 25 = .ok (.aload_n 0, 1) := by decide +kernel
theorem dr_cJ7_copyOf_6403c_26 : decode cJ7_copyOf_6403c 26 = .ok (.iconst 0, 1) := by decide +kernel
theorem dr_cJ7_copyOf_6403c_27 : decode cJ7_copyOf_6403c 27 = .ok (.aload_n 3, 1) := by decide +kernel
theorem dr_cJ7_copyOf_6403c_28 : decode cJ7_copyOf_6403c 28 = .ok (.iconst 0, 1) := by decide +kernel
theorem dr_cJ7_copyOf_6403c_29 : decode cJ7_copyOf_6403c 29 = .ok (.aload_n 0, 1) := by decide +kernel
theorem dr_cJ7_copyOf_6403c_30 : decode cJ7_copyOf_6403c 30 = .ok (.arraylength, 1) := by decide +kernel
theorem dr_cJ7_copyOf_6403c_31 : decode cJ7_copyOf_6403c 31 = .ok (.iload_n 1, 1) := by decide +kernel
theorem dr_cJ7_copyOf_6403c_32 : decode cJ7_copyOf_6403c 32 = .ok (.invokestatic 304, 3) := by decide +kernel
theorem wr_8_31 : (Jvm.Cond.methodLink "java/util/Arrays" (304 : Nat) ({ cls := "java/lang/Math", name := "min", desc := "(II)I" } : Jvm.MethodName)) ∈ gw := gw_8 31 rfl rfl
theorem wr_3_227 : (Jvm.Cond.static ({ cls := "java/lang/Math", name := "min", desc := "(II)I" } : Jvm.MethodName)) ∈ gw := gw_3 227 rfl rfl
theorem wr_3_228 : (Jvm.Cond.code ({ cls := "java/lang/Math", name := "min", desc := "(II)I" } : Jvm.MethodName) prog_32_method_69_code (2 : Nat) (Option.some Jvm.ClassFile.FieldType.int)) ∈ gw := gw_3 228 rfl rfl
theorem dr_cJ7_copyOf_6403c_35 : decode cJ7_copyOf_6403c 35 = .ok (.invokestatic 150, 3) := by decide +kernel
theorem wr_8_32 : (Jvm.Cond.methodLink "java/util/Arrays" (150 : Nat) ({ cls := "java/lang/System", name := "arraycopy", desc := "(Ljava/lang/Object;ILjava/lang/Object;II)V" } : Jvm.MethodName)) ∈ gw := gw_8 32 rfl rfl
theorem wr_5_113 : (Jvm.Cond.native ({ cls := "java/lang/System", name := "arraycopy", desc := "(Ljava/lang/Object;ILjava/lang/Object;II)V" } : Jvm.MethodName)) ∈ gw := gw_5 113 rfl rfl
theorem wr_5_112 : (Jvm.Cond.static ({ cls := "java/lang/System", name := "arraycopy", desc := "(Ljava/lang/Object;ILjava/lang/Object;II)V" } : Jvm.MethodName)) ∈ gw := gw_5 112 rfl rfl
theorem wr_1_34 : (Jvm.Cond.initialized "java/lang/System") ∈ gw := gw_1 34 rfl rfl
theorem dr_cJ7_copyOf_6403c_38 : decode cJ7_copyOf_6403c 38 = .ok (.aload_n 3, 1) := by decide +kernel
theorem dr_cJ7_copyOf_6403c_39 : decode cJ7_copyOf_6403c 39 = .ok (.areturn, 1) := by decide +kernel
theorem dr_cJ7_copyOf_1904c_0 : decode cJ7_copyOf_1904c 0 = .ok (.aload_n 0, 1) := by decide +kernel
theorem dr_cJ7_copyOf_1904c_1 : decode cJ7_copyOf_1904c 1 = .ok (.iload_n 1, 1) := by decide +kernel
theorem dr_cJ7_copyOf_1904c_2 : decode cJ7_copyOf_1904c 2 = .ok (.aload_n 0, 1) := by decide +kernel
theorem dr_cJ7_copyOf_1904c_3 : decode cJ7_copyOf_1904c 3 = .ok (.invokevirtual 86, 3) := by decide +kernel
theorem wr_10_23 : (Jvm.Cond.methodLink "java/util/Arrays" (86 : Nat) ({ cls := "java/lang/Object", name := "getClass", desc := "()Ljava/lang/Class;" } : Jvm.MethodName)) ∈ gw := gw_10 23 rfl rfl
theorem wr_12_1 : (Jvm.Cond.selects "[Ljava/lang/Object;" ({ cls := "java/lang/Object", name := "getClass", desc := "()Ljava/lang/Class;" } : Jvm.MethodName) ({ cls := "java/lang/Object", name := "getClass", desc := "()Ljava/lang/Class;" } : Jvm.MethodName)) ∈ gw := gw_12 1 rfl rfl
theorem wr_10_24 : (Jvm.Cond.instanceMethod ({ cls := "java/lang/Object", name := "getClass", desc := "()Ljava/lang/Class;" } : Jvm.MethodName)) ∈ gw := gw_10 24 rfl rfl
theorem wr_10_53 : (Jvm.Cond.native ({ cls := "java/lang/Object", name := "getClass", desc := "()Ljava/lang/Class;" } : Jvm.MethodName)) ∈ gw := gw_10 53 rfl rfl
theorem dr_cJ7_copyOf_1904c_6 : decode cJ7_copyOf_1904c 6 = .ok (.invokestatic 300, 3) := by decide +kernel
theorem wr_10_54 : (Jvm.Cond.methodLink "java/util/Arrays" (300 : Nat) ({ cls := "java/util/Arrays", name := "copyOf", desc := "([Ljava/lang/Object;ILjava/lang/Class;)[Ljava/lang/Object;" } : Jvm.MethodName)) ∈ gw := gw_10 54 rfl rfl
theorem wr_1_30 : (Jvm.Cond.initialized "java/util/Arrays") ∈ gw := gw_1 30 rfl rfl
theorem wr_10_56 : (Jvm.Cond.code ({ cls := "java/util/Arrays", name := "copyOf", desc := "([Ljava/lang/Object;ILjava/lang/Class;)[Ljava/lang/Object;" } : Jvm.MethodName) prog_44_method_120_code (4 : Nat) (Option.some (Jvm.ClassFile.FieldType.array (Jvm.ClassFile.FieldType.object "java/lang/Object")))) ∈ gw := gw_10 56 rfl rfl
theorem wr_10_55 : (Jvm.Cond.static ({ cls := "java/util/Arrays", name := "copyOf", desc := "([Ljava/lang/Object;ILjava/lang/Class;)[Ljava/lang/Object;" } : Jvm.MethodName)) ∈ gw := gw_10 55 rfl rfl
theorem dr_cJ7_copyOf_1904c_9 : decode cJ7_copyOf_1904c 9 = .ok (.areturn, 1) := by decide +kernel
theorem dr_cJx4a65c_grow_92f84_0 : decode cJx4a65c_grow_92f84 0 = .ok (.aload_n 0, 1) := by decide +kernel
theorem dr_cJx4a65c_grow_92f84_1 : decode cJx4a65c_grow_92f84 1 = .ok (.getfield 9, 3) := by decide +kernel
theorem dr_cJx4a65c_grow_92f84_4 : decode cJx4a65c_grow_92f84 4 = .ok (.arraylength, 1) := by decide +kernel
theorem dr_cJx4a65c_grow_92f84_5 : decode cJx4a65c_grow_92f84 5 = .ok (.istore_n 2, 1) := by decide +kernel
theorem dr_cJx4a65c_grow_92f84_6 : decode cJx4a65c_grow_92f84 6 = .ok (.iload_n 2, 1) := by decide +kernel
theorem dr_cJx4a65c_grow_92f84_7 : decode cJx4a65c_grow_92f84 7 = .ok (.ifCond .gt 13, 3) := by decide +kernel
theorem dr_cJx4a65c_grow_92f84_20 : decode cJx4a65c_grow_92f84 20 = .ok (.iload_n 2, 1) := by decide +kernel
theorem dr_cJx4a65c_grow_92f84_21 : decode cJx4a65c_grow_92f84 21 = .ok (.iload_n 1, 1) := by decide +kernel
theorem dr_cJx4a65c_grow_92f84_22 : decode cJx4a65c_grow_92f84 22 = .ok (.iload_n 2, 1) := by decide +kernel
theorem dr_cJx4a65c_grow_92f84_23 : decode cJx4a65c_grow_92f84 23 = .ok (.isub, 1) := by decide +kernel
theorem dr_cJx4a65c_grow_92f84_24 : decode cJx4a65c_grow_92f84 24 = .ok (.iload_n 2, 1) := by decide +kernel
theorem dr_cJx4a65c_grow_92f84_25 : decode cJx4a65c_grow_92f84 25 = .ok (.iconst 1, 1) := by decide +kernel
theorem dr_cJx4a65c_grow_92f84_26 : decode cJx4a65c_grow_92f84 26 = .ok (.ishr, 1) := by decide +kernel
theorem dr_cJx4a65c_grow_92f84_27 : decode cJx4a65c_grow_92f84 27 = .ok (.invokestatic 73, 3) := by decide +kernel
theorem wr_10_19 : (Jvm.Cond.methodLink "java/util/ArrayList" (73 : Nat) ({ cls := "jdk/internal/util/ArraysSupport", name := "newLength", desc := "(III)I" } : Jvm.MethodName)) ∈ gw := gw_10 19 rfl rfl
theorem wr_1_33 : (Jvm.Cond.initialized "jdk/internal/util/ArraysSupport") ∈ gw := gw_1 33 rfl rfl
theorem wr_8_14 : (Jvm.Cond.code ({ cls := "jdk/internal/util/ArraysSupport", name := "newLength", desc := "(III)I" } : Jvm.MethodName) prog_51_method_27_code (4 : Nat) (Option.some Jvm.ClassFile.FieldType.int)) ∈ gw := gw_8 14 rfl rfl
theorem wr_8_13 : (Jvm.Cond.static ({ cls := "jdk/internal/util/ArraysSupport", name := "newLength", desc := "(III)I" } : Jvm.MethodName)) ∈ gw := gw_8 13 rfl rfl
theorem dr_cJx4a65c_grow_92f84_30 : decode cJx4a65c_grow_92f84 30 = .ok (.istore_n 3, 1) := by decide +kernel
theorem dr_cJx4a65c_grow_92f84_31 : decode cJx4a65c_grow_92f84 31 = .ok (.aload_n 0, 1) := by decide +kernel
theorem dr_cJx4a65c_grow_92f84_32 : decode cJx4a65c_grow_92f84 32 = .ok (.aload_n 0, 1) := by decide +kernel
theorem dr_cJx4a65c_grow_92f84_33 : decode cJx4a65c_grow_92f84 33 = .ok (.getfield 9, 3) := by decide +kernel
theorem dr_cJx4a65c_grow_92f84_36 : decode cJx4a65c_grow_92f84 36 = .ok (.iload_n 3, 1) := by decide +kernel
theorem dr_cJx4a65c_grow_92f84_37 : decode cJx4a65c_grow_92f84 37 = .ok (.invokestatic 66, 3) := by decide +kernel
theorem wr_10_20 : (Jvm.Cond.methodLink "java/util/ArrayList" (66 : Nat) ({ cls := "java/util/Arrays", name := "copyOf", desc := "([Ljava/lang/Object;I)[Ljava/lang/Object;" } : Jvm.MethodName)) ∈ gw := gw_10 20 rfl rfl
theorem wr_10_22 : (Jvm.Cond.code ({ cls := "java/util/Arrays", name := "copyOf", desc := "([Ljava/lang/Object;I)[Ljava/lang/Object;" } : Jvm.MethodName) prog_44_method_119_code (2 : Nat) (Option.some (Jvm.ClassFile.FieldType.array (Jvm.ClassFile.FieldType.object "java/lang/Object")))) ∈ gw := gw_10 22 rfl rfl
theorem wr_10_21 : (Jvm.Cond.static ({ cls := "java/util/Arrays", name := "copyOf", desc := "([Ljava/lang/Object;I)[Ljava/lang/Object;" } : Jvm.MethodName)) ∈ gw := gw_10 21 rfl rfl
theorem dr_cJx4a65c_grow_92f84_40 : decode cJx4a65c_grow_92f84 40 = .ok (.dup_x1, 1) := by decide +kernel
theorem dr_cJx4a65c_grow_92f84_41 : decode cJx4a65c_grow_92f84 41 = .ok (.putfield 9, 3) := by decide +kernel
theorem dr_cJx4a65c_grow_92f84_44 : decode cJx4a65c_grow_92f84 44 = .ok (.areturn, 1) := by decide +kernel
theorem dr_cJx4a65c_grow_d5877_0 : decode cJx4a65c_grow_d5877 0 = .ok (.aload_n 0, 1) := by decide +kernel
theorem dr_cJx4a65c_grow_d5877_1 : decode cJx4a65c_grow_d5877 1 = .ok (.aload_n 0, 1) := by decide +kernel
theorem dr_cJx4a65c_grow_d5877_2 : decode cJx4a65c_grow_d5877 2 = .ok (.getfield 48, 3) := by decide +kernel
theorem dr_cJx4a65c_grow_d5877_5 : decode cJx4a65c_grow_d5877 5 = .ok (.iconst 1, 1) := by decide +kernel
theorem dr_cJx4a65c_grow_d5877_6 : decode cJx4a65c_grow_d5877 6 = .ok (.iadd, 1) := by decide +kernel
theorem dr_cJx4a65c_grow_d5877_7 : decode cJx4a65c_grow_d5877 7 = .ok (.invokevirtual 69, 3) := by decide +kernel
theorem wr_10_15 : (Jvm.Cond.methodLink "java/util/ArrayList" (69 : Nat) ({ cls := "java/util/ArrayList", name := "grow", desc := "(I)[Ljava/lang/Object;" } : Jvm.MethodName)) ∈ gw := gw_10 15 rfl rfl
theorem wr_10_18 : (Jvm.Cond.code ({ cls := "java/util/ArrayList", name := "grow", desc := "(I)[Ljava/lang/Object;" } : Jvm.MethodName) prog_43_method_6_code (4 : Nat) (Option.some (Jvm.ClassFile.FieldType.array (Jvm.ClassFile.FieldType.object "java/lang/Object")))) ∈ gw := gw_10 18 rfl rfl
theorem wr_10_17 : (Jvm.Cond.instanceMethod ({ cls := "java/util/ArrayList", name := "grow", desc := "(I)[Ljava/lang/Object;" } : Jvm.MethodName)) ∈ gw := gw_10 17 rfl rfl
theorem wr_p_87 : Cond.selects "java/util/ArrayList" ⟨"java/util/ArrayList", "grow", "(I)[Ljava/lang/Object;"⟩ ⟨"java/util/ArrayList", "grow", "(I)[Ljava/lang/Object;"⟩ ∈ gw := gw_p _ 87 rfl rfl rfl
theorem dr_cJx4a65c_grow_d5877_10 : decode cJx4a65c_grow_d5877 10 = .ok (.areturn, 1) := by decide +kernel
theorem dr_cJx4a65c_add_72be8_6 : decode cJx4a65c_add_72be8 6 = .ok (.aload_n 0, 1) := by decide +kernel
theorem dr_cJx4a65c_add_72be8_7 : decode cJx4a65c_add_72be8 7 = .ok (.invokevirtual 129, 3) := by decide +kernel
theorem wr_10_11 : (Jvm.Cond.methodLink "java/util/ArrayList" (129 : Nat) ({ cls := "java/util/ArrayList", name := "grow", desc := "()[Ljava/lang/Object;" } : Jvm.MethodName)) ∈ gw := gw_10 11 rfl rfl
theorem wr_10_14 : (Jvm.Cond.code ({ cls := "java/util/ArrayList", name := "grow", desc := "()[Ljava/lang/Object;" } : Jvm.MethodName) prog_43_method_7_code (1 : Nat) (Option.some (Jvm.ClassFile.FieldType.array (Jvm.ClassFile.FieldType.object "java/lang/Object")))) ∈ gw := gw_10 14 rfl rfl
theorem wr_10_13 : (Jvm.Cond.instanceMethod ({ cls := "java/util/ArrayList", name := "grow", desc := "()[Ljava/lang/Object;" } : Jvm.MethodName)) ∈ gw := gw_10 13 rfl rfl
theorem wr_p_86 : Cond.selects "java/util/ArrayList" ⟨"java/util/ArrayList", "grow", "()[Ljava/lang/Object;"⟩ ⟨"java/util/ArrayList", "grow", "()[Ljava/lang/Object;"⟩ ∈ gw := gw_p _ 86 rfl rfl rfl
theorem dr_cJx4a65c_add_72be8_10 : decode cJx4a65c_add_72be8 10 = .ok (.astore_n 2, 1) := by decide +kernel
abbrev ky_7_ArrayList_size : gKey := (cJx4a65c_size_8abf5, 1, "java/util/ArrayList", (some FieldType.int), [], "size", fun _ _ => True)
def pp_7_ArrayList_size (D : va_G) (I : FieldType → ClassId) (P1 : List Nat) (F2 : Nat → va_E) (q3 : Nat) (p4 : Int32) (qo5 : Nat) (p6 : Int32) : Option Value → va_W → Nat → Nat → Prop := fun r w dc ds => r = some (.int p6) ∧ w = va_pl P1 F2 ∧ dc ≤ 0 ∧ ds ≤ 0
set_option maxRecDepth 100000 in
set_option maxHeartbeats 4000000 in
theorem cp_7_ArrayList_size (l : Launch) (hl0 : l.stackTraces = false) (D : va_G) (I : FieldType → ClassId) (P1 : List Nat) (F2 : Nat → va_E) (q3 : Nat) (p4 : Int32) (qo5 : Nat) (p6 : Int32) (hmq3 : q3 ∈ P1) (heq3 : F2 q3 = .inr (4, [.int p4, .ref qo5, .int p6])) (bp6 : gB p6 0 16777216) : CtA (gV D I) l yJx4a65c_size_8abf5 cJx4a65c_size_8abf5 1 (some FieldType.int) 0 0 0 0 [.ref q3] (va_pl P1 F2) (pp_7_ArrayList_size D I P1 F2 q3 p4 qo5 p6) gNA := by
  refine CtA_ofF hl0 (by decide +kernel) (Nat.le_of_ble_eq_true rfl) ?_
  have bp4 := gB_any p4
  refine G_aload_n 0 dr_cJx4a65c_size_8abf5_0 rfl ?_
  refine Gp_get 2 hmq3 heq3 dr_cJx4a65c_size_8abf5_1 (gk_Jx4a65c D I) (Nat.le_of_ble_eq_true rfl) wr_7_18 rfl ?_
  exact G_iretA dr_cJx4a65c_size_8abf5_4 rfl (Nat.le_of_ble_eq_true rfl) (Nat.le_of_ble_eq_true rfl) ⟨rfl, rfl, (Nat.le_of_ble_eq_true rfl), (Nat.le_of_ble_eq_true rfl)⟩
/- tr_RPreconditions_checkIndex:  -/
def tr_RPreconditions_checkIndex (a0 : Int32) (a1 : Int32) : Prop := ∀ R : Prop,
  (a0.toInt < a1.toInt → R) →
  R
abbrev ky_34_Preconditions_checkIndex : gKey := (cJ3_checkIndex_8e157, 3, "jdk/internal/util/Preconditions", (some FieldType.int), [], "checkIndex", fun _ _ => True)
def pp_34_Preconditions_checkIndex (D : va_G) (I : FieldType → ClassId) (P29 : List Nat) (F30 : Nat → va_E) (p31 : Int32) (p32 : Int32) : Option Value → va_W → Nat → Nat → Prop := fun r w dc ds => r = some (.int p31) ∧ w = va_pl P29 F30 ∧ dc ≤ 0 ∧ ds ≤ 0 ∧ tr_RPreconditions_checkIndex p31 p32
set_option maxRecDepth 100000 in
set_option maxHeartbeats 4000000 in
theorem cp_34_Preconditions_checkIndex (l : Launch) (hl0 : l.stackTraces = false) (D : va_G) (I : FieldType → ClassId) (P29 : List Nat) (F30 : Nat → va_E) (p31 : Int32) (p32 : Int32) (bp31 : gB p31 0 16777216) (bp32 : gB p32 0 16777216) (x33 : p31.toInt < p32.toInt) : CtA (gV D I) l yJ3_checkIndex_8e157 cJ3_checkIndex_8e157 3 (some FieldType.int) 0 0 0 0 [.int p31, .int p32, .null] (va_pl P29 F30) (pp_34_Preconditions_checkIndex D I P29 F30 p31 p32) gNA := by
  refine CtA_ofF hl0 (by decide +kernel) (Nat.le_of_ble_eq_true rfl) ?_
  refine G_iload_n 0 dr_cJ3_checkIndex_8e157_0 rfl ?_
  refine G_if_lt 9 dr_cJ3_checkIndex_8e157_1 (by decide +kernel) (fun hc => absurd (show False by have := gj_lt hc (show Int32.toInt 0 = 0 by decide); omega) not_false) (fun _ => ?_)
  refine G_iload_n 0 dr_cJ3_checkIndex_8e157_4 rfl ?_
  refine G_iload_n 1 dr_cJ3_checkIndex_8e157_5 rfl ?_
  refine G_icmp_lt 16 dr_cJ3_checkIndex_8e157_6 (by decide +kernel) (fun hc35 => ?_) (fun hc35 => ?_)
  · have r36 : p31.toInt < p32.toInt := gC_lt hc35
    have bp31' : gB p31 0 16777215 := ⟨by omega, by omega⟩
    have bp32' : gB p32 1 16777216 := ⟨by omega, by omega⟩
    refine G_iload_n 0 dr_cJ3_checkIndex_8e157_16 rfl ?_
    exact G_iretA dr_cJ3_checkIndex_8e157_17 rfl (Nat.le_of_ble_eq_true rfl) (Nat.le_of_ble_eq_true rfl) ⟨rfl, rfl, (Nat.le_of_ble_eq_true rfl), (Nat.le_of_ble_eq_true rfl), (fun R c1 => c1 r36)⟩
  · have r37 : p32.toInt ≤ p31.toInt := gC_nlt hc35
    exact absurd (show False by omega) not_false
/- tr_RObjects_checkIndex:  -/
def tr_RObjects_checkIndex (a0 : Int32) (a1 : Int32) : Prop := ∀ R : Prop,
  (tr_RPreconditions_checkIndex a0 a1 → R) →
  R
abbrev ky_28_Objects_checkIndex : gKey := (cJ15_checkIndex_7cf53, 2, "java/util/Objects", (some FieldType.int), [], "checkIndex", fun _ _ => True)
def pp_28_Objects_checkIndex (D : va_G) (I : FieldType → ClassId) (P23 : List Nat) (F24 : Nat → va_E) (p25 : Int32) (p26 : Int32) : Option Value → va_W → Nat → Nat → Prop := fun r w dc ds => r = some (.int p25) ∧ w = va_pl P23 F24 ∧ dc ≤ 0 ∧ ds ≤ 0 ∧ tr_RObjects_checkIndex p25 p26
set_option maxRecDepth 100000 in
set_option maxHeartbeats 4000000 in
theorem cp_28_Objects_checkIndex (l : Launch) (hl0 : l.stackTraces = false) (D : va_G) (I : FieldType → ClassId) (P23 : List Nat) (F24 : Nat → va_E) (p25 : Int32) (p26 : Int32) (bp25 : gB p25 0 16777216) (bp26 : gB p26 0 16777216) (x27 : p25.toInt < p26.toInt) : CtA (gV D I) l yJ15_checkIndex_7cf53 cJ15_checkIndex_7cf53 2 (some FieldType.int) 1 22 0 0 [.int p25, .int p26] (va_pl P23 F24) (pp_28_Objects_checkIndex D I P23 F24 p25 p26) gNA := by
  refine CtA_ofF hl0 (by decide +kernel) (Nat.le_of_ble_eq_true rfl) ?_
  refine G_iload_n 0 dr_cJ15_checkIndex_7cf53_0 rfl ?_
  refine G_iload_n 1 dr_cJ15_checkIndex_7cf53_1 rfl ?_
  refine G_null dr_cJ15_checkIndex_7cf53_2 ?_
  refine Gw_callS (As := [.int p25, .int p26, .null]) (gV_ok D I) (cp_34_Preconditions_checkIndex l hl0 D I P23 F24 p25 p26 bp25 bp26 (by omega)) dr_cJ15_checkIndex_7cf53_3 ⟨wr_10_69, wr_1_29, wr_3_85, by decide, rfl, (Nat.le_of_ble_eq_true rfl), (Nat.le_of_ble_eq_true rfl)⟩ wr_3_84 (show 0 + 0 ≤ 0 by first | omega | decide) (show 0 + 0 ≤ 0 by first | omega | decide) (Nat.le_of_ble_eq_true rfl) (fun r41 w42 dc38 ds39 hp40 => ?_) (fun _ _ _ _ _ z => z.elim)
  obtain ⟨rfl, rfl, hdc, hds, ht43⟩ := hp40
  change G _ _ _ _ _ _ _ (.int p25 :: _) _ _ _
  refine G_widen (cs' := 0) (sl' := 0) (by omega) (by omega) ?_
  exact G_iretA dr_cJ15_checkIndex_7cf53_6 rfl (Nat.le_of_ble_eq_true rfl) (Nat.le_of_ble_eq_true rfl) ⟨rfl, rfl, (Nat.le_of_ble_eq_true rfl), (Nat.le_of_ble_eq_true rfl), (fun R c1 => c1 ht43)⟩
abbrev ky_63_ArrayList_elementData : gKey := (cJx4a65c_elementData_915e3, 2, "java/util/ArrayList", (some (FieldType.object "java/lang/Object")), [], "elementData", fun _ _ => True)
def pp_63_ArrayList_elementData (D : va_G) (I : FieldType → ClassId) (P50 : List Nat) (F51 : Nat → va_E) (q52 : Nat) (q53 : Nat) (p54 : Int32) (p55 : Int32) (p56 : Int32) (f57 : Nat → Option Nat) (n58 : Nat) (x59 : Nat) : Option Value → va_W → Nat → Nat → Prop := fun r w dc ds => r = some (.ref x59) ∧ w = va_pl P50 F51 ∧ dc ≤ 0 ∧ ds ≤ 0
set_option maxRecDepth 100000 in
set_option maxHeartbeats 4000000 in
theorem cp_63_ArrayList_elementData (l : Launch) (hl0 : l.stackTraces = false) (D : va_G) (I : FieldType → ClassId) (P50 : List Nat) (F51 : Nat → va_E) (q52 : Nat) (q53 : Nat) (p54 : Int32) (p55 : Int32) (p56 : Int32) (f57 : Nat → Option Nat) (n58 : Nat) (x59 : Nat) (hmq52 : q52 ∈ P50) (hmq53 : q53 ∈ P50) (heq52 : F51 q52 = .inr (4, [.int p55, .ref q53, .int p56])) (heq53 : F51 q53 = .inl (I (.object "java/lang/Object"), n58, .inr (.inr (.inr (.inr f57))))) (bp54 : gB p54 0 16777216) (bp56 : gB p56 0 16777216) (x60 : p54.toInt < (n58 : Int)) (x61 : f57 p54.toNatClampNeg = some x59) (x62 : ((n58 : Int) ≤ 16777216)) : CtA (gV D I) l yJx4a65c_elementData_915e3 cJx4a65c_elementData_915e3 2 (some (FieldType.object "java/lang/Object")) 0 0 0 0 [.ref q52, .int p54] (va_pl P50 F51) (pp_63_ArrayList_elementData D I P50 F51 q52 q53 p54 p55 p56 f57 n58 x59) gNA := by
  refine CtA_ofF hl0 (by decide +kernel) (Nat.le_of_ble_eq_true rfl) ?_
  have bp55 := gB_any p55
  refine G_aload_n 0 dr_cJx4a65c_elementData_915e3_0 rfl ?_
  refine Gp_get 1 hmq52 heq52 dr_cJx4a65c_elementData_915e3_1 (gk_Jx4a65c D I) (Nat.le_of_ble_eq_true rfl) wr_7_17 rfl ?_
  refine G_iload_n 1 dr_cJx4a65c_elementData_915e3_4 rfl ?_
  refine Gp_aald 4 hmq53 heq53 dr_cJx4a65c_elementData_915e3_5 rfl rfl (gB_inr (by omega) (by omega)) ?_
  rw [x61]
  change G _ _ _ _ _ _ _ (.ref x59 :: _) _ _ _
  exact G_aretA (FieldType.object "java/lang/Object") dr_cJx4a65c_elementData_915e3_6 rfl (by first | exact Or.inl ⟨_, rfl⟩ | exact Or.inr ⟨_, rfl⟩) (Or.inr ⟨_, rfl⟩) (Nat.le_of_ble_eq_true rfl) (Nat.le_of_ble_eq_true rfl) ⟨rfl, rfl, (Nat.le_of_ble_eq_true rfl), (Nat.le_of_ble_eq_true rfl)⟩
/- tr_RArrayList_get:  -/
def tr_RArrayList_get (a1 : Int32) (a0_size : Int32) : Prop := ∀ R : Prop,
  (tr_RObjects_checkIndex a1 a0_size → R) →
  R
abbrev ky_22_ArrayList_get : gKey := (cJx4a65c_get_915e3, 2, "java/util/ArrayList", (some (FieldType.object "java/lang/Object")), [], "get", fun _ _ => True)
def pp_22_ArrayList_get (D : va_G) (I : FieldType → ClassId) (P8 : List Nat) (F9 : Nat → va_E) (q10 : Nat) (q11 : Nat) (p12 : Int32) (p13 : Int32) (p14 : Int32) (f15 : Nat → Option Nat) (n16 : Nat) (x17 : Nat) : Option Value → va_W → Nat → Nat → Prop := fun r w dc ds => r = some (.ref x17) ∧ w = va_pl P8 F9 ∧ dc ≤ 0 ∧ ds ≤ 0 ∧ tr_RArrayList_get p12 p14
set_option maxRecDepth 100000 in
set_option maxHeartbeats 4000000 in
theorem cp_22_ArrayList_get (l : Launch) (hl0 : l.stackTraces = false) (D : va_G) (I : FieldType → ClassId) (P8 : List Nat) (F9 : Nat → va_E) (q10 : Nat) (q11 : Nat) (p12 : Int32) (p13 : Int32) (p14 : Int32) (f15 : Nat → Option Nat) (n16 : Nat) (x17 : Nat) (hmq10 : q10 ∈ P8) (hmq11 : q11 ∈ P8) (heq10 : F9 q10 = .inr (4, [.int p13, .ref q11, .int p14])) (heq11 : F9 q11 = .inl (I (.object "java/lang/Object"), n16, .inr (.inr (.inr (.inr f15))))) (bp12 : gB p12 0 16777216) (bp14 : gB p14 0 16777216) (x18 : p12.toInt < p14.toInt) (x19 : p14.toInt ≤ (n16 : Int)) (x20 : f15 p12.toNatClampNeg = some x17) (x21 : ((n16 : Int) ≤ 16777216)) : CtA (gV D I) l yJx4a65c_get_915e3 cJx4a65c_get_915e3 2 (some (FieldType.object "java/lang/Object")) 2 43 0 0 [.ref q10, .int p12] (va_pl P8 F9) (pp_22_ArrayList_get D I P8 F9 q10 q11 p12 p13 p14 f15 n16 x17) gNA := by
  refine CtA_ofF hl0 (by decide +kernel) (Nat.le_of_ble_eq_true rfl) ?_
  have bp13 := gB_any p13
  refine G_iload_n 1 dr_cJx4a65c_get_915e3_0 rfl ?_
  refine G_aload_n 0 dr_cJx4a65c_get_915e3_1 rfl ?_
  refine Gp_get 2 hmq10 heq10 dr_cJx4a65c_get_915e3_2 (gk_Jx4a65c D I) (Nat.le_of_ble_eq_true rfl) wr_7_18 rfl ?_
  refine Gw_callS (As := [.int p12, .int p14]) (gV_ok D I) (cp_28_Objects_checkIndex l hl0 D I P8 F9 p12 p14 bp12 bp14 (by omega)) dr_cJx4a65c_get_915e3_5 ⟨wr_10_66, wr_1_40, wr_10_68, by decide, rfl, (Nat.le_of_ble_eq_true rfl), (Nat.le_of_ble_eq_true rfl)⟩ wr_10_67 (show 0 + 0 ≤ 0 by first | omega | decide) (show 0 + 0 ≤ 0 by first | omega | decide) (Nat.le_of_ble_eq_true rfl) (fun r47 w48 dc44 ds45 hp46 => ?_) (fun _ _ _ _ _ z => z.elim)
  obtain ⟨rfl, rfl, hdc, hds, ht49⟩ := hp46
  change G _ _ _ _ _ _ _ (.int p12 :: _) _ _ _
  refine G_widen (cs' := 0) (sl' := 0) (by omega) (by omega) ?_
  refine G_pop dr_cJx4a65c_get_915e3_8 rfl ?_
  refine G_aload_n 0 dr_cJx4a65c_get_915e3_9 rfl ?_
  refine G_iload_n 1 dr_cJx4a65c_get_915e3_10 rfl ?_
  refine Gw_callV (As := [.int p12]) (gV_ok D I) (cp_63_ArrayList_elementData l hl0 D I P8 F9 q10 q11 p12 p13 p14 f15 n16 x17 hmq10 hmq11 heq10 heq11 bp12 bp14 (by omega) (by assumption) (by omega)) dr_cJx4a65c_get_915e3_11 ⟨wr_10_70, wr_1_18, wr_10_73, by decide, rfl, (Nat.le_of_ble_eq_true rfl), (Nat.le_of_ble_eq_true rfl)⟩ wr_10_71 wr_10_72 hmq10 heq10 rfl (show 0 + 0 ≤ 0 by first | omega | decide) (show 0 + 0 ≤ 0 by first | omega | decide) (Nat.le_of_ble_eq_true rfl) (fun r67 w68 dc64 ds65 hp66 => ?_) (fun _ _ _ _ _ z => z.elim)
  obtain ⟨rfl, rfl, hdc, hds⟩ := hp66
  change G _ _ _ _ _ _ _ (.ref x17 :: _) _ _ _
  refine G_widen (cs' := 0) (sl' := 0) (by omega) (by omega) ?_
  exact G_aretA (FieldType.object "java/lang/Object") dr_cJx4a65c_get_915e3_14 rfl (by first | exact Or.inl ⟨_, rfl⟩ | exact Or.inr ⟨_, rfl⟩) (Or.inr ⟨_, rfl⟩) (Nat.le_of_ble_eq_true rfl) (Nat.le_of_ble_eq_true rfl) ⟨rfl, rfl, (Nat.le_of_ble_eq_true rfl), (Nat.le_of_ble_eq_true rfl), (fun R c1 => c1 ht49)⟩
abbrev ky_118_ArrayList_add : gKey := (cJx4a65c_add_72be8, 4, "java/util/ArrayList", none, [], "add", fun _ _ => True)
def pp_118_ArrayList_add (D : va_G) (I : FieldType → ClassId) (P97 : List Nat) (F98 : Nat → va_E) (q99 : Nat) (q100 : Nat) (q101 : Nat) (p102 : Int32) (p103 : Int32) (p104 : Int32) (p105 : Int32) (p106 : Int32) (p107 : Int32) (p108 : Int32) (p109 : Int32) (p110 : Int32) (p111 : Int32) (f112 : Nat → Option Nat) (n113 : Nat) : Option Value → va_W → Nat → Nat → Prop := fun r w dc ds => ∃ (F142 : Nat → va_E) (o139 : Int32) (f140 : Nat → Option Nat), r = none ∧ w = va_pl P97 F142 ∧ rFr [q99, q101] P97 F98 F142 ∧ F142 q99 = .inr (4, [.int p103, .ref q101, .int o139]) ∧ F142 q100 = .inr (20, [.int p105, .int p106, .int p107, .int p108, .int p109, .int p110, .int p111]) ∧ F142 q101 = .inl (I (.object "java/lang/Object"), n113, .inr (.inr (.inr (.inr f140)))) ∧ dc ≤ 0 ∧ ds ≤ 0 ∧ gB o139 1 16777217 ∧ o139.toInt = p104.toInt + 1 ∧ ((∀ j : Nat, (j : Int) < p104.toInt → f140 j = f112 j) ∧ f140 p102.toInt.toNat = some q100) ∧ rSrcX f140 f112 q100
set_option maxRecDepth 100000 in
set_option maxHeartbeats 4000000 in
theorem cp_118_ArrayList_add (l : Launch) (hl0 : l.stackTraces = false) (D : va_G) (I : FieldType → ClassId) (P97 : List Nat) (F98 : Nat → va_E) (q99 : Nat) (q100 : Nat) (q101 : Nat) (p102 : Int32) (p103 : Int32) (p104 : Int32) (p105 : Int32) (p106 : Int32) (p107 : Int32) (p108 : Int32) (p109 : Int32) (p110 : Int32) (p111 : Int32) (f112 : Nat → Option Nat) (n113 : Nat) (hmq99 : q99 ∈ P97) (hmq100 : q100 ∈ P97) (hmq101 : q101 ∈ P97) (heq99 : F98 q99 = .inr (4, [.int p103, .ref q101, .int p104])) (heq100 : F98 q100 = .inr (20, [.int p105, .int p106, .int p107, .int p108, .int p109, .int p110, .int p111])) (heq101 : F98 q101 = .inl (I (.object "java/lang/Object"), n113, .inr (.inr (.inr (.inr f112))))) (bp102 : gB p102 0 16777216) (bp104 : gB p104 0 16777216) (bp105 : gB p105 0 32) (bp106 : gB p106 0 1999) (bp109 : gB p109 0 1999) (bp110 : gB p110 0 1) (bp111 : gB p111 0 1) (x114 : p104.toInt < (n113 : Int)) (x115 : p102.toInt = p104.toInt) (x116 : rEl P97 F98 f112) (x117 : ((n113 : Int) ≤ 16777216)) : CtA (gV D I) l yJx4a65c_add_72be8 cJx4a65c_add_72be8 4 none 0 0 0 0 [.ref q99, .ref q100, .ref q101, .int p102] (va_pl P97 F98) (pp_118_ArrayList_add D I P97 F98 q99 q100 q101 p102 p103 p104 p105 p106 p107 p108 p109 p110 p111 f112 n113) gNA := by
  refine CtA_ofF hl0 (by decide +kernel) (Nat.le_of_ble_eq_true rfl) ?_
  have bp103 := gB_any p103
  have bp107 := gB_any p107
  have bp108 := gB_any p108
  refine G_iload_n 3 dr_cJx4a65c_add_72be8_0 rfl ?_
  refine G_aload_n 2 dr_cJx4a65c_add_72be8_1 rfl ?_
  refine Gp_alen (Int32.ofNat n113) 4 hmq101 heq101 dr_cJx4a65c_add_72be8_2 rfl rfl (G_nam fun z119 hz119 => ?_)
  have ez119 : z119.toInt = (n113 : Nat) := gI_ofM hz119 (by omega)
  have bz119 : gB z119 0 16777216 := ⟨by omega, by omega⟩
  refine G_icmp_ne 11 dr_cJx4a65c_add_72be8_3 (by decide +kernel) (fun hc120 => ?_) (fun hc => absurd (show False by have := gC_eq hc; omega) not_false)
  have r122 : p102.toInt ≠ z119.toInt := gC_ne hc120
  refine G_aload_n 2 dr_cJx4a65c_add_72be8_11 rfl ?_
  refine G_iload_n 3 dr_cJx4a65c_add_72be8_12 rfl ?_
  refine G_aload_n 1 dr_cJx4a65c_add_72be8_13 rfl ?_
  refine Gp_aast 4 hmq101 heq101 dr_cJx4a65c_add_72be8_14 rfl ⟨hmq100, _, _, _, _, _, heq100, rfl, gr_cast 3 rfl⟩ (gB_inr (by omega) (by omega)) (fun F123 e124 n125 => ?_)
  obtain ⟨f126, hf126⟩ : ∃ z, z = va_up f112 p102.toNatClampNeg (some q100) := ⟨_, rfl⟩
  rw [← hf126] at e124
  have he127 : F123 q99 = .inr (4, [.int p103, .ref q101, .int p104]) := (n125 q99 (rn_oa heq99 heq101)).trans heq99
  have he128 : F123 q100 = .inr (20, [.int p105, .int p106, .int p107, .int p108, .int p109, .int p110, .int p111]) := (n125 q100 (rn_oa heq100 heq101)).trans heq100
  have he129 : F123 q101 = .inl (I (.object "java/lang/Object"), n113, .inr (.inr (.inr (.inr f126)))) := e124
  have hfr130 : rFr [q101] P97 F98 F123 := rFr_put (rFr_rf (W := []) (P := P97) (F := F98)) n125
  refine G_aload_n 0 dr_cJx4a65c_add_72be8_15 rfl ?_
  refine G_iload_n 3 dr_cJx4a65c_add_72be8_16 rfl ?_
  refine G_iconst 1 dr_cJx4a65c_add_72be8_17 (by decide +kernel) ?_
  refine G_iadd dr_cJx4a65c_add_72be8_18 (G_nam fun z131 hz131 => ?_)
  have ez131 : z131.toInt = p102.toInt + 1 := by rw [gI_add hz131 bp102 (gBl (show Int32.toInt 1 = 1 by decide)) (by decide) (by decide), show Int32.toInt 1 = 1 from by decide]
  have bz131 : gB z131 1 16777217 := gB_add (gI_add hz131 bp102 (gBl (show Int32.toInt 1 = 1 by decide)) (by decide) (by decide)) bp102 (gBl (show Int32.toInt 1 = 1 by decide)) (by decide) (by decide)
  refine Gp_put 2 hmq99 he127 dr_cJx4a65c_add_72be8_19 (gk_Jx4a65c D I) (Nat.le_of_ble_eq_true rfl) wr_7_18 rfl rfl rfl (Nat.le_of_ble_eq_true rfl) (fun F132 e133 n134 => ?_)
  have he135 : F132 q100 = .inr (20, [.int p105, .int p106, .int p107, .int p108, .int p109, .int p110, .int p111]) := (n134 q100 (rn_oo he128 he127 (by decide))).trans he128
  have he136 : F132 q101 = .inl (I (.object "java/lang/Object"), n113, .inr (.inr (.inr (.inr f126)))) := (n134 q101 (rn_ao he129 he127)).trans he129
  have he137 : F132 q99 = .inr (4, [.int p103, .ref q101, .int z131]) := e133
  have hfr138 : rFr [q99, q101] P97 F98 F132 := rFr_put hfr130 n134
  exact G_vretA dr_cJx4a65c_add_72be8_22 rfl (Nat.le_of_ble_eq_true rfl) (Nat.le_of_ble_eq_true rfl) ⟨F132, z131, f126, rfl, rfl, hfr138, he137, he135, he136, (Nat.le_of_ble_eq_true rfl), (Nat.le_of_ble_eq_true rfl), bz131, (by omega), (rI_add (fun _ _ => rfl) hf126 (by omega) (by omega)), (rSrcX_up hf126 rSrc_rf)⟩
abbrev ky_88_ArrayList_add : gKey := (cJx4a65c_add_9ea2d, 2, "java/util/ArrayList", (some FieldType.boolean), [], "add", fun _ _ => True)
def pp_88_ArrayList_add (D : va_G) (I : FieldType → ClassId) (P69 : List Nat) (F70 : Nat → va_E) (q71 : Nat) (q72 : Nat) (q73 : Nat) (p74 : Int32) (p75 : Int32) (p76 : Int32) (p77 : Int32) (p78 : Int32) (p79 : Int32) (p80 : Int32) (p81 : Int32) (p82 : Int32) (f83 : Nat → Option Nat) (n84 : Nat) : Option Value → va_W → Nat → Nat → Prop := fun r w dc ds => ∃ (F164 : Nat → va_E) (o160 : Int32) (o161 : Int32) (f162 : Nat → Option Nat), r = some (.int 1) ∧ w = va_pl P69 F164 ∧ rFr [q71, q73] P69 F70 F164 ∧ F164 q71 = .inr (4, [.int o160, .ref q73, .int o161]) ∧ F164 q72 = .inr (20, [.int p76, .int p77, .int p78, .int p79, .int p80, .int p81, .int p82]) ∧ F164 q73 = .inl (I (.object "java/lang/Object"), n84, .inr (.inr (.inr (.inr f162)))) ∧ dc ≤ 0 ∧ ds ≤ 0 ∧ gB o161 1 16777217 ∧ o161.toInt = p75.toInt + 1 ∧ ((∀ j : Nat, (j : Int) < p75.toInt → f162 j = f83 j) ∧ f162 p75.toInt.toNat = some q72) ∧ rSrcX f162 f83 q72
set_option maxRecDepth 100000 in
set_option maxHeartbeats 4000000 in
theorem cp_88_ArrayList_add (l : Launch) (hl0 : l.stackTraces = false) (D : va_G) (I : FieldType → ClassId) (P69 : List Nat) (F70 : Nat → va_E) (q71 : Nat) (q72 : Nat) (q73 : Nat) (p74 : Int32) (p75 : Int32) (p76 : Int32) (p77 : Int32) (p78 : Int32) (p79 : Int32) (p80 : Int32) (p81 : Int32) (p82 : Int32) (f83 : Nat → Option Nat) (n84 : Nat) (hmq71 : q71 ∈ P69) (hmq72 : q72 ∈ P69) (hmq73 : q73 ∈ P69) (heq71 : F70 q71 = .inr (4, [.int p74, .ref q73, .int p75])) (heq72 : F70 q72 = .inr (20, [.int p76, .int p77, .int p78, .int p79, .int p80, .int p81, .int p82])) (heq73 : F70 q73 = .inl (I (.object "java/lang/Object"), n84, .inr (.inr (.inr (.inr f83))))) (bp75 : gB p75 0 16777216) (bp76 : gB p76 0 32) (bp77 : gB p77 0 1999) (bp80 : gB p80 0 1999) (bp81 : gB p81 0 1) (bp82 : gB p82 0 1) (x85 : p75.toInt < (n84 : Int)) (x86 : rEl P69 F70 f83) (x87 : ((n84 : Int) ≤ 16777216)) : CtA (gV D I) l yJx4a65c_add_9ea2d cJx4a65c_add_9ea2d 2 (some FieldType.boolean) 1 23 0 0 [.ref q71, .ref q72] (va_pl P69 F70) (pp_88_ArrayList_add D I P69 F70 q71 q72 q73 p74 p75 p76 p77 p78 p79 p80 p81 p82 f83 n84) gNA := by
  refine CtA_ofF hl0 (by decide +kernel) (Nat.le_of_ble_eq_true rfl) ?_
  have bp74 := gB_any p74
  have bp78 := gB_any p78
  have bp79 := gB_any p79
  refine G_aload_n 0 dr_cJx4a65c_add_9ea2d_0 rfl ?_
  refine G_dup dr_cJx4a65c_add_9ea2d_1 rfl ?_
  refine Gp_getS 0 hmq71 heq71 dr_cJx4a65c_add_9ea2d_2 (gk_Jx4a65c D I) (Nat.le_of_ble_eq_true rfl) wr_7_20 wr_7_21 rfl ?_
  refine G_iconst 1 dr_cJx4a65c_add_9ea2d_5 (by decide +kernel) ?_
  refine G_iadd dr_cJx4a65c_add_9ea2d_6 (G_nam fun z89 hz89 => ?_)
  have bz89 : gB z89 (-2147483648) 2147483647 := gB_any z89
  refine Gp_putS 0 hmq71 heq71 dr_cJx4a65c_add_9ea2d_7 (gk_Jx4a65c D I) (Nat.le_of_ble_eq_true rfl) wr_7_20 wr_7_21 rfl rfl rfl (Nat.le_of_ble_eq_true rfl) (fun F90 e91 n92 => ?_)
  have he93 : F90 q72 = .inr (20, [.int p76, .int p77, .int p78, .int p79, .int p80, .int p81, .int p82]) := (n92 q72 (rn_oo heq72 heq71 (by decide))).trans heq72
  have he94 : F90 q73 = .inl (I (.object "java/lang/Object"), n84, .inr (.inr (.inr (.inr f83)))) := (n92 q73 (rn_ao heq73 heq71)).trans heq73
  have he95 : F90 q71 = .inr (4, [.int z89, .ref q73, .int p75]) := e91
  have hfr96 : rFr [q71] P69 F70 F90 := rFr_put (rFr_rf (W := []) (P := P69) (F := F70)) n92
  refine G_aload_n 0 dr_cJx4a65c_add_9ea2d_10 rfl ?_
  refine G_aload_n 1 dr_cJx4a65c_add_9ea2d_11 rfl ?_
  refine G_aload_n 0 dr_cJx4a65c_add_9ea2d_12 rfl ?_
  refine Gp_get 1 hmq71 he95 dr_cJx4a65c_add_9ea2d_13 (gk_Jx4a65c D I) (Nat.le_of_ble_eq_true rfl) wr_7_17 rfl ?_
  refine G_aload_n 0 dr_cJx4a65c_add_9ea2d_16 rfl ?_
  refine Gp_get 2 hmq71 he95 dr_cJx4a65c_add_9ea2d_17 (gk_Jx4a65c D I) (Nat.le_of_ble_eq_true rfl) wr_7_18 rfl ?_
  refine Gw_callV (As := [.ref q72, .ref q73, .int p75]) (gV_ok D I) (cp_118_ArrayList_add l hl0 D I P69 F90 q71 q72 q73 p75 z89 p75 p76 p77 p78 p79 p80 p81 p82 f83 n84 hmq71 hmq72 hmq73 he95 he93 he94 bp75 bp75 bp76 bp77 bp80 bp81 bp82 (by omega) (by omega) (rEl_frG (rEl_src x86 rSrc_rf) (rSub_rf (P := P69)) hfr96 (rNg_c (rNg_o heq71 (by decide) (by decide)) rNg_n)) (by omega)) dr_cJx4a65c_add_9ea2d_20 ⟨wr_10_7, wr_1_18, wr_10_10, by decide, rfl, (Nat.le_of_ble_eq_true rfl), (Nat.le_of_ble_eq_true rfl)⟩ wr_10_9 wr_p_85 hmq71 he95 rfl (show 0 + 0 ≤ 0 by first | omega | decide) (show 0 + 0 ≤ 0 by first | omega | decide) (Nat.le_of_ble_eq_true rfl) (fun r146 w147 dc143 ds144 hp145 => ?_) (fun _ _ _ _ _ z => z.elim)
  obtain ⟨F153, o148, f149, rfl, rfl, hfr155, he156, he157, he158, hdc, hds, bo148, x150, x151, x152⟩ := hp145
  have hfr159 : rFr [q71, q73] P69 F70 F153 := rFr_call (rSub_rf (P := P69)) hfr96 hfr155 (fun b hb hn => ⟨(nm_c (fun e => hn (e ▸ List.mem_cons_self)) nm_n), (nm_c (fun e => hn (e ▸ List.mem_cons_self)) (nm_c (fun e => hn (e ▸ (List.mem_cons_of_mem _ List.mem_cons_self))) nm_n))⟩)
  change G _ _ _ _ _ _ _ _ _ _ _
  refine G_widen (cs' := 0) (sl' := 0) (by omega) (by omega) ?_
  refine G_iconst 1 dr_cJx4a65c_add_9ea2d_23 (by decide +kernel) ?_
  exact G_zretA FieldType.boolean dr_cJx4a65c_add_9ea2d_24 rfl rfl (Nat.le_of_ble_eq_true rfl) (Nat.le_of_ble_eq_true rfl) ⟨F153, z89, o148, f149, rfl, rfl, hfr159, he156, he157, he158, (Nat.le_of_ble_eq_true rfl), (Nat.le_of_ble_eq_true rfl), bo148, (by omega), (by assumption), (by assumption)⟩
abbrev ky_208_ArrayList_add : gKey := (cJx4a65c_add_72be8, 4, "java/util/ArrayList", none, [], "add", fun _ _ => True)
def pp_208_ArrayList_add (D : va_G) (I : FieldType → ClassId) (P190 : List Nat) (F191 : Nat → va_E) (q192 : Nat) (q193 : Nat) (q194 : Nat) (p195 : Int32) (p196 : Int32) (p197 : Int32) (qo198 : Nat) (qo199 : Nat) (p200 : Int32) (p201 : Int32) (f202 : Nat → Option Nat) (n203 : Nat) : Option Value → va_W → Nat → Nat → Prop := fun r w dc ds => ∃ (F232 : Nat → va_E) (o229 : Int32) (f230 : Nat → Option Nat), r = none ∧ w = va_pl P190 F232 ∧ rFr [q192, q194] P190 F191 F232 ∧ F232 q192 = .inr (4, [.int p196, .ref q194, .int o229]) ∧ F232 q193 = .inr (17, [.ref qo198, .ref qo199, .int p200, .int p201]) ∧ F232 q194 = .inl (I (.object "java/lang/Object"), n203, .inr (.inr (.inr (.inr f230)))) ∧ dc ≤ 0 ∧ ds ≤ 0 ∧ gB o229 1 16777217 ∧ o229.toInt = p197.toInt + 1 ∧ ((∀ j : Nat, (j : Int) < p197.toInt → f230 j = f202 j) ∧ f230 p195.toInt.toNat = some q193) ∧ rSrcX f230 f202 q193
set_option maxRecDepth 100000 in
set_option maxHeartbeats 4000000 in
theorem cp_208_ArrayList_add (l : Launch) (hl0 : l.stackTraces = false) (D : va_G) (I : FieldType → ClassId) (P190 : List Nat) (F191 : Nat → va_E) (q192 : Nat) (q193 : Nat) (q194 : Nat) (p195 : Int32) (p196 : Int32) (p197 : Int32) (qo198 : Nat) (qo199 : Nat) (p200 : Int32) (p201 : Int32) (f202 : Nat → Option Nat) (n203 : Nat) (hmq192 : q192 ∈ P190) (hmq193 : q193 ∈ P190) (hmq194 : q194 ∈ P190) (heq192 : F191 q192 = .inr (4, [.int p196, .ref q194, .int p197])) (heq193 : F191 q193 = .inr (17, [.ref qo198, .ref qo199, .int p200, .int p201])) (heq194 : F191 q194 = .inl (I (.object "java/lang/Object"), n203, .inr (.inr (.inr (.inr f202))))) (bp195 : gB p195 0 16777216) (bp197 : gB p197 0 16777216) (bp200 : gB p200 0 39) (bp201 : gB p201 0 39) (x204 : p197.toInt < (n203 : Int)) (x205 : p195.toInt = p197.toInt) (x206 : rEl P190 F191 f202) (x207 : ((n203 : Int) ≤ 16777216)) : CtA (gV D I) l yJx4a65c_add_72be8 cJx4a65c_add_72be8 4 none 0 0 0 0 [.ref q192, .ref q193, .ref q194, .int p195] (va_pl P190 F191) (pp_208_ArrayList_add D I P190 F191 q192 q193 q194 p195 p196 p197 qo198 qo199 p200 p201 f202 n203) gNA := by
  refine CtA_ofF hl0 (by decide +kernel) (Nat.le_of_ble_eq_true rfl) ?_
  have bp196 := gB_any p196
  refine G_iload_n 3 dr_cJx4a65c_add_72be8_0 rfl ?_
  refine G_aload_n 2 dr_cJx4a65c_add_72be8_1 rfl ?_
  refine Gp_alen (Int32.ofNat n203) 4 hmq194 heq194 dr_cJx4a65c_add_72be8_2 rfl rfl (G_nam fun z209 hz209 => ?_)
  have ez209 : z209.toInt = (n203 : Nat) := gI_ofM hz209 (by omega)
  have bz209 : gB z209 0 16777216 := ⟨by omega, by omega⟩
  refine G_icmp_ne 11 dr_cJx4a65c_add_72be8_3 (by decide +kernel) (fun hc210 => ?_) (fun hc => absurd (show False by have := gC_eq hc; omega) not_false)
  have r212 : p195.toInt ≠ z209.toInt := gC_ne hc210
  refine G_aload_n 2 dr_cJx4a65c_add_72be8_11 rfl ?_
  refine G_iload_n 3 dr_cJx4a65c_add_72be8_12 rfl ?_
  refine G_aload_n 1 dr_cJx4a65c_add_72be8_13 rfl ?_
  refine Gp_aast 4 hmq194 heq194 dr_cJx4a65c_add_72be8_14 rfl ⟨hmq193, _, _, _, _, _, heq193, rfl, gr_cast 2 rfl⟩ (gB_inr (by omega) (by omega)) (fun F213 e214 n215 => ?_)
  obtain ⟨f216, hf216⟩ : ∃ z, z = va_up f202 p195.toNatClampNeg (some q193) := ⟨_, rfl⟩
  rw [← hf216] at e214
  have he217 : F213 q192 = .inr (4, [.int p196, .ref q194, .int p197]) := (n215 q192 (rn_oa heq192 heq194)).trans heq192
  have he218 : F213 q193 = .inr (17, [.ref qo198, .ref qo199, .int p200, .int p201]) := (n215 q193 (rn_oa heq193 heq194)).trans heq193
  have he219 : F213 q194 = .inl (I (.object "java/lang/Object"), n203, .inr (.inr (.inr (.inr f216)))) := e214
  have hfr220 : rFr [q194] P190 F191 F213 := rFr_put (rFr_rf (W := []) (P := P190) (F := F191)) n215
  refine G_aload_n 0 dr_cJx4a65c_add_72be8_15 rfl ?_
  refine G_iload_n 3 dr_cJx4a65c_add_72be8_16 rfl ?_
  refine G_iconst 1 dr_cJx4a65c_add_72be8_17 (by decide +kernel) ?_
  refine G_iadd dr_cJx4a65c_add_72be8_18 (G_nam fun z221 hz221 => ?_)
  have ez221 : z221.toInt = p195.toInt + 1 := by rw [gI_add hz221 bp195 (gBl (show Int32.toInt 1 = 1 by decide)) (by decide) (by decide), show Int32.toInt 1 = 1 from by decide]
  have bz221 : gB z221 1 16777217 := gB_add (gI_add hz221 bp195 (gBl (show Int32.toInt 1 = 1 by decide)) (by decide) (by decide)) bp195 (gBl (show Int32.toInt 1 = 1 by decide)) (by decide) (by decide)
  refine Gp_put 2 hmq192 he217 dr_cJx4a65c_add_72be8_19 (gk_Jx4a65c D I) (Nat.le_of_ble_eq_true rfl) wr_7_18 rfl rfl rfl (Nat.le_of_ble_eq_true rfl) (fun F222 e223 n224 => ?_)
  have he225 : F222 q193 = .inr (17, [.ref qo198, .ref qo199, .int p200, .int p201]) := (n224 q193 (rn_oo he218 he217 (by decide))).trans he218
  have he226 : F222 q194 = .inl (I (.object "java/lang/Object"), n203, .inr (.inr (.inr (.inr f216)))) := (n224 q194 (rn_ao he219 he217)).trans he219
  have he227 : F222 q192 = .inr (4, [.int p196, .ref q194, .int z221]) := e223
  have hfr228 : rFr [q192, q194] P190 F191 F222 := rFr_put hfr220 n224
  exact G_vretA dr_cJx4a65c_add_72be8_22 rfl (Nat.le_of_ble_eq_true rfl) (Nat.le_of_ble_eq_true rfl) ⟨F222, z221, f216, rfl, rfl, hfr228, he227, he225, he226, (Nat.le_of_ble_eq_true rfl), (Nat.le_of_ble_eq_true rfl), bz221, (by omega), (rI_add (fun _ _ => rfl) hf216 (by omega) (by omega)), (rSrcX_up hf216 rSrc_rf)⟩
abbrev ky_181_ArrayList_add : gKey := (cJx4a65c_add_9ea2d, 2, "java/util/ArrayList", (some FieldType.boolean), [], "add", fun _ _ => True)
def pp_181_ArrayList_add (D : va_G) (I : FieldType → ClassId) (P165 : List Nat) (F166 : Nat → va_E) (q167 : Nat) (q168 : Nat) (q169 : Nat) (p170 : Int32) (p171 : Int32) (qo172 : Nat) (qo173 : Nat) (p174 : Int32) (p175 : Int32) (f176 : Nat → Option Nat) (n177 : Nat) : Option Value → va_W → Nat → Nat → Prop := fun r w dc ds => ∃ (F254 : Nat → va_E) (o250 : Int32) (o251 : Int32) (f252 : Nat → Option Nat), r = some (.int 1) ∧ w = va_pl P165 F254 ∧ rFr [q167, q169] P165 F166 F254 ∧ F254 q167 = .inr (4, [.int o250, .ref q169, .int o251]) ∧ F254 q168 = .inr (17, [.ref qo172, .ref qo173, .int p174, .int p175]) ∧ F254 q169 = .inl (I (.object "java/lang/Object"), n177, .inr (.inr (.inr (.inr f252)))) ∧ dc ≤ 0 ∧ ds ≤ 0 ∧ gB o251 1 16777217 ∧ o251.toInt = p171.toInt + 1 ∧ ((∀ j : Nat, (j : Int) < p171.toInt → f252 j = f176 j) ∧ f252 p171.toInt.toNat = some q168) ∧ rSrcX f252 f176 q168
set_option maxRecDepth 100000 in
set_option maxHeartbeats 4000000 in
theorem cp_181_ArrayList_add (l : Launch) (hl0 : l.stackTraces = false) (D : va_G) (I : FieldType → ClassId) (P165 : List Nat) (F166 : Nat → va_E) (q167 : Nat) (q168 : Nat) (q169 : Nat) (p170 : Int32) (p171 : Int32) (qo172 : Nat) (qo173 : Nat) (p174 : Int32) (p175 : Int32) (f176 : Nat → Option Nat) (n177 : Nat) (hmq167 : q167 ∈ P165) (hmq168 : q168 ∈ P165) (hmq169 : q169 ∈ P165) (heq167 : F166 q167 = .inr (4, [.int p170, .ref q169, .int p171])) (heq168 : F166 q168 = .inr (17, [.ref qo172, .ref qo173, .int p174, .int p175])) (heq169 : F166 q169 = .inl (I (.object "java/lang/Object"), n177, .inr (.inr (.inr (.inr f176))))) (bp171 : gB p171 0 16777216) (bp174 : gB p174 0 39) (bp175 : gB p175 0 39) (x178 : p171.toInt < (n177 : Int)) (x179 : rEl P165 F166 f176) (x180 : ((n177 : Int) ≤ 16777216)) : CtA (gV D I) l yJx4a65c_add_9ea2d cJx4a65c_add_9ea2d 2 (some FieldType.boolean) 1 23 0 0 [.ref q167, .ref q168] (va_pl P165 F166) (pp_181_ArrayList_add D I P165 F166 q167 q168 q169 p170 p171 qo172 qo173 p174 p175 f176 n177) gNA := by
  refine CtA_ofF hl0 (by decide +kernel) (Nat.le_of_ble_eq_true rfl) ?_
  have bp170 := gB_any p170
  refine G_aload_n 0 dr_cJx4a65c_add_9ea2d_0 rfl ?_
  refine G_dup dr_cJx4a65c_add_9ea2d_1 rfl ?_
  refine Gp_getS 0 hmq167 heq167 dr_cJx4a65c_add_9ea2d_2 (gk_Jx4a65c D I) (Nat.le_of_ble_eq_true rfl) wr_7_20 wr_7_21 rfl ?_
  refine G_iconst 1 dr_cJx4a65c_add_9ea2d_5 (by decide +kernel) ?_
  refine G_iadd dr_cJx4a65c_add_9ea2d_6 (G_nam fun z182 hz182 => ?_)
  have bz182 : gB z182 (-2147483648) 2147483647 := gB_any z182
  refine Gp_putS 0 hmq167 heq167 dr_cJx4a65c_add_9ea2d_7 (gk_Jx4a65c D I) (Nat.le_of_ble_eq_true rfl) wr_7_20 wr_7_21 rfl rfl rfl (Nat.le_of_ble_eq_true rfl) (fun F183 e184 n185 => ?_)
  have he186 : F183 q168 = .inr (17, [.ref qo172, .ref qo173, .int p174, .int p175]) := (n185 q168 (rn_oo heq168 heq167 (by decide))).trans heq168
  have he187 : F183 q169 = .inl (I (.object "java/lang/Object"), n177, .inr (.inr (.inr (.inr f176)))) := (n185 q169 (rn_ao heq169 heq167)).trans heq169
  have he188 : F183 q167 = .inr (4, [.int z182, .ref q169, .int p171]) := e184
  have hfr189 : rFr [q167] P165 F166 F183 := rFr_put (rFr_rf (W := []) (P := P165) (F := F166)) n185
  refine G_aload_n 0 dr_cJx4a65c_add_9ea2d_10 rfl ?_
  refine G_aload_n 1 dr_cJx4a65c_add_9ea2d_11 rfl ?_
  refine G_aload_n 0 dr_cJx4a65c_add_9ea2d_12 rfl ?_
  refine Gp_get 1 hmq167 he188 dr_cJx4a65c_add_9ea2d_13 (gk_Jx4a65c D I) (Nat.le_of_ble_eq_true rfl) wr_7_17 rfl ?_
  refine G_aload_n 0 dr_cJx4a65c_add_9ea2d_16 rfl ?_
  refine Gp_get 2 hmq167 he188 dr_cJx4a65c_add_9ea2d_17 (gk_Jx4a65c D I) (Nat.le_of_ble_eq_true rfl) wr_7_18 rfl ?_
  refine Gw_callV (As := [.ref q168, .ref q169, .int p171]) (gV_ok D I) (cp_208_ArrayList_add l hl0 D I P165 F183 q167 q168 q169 p171 z182 p171 qo172 qo173 p174 p175 f176 n177 hmq167 hmq168 hmq169 he188 he186 he187 bp171 bp171 bp174 bp175 (by omega) (by omega) (rEl_frG (rEl_src x179 rSrc_rf) (rSub_rf (P := P165)) hfr189 (rNg_c (rNg_o heq167 (by decide) (by decide)) rNg_n)) (by omega)) dr_cJx4a65c_add_9ea2d_20 ⟨wr_10_7, wr_1_18, wr_10_10, by decide, rfl, (Nat.le_of_ble_eq_true rfl), (Nat.le_of_ble_eq_true rfl)⟩ wr_10_9 wr_p_85 hmq167 he188 rfl (show 0 + 0 ≤ 0 by first | omega | decide) (show 0 + 0 ≤ 0 by first | omega | decide) (Nat.le_of_ble_eq_true rfl) (fun r236 w237 dc233 ds234 hp235 => ?_) (fun _ _ _ _ _ z => z.elim)
  obtain ⟨F243, o238, f239, rfl, rfl, hfr245, he246, he247, he248, hdc, hds, bo238, x240, x241, x242⟩ := hp235
  have hfr249 : rFr [q167, q169] P165 F166 F243 := rFr_call (rSub_rf (P := P165)) hfr189 hfr245 (fun b hb hn => ⟨(nm_c (fun e => hn (e ▸ List.mem_cons_self)) nm_n), (nm_c (fun e => hn (e ▸ List.mem_cons_self)) (nm_c (fun e => hn (e ▸ (List.mem_cons_of_mem _ List.mem_cons_self))) nm_n))⟩)
  change G _ _ _ _ _ _ _ _ _ _ _
  refine G_widen (cs' := 0) (sl' := 0) (by omega) (by omega) ?_
  refine G_iconst 1 dr_cJx4a65c_add_9ea2d_23 (by decide +kernel) ?_
  exact G_zretA FieldType.boolean dr_cJx4a65c_add_9ea2d_24 rfl rfl (Nat.le_of_ble_eq_true rfl) (Nat.le_of_ble_eq_true rfl) ⟨F243, z182, o238, f239, rfl, rfl, hfr249, he246, he247, he248, (Nat.le_of_ble_eq_true rfl), (Nat.le_of_ble_eq_true rfl), bo238, (by omega), (by assumption), (by assumption)⟩
/- tr_RArraysSupport_newLength: result -/
def tr_RArraysSupport_newLength (a0 : Int32) (a1 : Int32) (a2 : Int32) (o1 : Int32) : Prop := ∀ R : (Int32) → Prop,
  (∀ (x1 : Int32) (x2 : Int32), (a1.toInt ≤ x1.toInt ∧ a2.toInt ≤ x1.toInt ∧ (x1.toInt = a1.toInt ∨ x1.toInt = a2.toInt)) → x2.toInt = a0.toInt + x1.toInt → R x2) →
  R o1
abbrev ky_355_ArraysSupport_newLength : gKey := (cJ8_newLength_cabcc, 4, "jdk/internal/util/ArraysSupport", (some FieldType.int), [], "newLength", fun _ _ => True)
def pp_355_ArraysSupport_newLength (D : va_G) (I : FieldType → ClassId) (P350 : List Nat) (F351 : Nat → va_E) (p352 : Int32) (p353 : Int32) (p354 : Int32) : Option Value → va_W → Nat → Nat → Prop := fun r w dc ds => ∃ (o358 : Int32), r = some (.int o358) ∧ w = va_pl P350 F351 ∧ dc ≤ 0 ∧ ds ≤ 0 ∧ gB o358 1 33554432 ∧ (p352.toInt + p353.toInt ≤ o358.toInt ∧ p352.toInt + p354.toInt ≤ o358.toInt ∧ (o358.toInt = p352.toInt + p353.toInt ∨ o358.toInt = p352.toInt + p354.toInt)) ∧ tr_RArraysSupport_newLength p352 p353 p354 o358
set_option maxRecDepth 100000 in
set_option maxHeartbeats 4000000 in
theorem cp_355_ArraysSupport_newLength (l : Launch) (hl0 : l.stackTraces = false) (D : va_G) (I : FieldType → ClassId) (P350 : List Nat) (F351 : Nat → va_E) (p352 : Int32) (p353 : Int32) (p354 : Int32) (bp352 : gB p352 0 16777216) (bp353 : gB p353 1 16777216) (bp354 : gB p354 0 16777216) : CtA (gV D I) l yJ8_newLength_cabcc cJ8_newLength_cabcc 4 (some FieldType.int) 1 14 0 0 [.int p352, .int p353, .int p354] (va_pl P350 F351) (pp_355_ArraysSupport_newLength D I P350 F351 p352 p353 p354) gNA := by
  refine CtA_ofF hl0 (by decide +kernel) (Nat.le_of_ble_eq_true rfl) ?_
  refine G_iload_n 0 dr_cJ8_newLength_cabcc_0 rfl ?_
  refine G_iload_n 1 dr_cJ8_newLength_cabcc_1 rfl ?_
  refine G_iload_n 2 dr_cJ8_newLength_cabcc_2 rfl ?_
  refine G_mmax dr_cJ8_newLength_cabcc_3 wr_8_15 wr_1_140 wr_1_6 wr_1_141 (Nat.le_of_ble_eq_true rfl) (Nat.le_of_ble_eq_true rfl) (show 0 ≤ 0 by first | omega | decide) (show 0 ≤ 0 by first | omega | decide) (G_nam fun z356 hz356 => ?_)
  have ez356 : p353.toInt ≤ z356.toInt ∧ p354.toInt ≤ z356.toInt ∧ (z356.toInt = p353.toInt ∨ z356.toInt = p354.toInt) := by have := gI_max hz356; omega
  have bz356 : gB z356 1 16777216 := ⟨by omega, by omega⟩
  refine G_iadd dr_cJ8_newLength_cabcc_6 (G_nam fun z357 hz357 => ?_)
  have ez357 : z357.toInt = p352.toInt + z356.toInt := by rw [gI_add hz357 bp352 bz356 (by decide) (by decide)]
  have bz357 : gB z357 1 33554432 := gB_add (gI_add hz357 bp352 bz356 (by decide) (by decide)) bp352 bz356 (by decide) (by decide)
  refine G_istore_n (L' := [(3, .int z357), (0, .int p352), (1, .int p353), (2, .int p354)]) dr_cJ8_newLength_cabcc_7 (Nat.le_of_ble_eq_true rfl) rfl ?_
  refine G_iconst 0 dr_cJ8_newLength_cabcc_8 (by decide +kernel) ?_
  refine G_iload_n 0 dr_cJ8_newLength_cabcc_9 rfl ?_
  refine G_icmp_ge 21 dr_cJ8_newLength_cabcc_10 (by decide +kernel) (fun hc => absurd (show False by have := gj_le hc (show Int32.toInt 0 = 0 by decide); omega) not_false) (fun _ => ?_)
  refine G_iload_n 0 dr_cJ8_newLength_cabcc_13 rfl ?_
  refine G_ldc 2147483639 dr_cJ8_newLength_cabcc_14 wr_8_16 ?_
  refine G_icmp_gt 21 dr_cJ8_newLength_cabcc_16 (by decide +kernel) (fun hc => absurd (show False by have := gj_ltL hc (show Int32.toInt 2147483639 = 2147483639 by decide); omega) not_false) (fun _ => ?_)
  refine G_iload_n 0 dr_cJ8_newLength_cabcc_19 rfl ?_
  exact G_iretA dr_cJ8_newLength_cabcc_20 rfl (Nat.le_of_ble_eq_true rfl) (Nat.le_of_ble_eq_true rfl) ⟨z357, rfl, rfl, (Nat.le_of_ble_eq_true rfl), (Nat.le_of_ble_eq_true rfl), bz357, (by omega), (fun R c1 => c1 z356 z357 ez356 ez357)⟩
/- tr_RArrays_copyOf2:  -/
def tr_RArrays_copyOf2 : Prop := ∀ R : Prop,
  (R) →
  R
abbrev ky_386_Arrays_copyOf : gKey := (cJ7_copyOf_6403c, 4, "java/util/Arrays", (some (FieldType.array (FieldType.object "java/lang/Object"))), [], "copyOf", fun _ _ => True)
def pp_386_Arrays_copyOf (D : va_G) (I : FieldType → ClassId) (P377 : List Nat) (F378 : Nat → va_E) (q379 : Nat) (p380 : Int32) (f381 : Nat → Option Nat) (n382 : Nat) : Option Value → va_W → Nat → Nat → Prop := fun r w dc ds => ∃ (P412 : List Nat) (F413 : Nat → va_E) (q410 : Nat) (f411 : Nat → Option Nat), r = some (.ref q410) ∧ w = va_pl P412 F413 ∧ rSub P377 P412 ∧ rFr [] P377 F378 F413 ∧ F413 q379 = .inl (I (.object "java/lang/Object"), n382, .inr (.inr (.inr (.inr f381)))) ∧ F413 q410 = .inl (I (.object "java/lang/Object"), p380.toInt.toNat, .inr (.inr (.inr (.inr f411)))) ∧ q410 ∈ P412 ∧ q410 ∉ P377 ∧ dc ≤ 1 ∧ ds ≤ p380.toInt.toNat ∧ (∀ j : Nat, (j : Int) < (n382 : Int) → f411 j = f381 j) ∧ rSrc f411 f381 ∧ tr_RArrays_copyOf2
set_option maxRecDepth 100000 in
set_option maxHeartbeats 4000000 in
theorem cp_386_Arrays_copyOf (l : Launch) (hl0 : l.stackTraces = false) (D : va_G) (I : FieldType → ClassId) (P377 : List Nat) (F378 : Nat → va_E) (q379 : Nat) (p380 : Int32) (f381 : Nat → Option Nat) (n382 : Nat) (hmq379 : q379 ∈ P377) (heq379 : F378 q379 = .inl (I (.object "java/lang/Object"), n382, .inr (.inr (.inr (.inr f381))))) (bp380 : gB p380 0 16777216) (x383 : (n382 : Int) ≤ p380.toInt) (x384 : rEl P377 F378 f381) (x385 : ((n382 : Int) ≤ 16777216)) : CtA (gV D I) l yJ7_copyOf_6403c cJ7_copyOf_6403c 4 (some (FieldType.array (FieldType.object "java/lang/Object"))) 1 18 1 p380.toInt.toNat [.ref q379, .int p380, .ref (D.2 1002 0)] (va_pl P377 F378) (pp_386_Arrays_copyOf D I P377 F378 q379 p380 f381 n382) gNA := by
  refine CtA_ofF hl0 (by decide +kernel) (Nat.le_of_ble_eq_true rfl) ?_
  refine G_aload_n 2 dr_cJ7_copyOf_6403c_0 rfl ?_
  refine G_ldcM dr_cJ7_copyOf_6403c_1 wr_10_57 (fun A s H h => (gr_mi A s H h).1) ?_
  refine G_acmp_ne 13 dr_cJ7_copyOf_6403c_3 (by decide +kernel) (fun hc => absurd rfl hc) (fun _ => ?_)
  refine G_iload_n 1 dr_cJ7_copyOf_6403c_6 rfl ?_
  refine Gp_newq (M := p380.toInt.toNat) 4 dr_cJ7_copyOf_6403c_7 wr_10_59 gr_ao rfl (g_n0 (by omega)) rfl (show p380.toInt.toNat * 4 ≤ 536870912 by omega) (show 0 + 1 ≤ 1 by first | omega | decide) (show 0 + p380.toInt.toNat ≤ p380.toInt.toNat by first | omega | decide) (fun q387 P388 F389 hq390 hP391 e392 n393 => ?_)
  refine G_widen (cs' := 1) (sl' := p380.toInt.toNat) (by omega) (by omega) ?_
  have he394 : F389 q379 = .inl (I (.object "java/lang/Object"), n382, .inr (.inr (.inr (.inr f381)))) := (n393 q379 (fun h => hq390 (h ▸ hmq379))).trans heq379
  have he395 : F389 q387 = .inl (I (.object "java/lang/Object"), p380.toInt.toNat, .inr (.inr (.inr (.inr (fun _ => none))))) := e392
  have hm396 : q379 ∈ P388 := (hP391 q379).mpr (Or.inl hmq379)
  have hm397 : q387 ∈ P388 := (hP391 q387).mpr (Or.inr rfl)
  have hq398 : q387 ∉ P377 := fun z => hq390 ((rSub_rf (P := P377)) q387 z)
  have hfr399 : rFr [] P377 F378 F389 := rFr_new (rSub_rf (P := P377)) hq390 (rFr_rf (W := []) (P := P377) (F := F378)) n393
  have hsb400 : rSub P377 P388 := rSub_new (rSub_rf (P := P377)) hP391
  refine G_goto 24 dr_cJ7_copyOf_6403c_10 (by decide +kernel) ?_
  refine G_astore_n (L' := [(3, .ref q387), (0, .ref q379), (1, .int p380), (2, .ref (D.2 1002 0))]) dr_cJ7_copyOf_6403c_24 (Nat.le_of_ble_eq_true rfl) rfl ?_
  refine G_aload_n 1 dr_cJ7_copyOf_6403c_25 rfl ?_
  refine G_iconst 0 dr_cJ7_copyOf_6403c_26 (by decide +kernel) ?_
  refine G_aload_n 0 dr_cJ7_copyOf_6403c_27 rfl ?_
  refine G_iconst 0 dr_cJ7_copyOf_6403c_28 (by decide +kernel) ?_
  refine G_aload_n 1 dr_cJ7_copyOf_6403c_29 rfl ?_
  refine Gp_alen (Int32.ofNat n382) 4 hm396 he394 dr_cJ7_copyOf_6403c_30 rfl rfl (G_nam fun z401 hz401 => ?_)
  have ez401 : z401.toInt = (n382 : Nat) := gI_ofM hz401 (by omega)
  have bz401 : gB z401 0 16777216 := ⟨by omega, by omega⟩
  refine G_iload_n 2 dr_cJ7_copyOf_6403c_31 rfl ?_
  refine G_mmin dr_cJ7_copyOf_6403c_32 wr_8_31 wr_3_227 wr_1_6 wr_3_228 (Nat.le_of_ble_eq_true rfl) (Nat.le_of_ble_eq_true rfl) (show 1 ≤ 1 by first | omega | decide) (show p380.toInt.toNat ≤ p380.toInt.toNat by first | omega | decide) (G_nam fun z402 hz402 => ?_)
  have ez402 : z401.toInt ≥ z402.toInt ∧ p380.toInt ≥ z402.toInt ∧ (z402.toInt = z401.toInt ∨ z402.toInt = p380.toInt) := by have := gI_min hz402; omega
  have bz402 : gB z402 0 16777216 := ⟨by omega, by omega⟩
  refine Gp_copyq 4 hm396 hm397 he394 he395 dr_cJ7_copyOf_6403c_35 wr_8_32 wr_5_113 wr_5_112 wr_1_34 rfl (by decide) (by decide) (by omega) (by have qa0 : Int32.toInt 0 = 0 := (by decide); omega) (by have qa0 : Int32.toInt 0 = 0 := (by decide); omega) (fun j _ w hw => rEl_ob (rEl_frG (rEl_src x384 rSrc_rf) hsb400 hfr399 rNg_n) hw) (Nat.le_of_ble_eq_true rfl) (Nat.le_of_ble_eq_true rfl) (fun F403 e404 n405 => ?_)
  obtain ⟨f406, hf406⟩ : ∃ z, z = va_cpy f381 (fun _ => none) (0 : Int32).toNatClampNeg (0 : Int32).toNatClampNeg z402.toNatClampNeg := ⟨_, rfl⟩
  rw [← hf406] at e404
  have he407 : F403 q379 = .inl (I (.object "java/lang/Object"), n382, .inr (.inr (.inr (.inr f381)))) := (n405 q379 (fun h => hq398 (h ▸ hmq379))).trans he394
  have he408 : F403 q387 = .inl (I (.object "java/lang/Object"), p380.toInt.toNat, .inr (.inr (.inr (.inr f406)))) := e404
  have hfr409 : rFr [] P377 F378 F403 := rFr_newp hq398 hfr399 n405
  refine G_aload_n 0 dr_cJ7_copyOf_6403c_38 rfl ?_
  exact G_aretA (FieldType.array (FieldType.object "java/lang/Object")) dr_cJ7_copyOf_6403c_39 rfl (by first | exact Or.inl ⟨_, rfl⟩ | exact Or.inr ⟨_, rfl⟩) (Or.inr ⟨_, rfl⟩) (Nat.le_of_ble_eq_true rfl) (show p380.toInt.toNat ≤ p380.toInt.toNat by omega) ⟨P388, F403, q387, f406, rfl, rfl, hsb400, hfr409, he407, he408, hm397, hq398, (Nat.le_of_ble_eq_true rfl), (by omega), (rC_cpy0 hf406 (by omega)), (rSrc_cpy hf406 rSrc_rf rSrc_none), (fun R c1 => c1)⟩
/- tr_RArrays_copyOf:  -/
def tr_RArrays_copyOf : Prop := ∀ R : Prop,
  (tr_RArrays_copyOf2 → R) →
  R
abbrev ky_376_Arrays_copyOf : gKey := (cJ7_copyOf_1904c, 2, "java/util/Arrays", (some (FieldType.array (FieldType.object "java/lang/Object"))), [], "copyOf", fun _ _ => True)
def pp_376_Arrays_copyOf (D : va_G) (I : FieldType → ClassId) (P367 : List Nat) (F368 : Nat → va_E) (q369 : Nat) (p370 : Int32) (f371 : Nat → Option Nat) (n372 : Nat) : Option Value → va_W → Nat → Nat → Prop := fun r w dc ds => ∃ (P438 : List Nat) (F439 : Nat → va_E) (q436 : Nat) (f437 : Nat → Option Nat), r = some (.ref q436) ∧ w = va_pl P438 F439 ∧ rSub P367 P438 ∧ rFr [] P367 F368 F439 ∧ F439 q369 = .inl (I (.object "java/lang/Object"), n372, .inr (.inr (.inr (.inr f371)))) ∧ F439 q436 = .inl (I (.object "java/lang/Object"), p370.toInt.toNat, .inr (.inr (.inr (.inr f437)))) ∧ q436 ∈ P438 ∧ q436 ∉ P367 ∧ dc ≤ 1 ∧ ds ≤ p370.toInt.toNat ∧ (∀ j : Nat, (j : Int) < (n372 : Int) → f437 j = f371 j) ∧ rSrc f437 f371 ∧ tr_RArrays_copyOf
set_option maxRecDepth 100000 in
set_option maxHeartbeats 4000000 in
theorem cp_376_Arrays_copyOf (l : Launch) (hl0 : l.stackTraces = false) (D : va_G) (I : FieldType → ClassId) (P367 : List Nat) (F368 : Nat → va_E) (q369 : Nat) (p370 : Int32) (f371 : Nat → Option Nat) (n372 : Nat) (hmq369 : q369 ∈ P367) (heq369 : F368 q369 = .inl (I (.object "java/lang/Object"), n372, .inr (.inr (.inr (.inr f371))))) (bp370 : gB p370 0 16777216) (x373 : (n372 : Int) ≤ p370.toInt) (x374 : rEl P367 F368 f371) (x375 : ((n372 : Int) ≤ 16777216)) : CtA (gV D I) l yJ7_copyOf_1904c cJ7_copyOf_1904c 2 (some (FieldType.array (FieldType.object "java/lang/Object"))) 2 41 1 p370.toInt.toNat [.ref q369, .int p370] (va_pl P367 F368) (pp_376_Arrays_copyOf D I P367 F368 q369 p370 f371 n372) gNA := by
  refine CtA_ofF hl0 (by decide +kernel) (Nat.le_of_ble_eq_true rfl) ?_
  refine G_aload_n 0 dr_cJ7_copyOf_1904c_0 rfl ?_
  refine G_iload_n 1 dr_cJ7_copyOf_1904c_1 rfl ?_
  refine G_aload_n 0 dr_cJ7_copyOf_1904c_2 rfl ?_
  refine Gp_getC 4 hmq369 heq369 rfl rfl dr_cJ7_copyOf_1904c_3 wr_10_23 wr_12_1 wr_10_24 wr_10_53 gr_mi (Nat.le_of_ble_eq_true rfl) (Nat.le_of_ble_eq_true rfl) ?_
  refine Gw_callS (As := [.ref q369, .int p370, .ref (D.2 1002 0)]) (gV_ok D I) (cp_386_Arrays_copyOf l hl0 D I P367 F368 q369 p370 f371 n372 hmq369 heq369 bp370 (by omega) (rEl_frG (rEl_src x374 rSrc_rf) (rSub_rf (P := P367)) (rFr_rf (W := []) (P := P367) (F := F368)) rNg_n) (by omega)) dr_cJ7_copyOf_1904c_6 ⟨wr_10_54, wr_1_30, wr_10_56, by decide, rfl, (Nat.le_of_ble_eq_true rfl), (Nat.le_of_ble_eq_true rfl)⟩ wr_10_55 (show 0 + 1 ≤ 1 by first | omega | decide) (show 0 + p370.toInt.toNat ≤ p370.toInt.toNat by first | omega | decide) (Nat.le_of_ble_eq_true rfl) (fun r417 w418 dc414 ds415 hp416 => ?_) (fun _ _ _ _ _ z => z.elim)
  obtain ⟨P424, F425, q419, f420, rfl, rfl, hsb426, hfr427, he428, he429, hm430, hq431, hdc, hds, x421, x422, ht423⟩ := hp416
  have hm432 : q369 ∈ P424 := hsb426 q369 hmq369
  have hq433 : q419 ∉ P367 := fun z => hq431 ((rSub_rf (P := P367)) q419 z)
  have hsb434 : rSub P367 P424 := rSub_tr (rSub_rf (P := P367)) hsb426
  have hfr435 : rFr [] P367 F368 F425 := rFr_call (rSub_rf (P := P367)) (rFr_rf (W := []) (P := P367) (F := F368)) hfr427 (fun b hb hn => ⟨nm_n, nm_n⟩)
  change G _ _ _ _ _ _ _ (.ref q419 :: _) _ _ _
  refine G_widen (cs' := 1) (sl' := p370.toInt.toNat) (by omega) (by omega) ?_
  exact G_aretA (FieldType.array (FieldType.object "java/lang/Object")) dr_cJ7_copyOf_1904c_9 rfl (by first | exact Or.inl ⟨_, rfl⟩ | exact Or.inr ⟨_, rfl⟩) (Or.inr ⟨_, rfl⟩) (Nat.le_of_ble_eq_true rfl) (show p370.toInt.toNat ≤ p370.toInt.toNat by omega) ⟨P424, F425, q419, f420, rfl, rfl, hsb434, hfr435, he428, he429, hm430, hq433, (Nat.le_of_ble_eq_true rfl), (by omega), (by assumption), (rSrc_tr x422 rSrc_rf), (fun R c1 => c1 ht423)⟩
abbrev ky_343_ArrayList_grow : gKey := (cJx4a65c_grow_92f84, 4, "java/util/ArrayList", (some (FieldType.array (FieldType.object "java/lang/Object"))), [], "grow", fun _ _ => True)
def pp_343_ArrayList_grow (D : va_G) (I : FieldType → ClassId) (P328 : List Nat) (F329 : Nat → va_E) (q330 : Nat) (q331 : Nat) (p332 : Int32) (p333 : Int32) (p334 : Int32) (f335 : Nat → Option Nat) (n336 : Nat) : Option Value → va_W → Nat → Nat → Prop := fun r w dc ds => ∃ (P474 : List Nat) (F475 : Nat → va_E) (q471 : Nat) (n472 : Nat) (f473 : Nat → Option Nat), r = some (.ref q471) ∧ w = va_pl P474 F475 ∧ rSub P328 P474 ∧ rFr [q330] P328 F329 F475 ∧ F475 q330 = .inr (4, [.int p333, .ref q471, .int p334]) ∧ F475 q471 = .inl (I (.object "java/lang/Object"), n472, .inr (.inr (.inr (.inr f473)))) ∧ q471 ∈ P474 ∧ q471 ∉ P328 ∧ dc ≤ 1 ∧ ds ≤ n336 + n336 / 2 + 1 ∧ (∀ j : Nat, (j : Int) < (n336 : Int) → f473 j = f335 j) ∧ rSrc f473 f335 ∧ ((n472 : Int) ≤ (n336 : Int) + (n336 : Int) / 2 + 1 ∧ (n336 : Int) + 1 ≤ (n472 : Int) ∧ (n336 : Int) + (n336 : Int) / 2 ≤ (n472 : Int))
set_option maxRecDepth 100000 in
set_option maxHeartbeats 4000000 in
theorem cp_343_ArrayList_grow (l : Launch) (hl0 : l.stackTraces = false) (D : va_G) (I : FieldType → ClassId) (P328 : List Nat) (F329 : Nat → va_E) (q330 : Nat) (q331 : Nat) (p332 : Int32) (p333 : Int32) (p334 : Int32) (f335 : Nat → Option Nat) (n336 : Nat) (hmq330 : q330 ∈ P328) (hmq331 : q331 ∈ P328) (heq330 : F329 q330 = .inr (4, [.int p333, .ref q331, .int p334])) (heq331 : F329 q331 = .inl (I (.object "java/lang/Object"), n336, .inr (.inr (.inr (.inr f335))))) (bp332 : gB p332 0 16777216) (bp334 : gB p334 0 16777216) (x337 : 0 < (n336 : Int)) (x338 : (n336 : Int) ≤ 1000000) (x339 : p334.toInt = (n336 : Int)) (x340 : p332.toInt = p334.toInt + 1) (x341 : rEl P328 F329 f335) (x342 : ((n336 : Int) ≤ 16777216)) : CtA (gV D I) l yJx4a65c_grow_92f84 cJx4a65c_grow_92f84 4 (some (FieldType.array (FieldType.object "java/lang/Object"))) 3 62 1 (n336 + n336 / 2 + 1) [.ref q330, .int p332] (va_pl P328 F329) (pp_343_ArrayList_grow D I P328 F329 q330 q331 p332 p333 p334 f335 n336) gNA := by
  refine CtA_ofF hl0 (by decide +kernel) (Nat.le_of_ble_eq_true rfl) ?_
  have bp333 := gB_any p333
  refine G_aload_n 0 dr_cJx4a65c_grow_92f84_0 rfl ?_
  refine Gp_get 1 hmq330 heq330 dr_cJx4a65c_grow_92f84_1 (gk_Jx4a65c D I) (Nat.le_of_ble_eq_true rfl) wr_7_17 rfl ?_
  refine Gp_alen (Int32.ofNat n336) 4 hmq331 heq331 dr_cJx4a65c_grow_92f84_4 rfl rfl (G_nam fun z344 hz344 => ?_)
  have ez344 : z344.toInt = (n336 : Nat) := gI_ofM hz344 (by omega)
  have bz344 : gB z344 0 16777216 := ⟨by omega, by omega⟩
  refine G_istore_n (L' := [(2, .int z344), (0, .ref q330), (1, .int p332)]) dr_cJx4a65c_grow_92f84_5 (Nat.le_of_ble_eq_true rfl) rfl ?_
  refine G_iload_n 0 dr_cJx4a65c_grow_92f84_6 rfl ?_
  refine G_if_gt 20 dr_cJx4a65c_grow_92f84_7 (by decide +kernel) (fun hc345 => ?_) (fun hc => absurd (show False by have := gj_nltL hc (show Int32.toInt 0 = 0 by decide); omega) not_false)
  have r347 : 0 < z344.toInt := gj_ltL hc345 (show Int32.toInt 0 = 0 by decide)
  have bz344' : gB z344 1 16777216 := ⟨by omega, by omega⟩
  refine G_iload_n 0 dr_cJx4a65c_grow_92f84_20 rfl ?_
  refine G_iload_n 2 dr_cJx4a65c_grow_92f84_21 rfl ?_
  refine G_iload_n 0 dr_cJx4a65c_grow_92f84_22 rfl ?_
  refine G_isub dr_cJx4a65c_grow_92f84_23 (G_nam fun z348 hz348 => ?_)
  have ez348 : z348.toInt = p332.toInt - z344.toInt := by rw [gI_sub hz348 bp332 bz344' (by decide) (by decide)]
  have bz348 : gB z348 (-16777216) 16777215 := gB_sub (gI_sub hz348 bp332 bz344' (by decide) (by decide)) bp332 bz344' (by decide) (by decide)
  refine G_iload_n 0 dr_cJx4a65c_grow_92f84_24 rfl ?_
  refine G_iconst 1 dr_cJx4a65c_grow_92f84_25 (by decide +kernel) ?_
  refine G_ishr dr_cJx4a65c_grow_92f84_26 (G_nam fun z349 hz349 => ?_)
  have ez349 : z349.toInt = z344.toInt / 2 := gI_shr (k := 1) hz349 (by decide)
  have bz349 : gB z349 0 8388608 := ⟨by omega, by omega⟩
  refine Gw_callS (As := [.int z344, .int z348, .int z349]) (gV_ok D I) (cp_355_ArraysSupport_newLength l hl0 D I P328 F329 z344 z348 z349 (gB_w bz344' (by decide) (by decide)) ⟨by omega, by omega⟩ (gB_w bz349 (by decide) (by decide))) dr_cJx4a65c_grow_92f84_27 ⟨wr_10_19, wr_1_33, wr_8_14, by decide, rfl, (Nat.le_of_ble_eq_true rfl), (Nat.le_of_ble_eq_true rfl)⟩ wr_8_13 (show 0 + 0 ≤ 1 by first | omega | decide) (show 0 + 0 ≤ (n336 + n336 / 2 + 1) by first | omega | decide) (Nat.le_of_ble_eq_true rfl) (fun r362 w363 dc359 ds360 hp361 => ?_) (fun _ _ _ _ _ z => z.elim)
  obtain ⟨o364, rfl, rfl, hdc, hds, bo364, x365, ht366⟩ := hp361
  change G _ _ _ _ _ _ _ (.int o364 :: _) _ _ _
  refine G_widen (cs' := 0) (sl' := 0) (by omega) (by omega) ?_
  refine G_istore_n (L' := [(3, .int o364), (2, .int z344), (0, .ref q330), (1, .int p332)]) dr_cJx4a65c_grow_92f84_30 (Nat.le_of_ble_eq_true rfl) rfl ?_
  refine G_aload_n 2 dr_cJx4a65c_grow_92f84_31 rfl ?_
  refine G_aload_n 2 dr_cJx4a65c_grow_92f84_32 rfl ?_
  refine Gp_get 1 hmq330 heq330 dr_cJx4a65c_grow_92f84_33 (gk_Jx4a65c D I) (Nat.le_of_ble_eq_true rfl) wr_7_17 rfl ?_
  refine G_iload_n 0 dr_cJx4a65c_grow_92f84_36 rfl ?_
  refine Gw_callS (As := [.ref q331, .int o364]) (gV_ok D I) (cp_376_Arrays_copyOf l hl0 D I P328 F329 q331 o364 f335 n336 hmq331 heq331 ⟨by omega, by omega⟩ (by omega) (rEl_frG (rEl_src x341 rSrc_rf) (rSub_rf (P := P328)) (rFr_rf (W := []) (P := P328) (F := F329)) rNg_n) (by omega)) dr_cJx4a65c_grow_92f84_37 ⟨wr_10_20, wr_1_30, wr_10_22, by decide, rfl, (Nat.le_of_ble_eq_true rfl), (Nat.le_of_ble_eq_true rfl)⟩ wr_10_21 (show 0 + 1 ≤ 1 by first | omega | decide) (show 0 + o364.toInt.toNat ≤ (n336 + n336 / 2 + 1) by first | omega | decide) (Nat.le_of_ble_eq_true rfl) (fun r443 w444 dc440 ds441 hp442 => ?_) (fun _ _ _ _ _ z => z.elim)
  obtain ⟨P450, F451, q445, f446, rfl, rfl, hsb452, hfr453, he454, he455, hm456, hq457, hdc, hds, x447, x448, ht449⟩ := hp442
  have hm458 : q330 ∈ P450 := hsb452 q330 hmq330
  have hm459 : q331 ∈ P450 := hsb452 q331 hmq331
  have hq460 : q445 ∉ P328 := fun z => hq457 ((rSub_rf (P := P328)) q445 z)
  have hsb461 : rSub P328 P450 := rSub_tr (rSub_rf (P := P328)) hsb452
  have he462 : F451 q330 = .inr (4, [.int p333, .ref q331, .int p334]) := (hfr453 q330 hmq330 nm_n).trans heq330
  have hfr463 : rFr [] P328 F329 F451 := rFr_call (rSub_rf (P := P328)) (rFr_rf (W := []) (P := P328) (F := F329)) hfr453 (fun b hb hn => ⟨nm_n, nm_n⟩)
  change G _ _ _ _ _ _ _ (.ref q445 :: _) _ _ _
  refine G_widen (cs' := 1) (sl' := o364.toInt.toNat) (by omega) (by omega) ?_
  refine G_dup_x1 dr_cJx4a65c_grow_92f84_40 rfl rfl ?_
  refine Gp_put 1 hm458 he462 dr_cJx4a65c_grow_92f84_41 (gk_Jx4a65c D I) (Nat.le_of_ble_eq_true rfl) wr_7_17 rfl rfl rfl (Nat.le_of_ble_eq_true rfl) (fun F464 e465 n466 => ?_)
  have he467 : F464 q331 = .inl (I (.object "java/lang/Object"), n336, .inr (.inr (.inr (.inr f335)))) := (n466 q331 (rn_ao he454 he462)).trans he454
  have he468 : F464 q445 = .inl (I (.object "java/lang/Object"), o364.toInt.toNat, .inr (.inr (.inr (.inr f446)))) := (n466 q445 (fun h => hq460 (h ▸ hmq330))).trans he455
  have he469 : F464 q330 = .inr (4, [.int p333, .ref q445, .int p334]) := e465
  have hfr470 : rFr [q330] P328 F329 F464 := rFr_put hfr463 n466
  exact G_aretA (FieldType.array (FieldType.object "java/lang/Object")) dr_cJx4a65c_grow_92f84_44 rfl (by first | exact Or.inl ⟨_, rfl⟩ | exact Or.inr ⟨_, rfl⟩) (Or.inr ⟨_, rfl⟩) (Nat.le_of_ble_eq_true rfl) (show o364.toInt.toNat ≤ (n336 + n336 / 2 + 1) by omega) ⟨P450, F464, q445, o364.toInt.toNat, f446, rfl, rfl, hsb461, hfr470, he469, he468, hm456, hq460, (Nat.le_of_ble_eq_true rfl), (by omega), (by assumption), (rSrc_tr x448 rSrc_rf), (by omega)⟩
abbrev ky_326_ArrayList_grow : gKey := (cJx4a65c_grow_d5877, 1, "java/util/ArrayList", (some (FieldType.array (FieldType.object "java/lang/Object"))), [], "grow", fun _ _ => True)
def pp_326_ArrayList_grow (D : va_G) (I : FieldType → ClassId) (P313 : List Nat) (F314 : Nat → va_E) (q315 : Nat) (q316 : Nat) (p317 : Int32) (p318 : Int32) (f319 : Nat → Option Nat) (n320 : Nat) : Option Value → va_W → Nat → Nat → Prop := fun r w dc ds => ∃ (P504 : List Nat) (F505 : Nat → va_E) (q501 : Nat) (n502 : Nat) (f503 : Nat → Option Nat), r = some (.ref q501) ∧ w = va_pl P504 F505 ∧ rSub P313 P504 ∧ rFr [q315] P313 F314 F505 ∧ F505 q315 = .inr (4, [.int p317, .ref q501, .int p318]) ∧ F505 q501 = .inl (I (.object "java/lang/Object"), n502, .inr (.inr (.inr (.inr f503)))) ∧ q501 ∈ P504 ∧ q501 ∉ P313 ∧ dc ≤ 1 ∧ ds ≤ n320 + n320 / 2 + 1 ∧ (∀ j : Nat, (j : Int) < (n320 : Int) → f503 j = f319 j) ∧ rSrc f503 f319 ∧ ((n502 : Int) ≤ (n320 : Int) + (n320 : Int) / 2 + 1 ∧ (n320 : Int) + 1 ≤ (n502 : Int) ∧ (n320 : Int) + (n320 : Int) / 2 ≤ (n502 : Int))
set_option maxRecDepth 100000 in
set_option maxHeartbeats 4000000 in
theorem cp_326_ArrayList_grow (l : Launch) (hl0 : l.stackTraces = false) (D : va_G) (I : FieldType → ClassId) (P313 : List Nat) (F314 : Nat → va_E) (q315 : Nat) (q316 : Nat) (p317 : Int32) (p318 : Int32) (f319 : Nat → Option Nat) (n320 : Nat) (hmq315 : q315 ∈ P313) (hmq316 : q316 ∈ P313) (heq315 : F314 q315 = .inr (4, [.int p317, .ref q316, .int p318])) (heq316 : F314 q316 = .inl (I (.object "java/lang/Object"), n320, .inr (.inr (.inr (.inr f319))))) (bp318 : gB p318 0 16777216) (x321 : 0 < (n320 : Int)) (x322 : (n320 : Int) ≤ 1000000) (x323 : p318.toInt = (n320 : Int)) (x324 : rEl P313 F314 f319) (x325 : ((n320 : Int) ≤ 16777216)) : CtA (gV D I) l yJx4a65c_grow_d5877 cJx4a65c_grow_d5877 1 (some (FieldType.array (FieldType.object "java/lang/Object"))) 4 85 1 (n320 + n320 / 2 + 1) [.ref q315] (va_pl P313 F314) (pp_326_ArrayList_grow D I P313 F314 q315 q316 p317 p318 f319 n320) gNA := by
  refine CtA_ofF hl0 (by decide +kernel) (Nat.le_of_ble_eq_true rfl) ?_
  have bp317 := gB_any p317
  refine G_aload_n 0 dr_cJx4a65c_grow_d5877_0 rfl ?_
  refine G_aload_n 0 dr_cJx4a65c_grow_d5877_1 rfl ?_
  refine Gp_get 2 hmq315 heq315 dr_cJx4a65c_grow_d5877_2 (gk_Jx4a65c D I) (Nat.le_of_ble_eq_true rfl) wr_7_18 rfl ?_
  refine G_iconst 1 dr_cJx4a65c_grow_d5877_5 (by decide +kernel) ?_
  refine G_iadd dr_cJx4a65c_grow_d5877_6 (G_nam fun z327 hz327 => ?_)
  have ez327 : z327.toInt = p318.toInt + 1 := by rw [gI_add hz327 bp318 (gBl (show Int32.toInt 1 = 1 by decide)) (by decide) (by decide), show Int32.toInt 1 = 1 from by decide]
  have bz327 : gB z327 1 16777217 := gB_add (gI_add hz327 bp318 (gBl (show Int32.toInt 1 = 1 by decide)) (by decide) (by decide)) bp318 (gBl (show Int32.toInt 1 = 1 by decide)) (by decide) (by decide)
  refine Gw_callV (As := [.int z327]) (gV_ok D I) (cp_343_ArrayList_grow l hl0 D I P313 F314 q315 q316 z327 p317 p318 f319 n320 hmq315 hmq316 heq315 heq316 ⟨by omega, by omega⟩ bp318 (by omega) (by omega) (by omega) (by omega) (rEl_frG (rEl_src x324 rSrc_rf) (rSub_rf (P := P313)) (rFr_rf (W := []) (P := P313) (F := F314)) rNg_n) (by omega)) dr_cJx4a65c_grow_d5877_7 ⟨wr_10_15, wr_1_18, wr_10_18, by decide, rfl, (Nat.le_of_ble_eq_true rfl), (Nat.le_of_ble_eq_true rfl)⟩ wr_10_17 wr_p_87 hmq315 heq315 rfl (show 0 + 1 ≤ 1 by first | omega | decide) (show 0 + (n320 + n320 / 2 + 1) ≤ (n320 + n320 / 2 + 1) by first | omega | decide) (Nat.le_of_ble_eq_true rfl) (fun r479 w480 dc476 ds477 hp478 => ?_) (fun _ _ _ _ _ z => z.elim)
  obtain ⟨P487, F488, q481, n482, f483, rfl, rfl, hsb489, hfr490, he491, he492, hm493, hq494, hdc, hds, x484, x485, x486⟩ := hp478
  have hm495 : q315 ∈ P487 := hsb489 q315 hmq315
  have hm496 : q316 ∈ P487 := hsb489 q316 hmq316
  have hq497 : q481 ∉ P313 := fun z => hq494 ((rSub_rf (P := P313)) q481 z)
  have hsb498 : rSub P313 P487 := rSub_tr (rSub_rf (P := P313)) hsb489
  have he499 : F488 q316 = .inl (I (.object "java/lang/Object"), n320, .inr (.inr (.inr (.inr f319)))) := (hfr490 q316 hmq316 (nm_c (rn_ao heq316 heq315) nm_n)).trans heq316
  have hfr500 : rFr [q315] P313 F314 F488 := rFr_call (rSub_rf (P := P313)) (rFr_rf (W := []) (P := P313) (F := F314)) hfr490 (fun b hb hn => ⟨nm_n, (nm_c (fun e => hn (e ▸ List.mem_cons_self)) nm_n)⟩)
  change G _ _ _ _ _ _ _ (.ref q481 :: _) _ _ _
  refine G_widen (cs' := 1) (sl' := n320 + n320 / 2 + 1) (by omega) (by omega) ?_
  exact G_aretA (FieldType.array (FieldType.object "java/lang/Object")) dr_cJx4a65c_grow_d5877_10 rfl (by first | exact Or.inl ⟨_, rfl⟩ | exact Or.inr ⟨_, rfl⟩) (Or.inr ⟨_, rfl⟩) (Nat.le_of_ble_eq_true rfl) (show n320 + n320 / 2 + 1 ≤ (n320 + n320 / 2 + 1) by omega) ⟨P487, F488, q481, n482, f483, rfl, rfl, hsb498, hfr500, he491, he492, hm493, hq497, (Nat.le_of_ble_eq_true rfl), (by omega), (by assumption), (rSrc_tr x485 rSrc_rf), (by omega)⟩
abbrev ky_308_ArrayList_add : gKey := (cJx4a65c_add_72be8, 4, "java/util/ArrayList", none, [], "add", fun _ _ => True)
def pp_308_ArrayList_add (D : va_G) (I : FieldType → ClassId) (P285 : List Nat) (F286 : Nat → va_E) (q287 : Nat) (q288 : Nat) (q289 : Nat) (p290 : Int32) (p291 : Int32) (p292 : Int32) (p293 : Int32) (p294 : Int32) (p295 : Int32) (p296 : Int32) (p297 : Int32) (p298 : Int32) (p299 : Int32) (f300 : Nat → Option Nat) (n301 : Nat) : Option Value → va_W → Nat → Nat → Prop := fun r w dc ds => ∃ (P555 : List Nat) (F556 : Nat → va_E) (o551 : Int32) (q552 : Nat) (n553 : Nat) (f554 : Nat → Option Nat), r = none ∧ w = va_pl P555 F556 ∧ rSub P285 P555 ∧ rFr [q287] P285 F286 F556 ∧ F556 q288 = .inr (20, [.int p293, .int p294, .int p295, .int p296, .int p297, .int p298, .int p299]) ∧ F556 q289 = .inl (I (.object "java/lang/Object"), n301, .inr (.inr (.inr (.inr f300)))) ∧ F556 q287 = .inr (4, [.int p291, .ref q552, .int o551]) ∧ F556 q552 = .inl (I (.object "java/lang/Object"), n553, .inr (.inr (.inr (.inr f554)))) ∧ q552 ∈ P555 ∧ q552 ∉ P285 ∧ dc ≤ 1 ∧ ds ≤ n301 + n301 / 2 + 1 ∧ gB o551 1 16777217 ∧ o551.toInt = p292.toInt + 1 ∧ ((∀ j : Nat, (j : Int) < p292.toInt → f554 j = f300 j) ∧ f554 p290.toInt.toNat = some q288) ∧ rSrcX f554 f300 q288 ∧ ((n553 : Int) ≤ (n301 : Int) + (n301 : Int) / 2 + 1 ∧ (n301 : Int) + 1 ≤ (n553 : Int) ∧ (n301 : Int) + (n301 : Int) / 2 ≤ (n553 : Int))
set_option maxRecDepth 100000 in
set_option maxHeartbeats 4000000 in
theorem cp_308_ArrayList_add (l : Launch) (hl0 : l.stackTraces = false) (D : va_G) (I : FieldType → ClassId) (P285 : List Nat) (F286 : Nat → va_E) (q287 : Nat) (q288 : Nat) (q289 : Nat) (p290 : Int32) (p291 : Int32) (p292 : Int32) (p293 : Int32) (p294 : Int32) (p295 : Int32) (p296 : Int32) (p297 : Int32) (p298 : Int32) (p299 : Int32) (f300 : Nat → Option Nat) (n301 : Nat) (hmq287 : q287 ∈ P285) (hmq288 : q288 ∈ P285) (hmq289 : q289 ∈ P285) (heq287 : F286 q287 = .inr (4, [.int p291, .ref q289, .int p292])) (heq288 : F286 q288 = .inr (20, [.int p293, .int p294, .int p295, .int p296, .int p297, .int p298, .int p299])) (heq289 : F286 q289 = .inl (I (.object "java/lang/Object"), n301, .inr (.inr (.inr (.inr f300))))) (bp290 : gB p290 0 16777216) (bp292 : gB p292 0 16777216) (bp293 : gB p293 0 32) (bp294 : gB p294 0 1999) (bp297 : gB p297 0 1999) (bp298 : gB p298 0 1) (bp299 : gB p299 0 1) (x302 : 0 < (n301 : Int)) (x303 : (n301 : Int) ≤ 1000000) (x304 : p292.toInt = (n301 : Int)) (x305 : p290.toInt = p292.toInt) (x306 : rEl P285 F286 f300) (x307 : ((n301 : Int) ≤ 16777216)) : CtA (gV D I) l yJx4a65c_add_72be8 cJx4a65c_add_72be8 4 none 5 105 1 (n301 + n301 / 2 + 1) [.ref q287, .ref q288, .ref q289, .int p290] (va_pl P285 F286) (pp_308_ArrayList_add D I P285 F286 q287 q288 q289 p290 p291 p292 p293 p294 p295 p296 p297 p298 p299 f300 n301) gNA := by
  refine CtA_ofF hl0 (by decide +kernel) (Nat.le_of_ble_eq_true rfl) ?_
  have bp291 := gB_any p291
  have bp295 := gB_any p295
  have bp296 := gB_any p296
  refine G_iload_n 3 dr_cJx4a65c_add_72be8_0 rfl ?_
  refine G_aload_n 2 dr_cJx4a65c_add_72be8_1 rfl ?_
  refine Gp_alen (Int32.ofNat n301) 4 hmq289 heq289 dr_cJx4a65c_add_72be8_2 rfl rfl (G_nam fun z309 hz309 => ?_)
  have ez309 : z309.toInt = (n301 : Nat) := gI_ofM hz309 (by omega)
  have bz309 : gB z309 0 16777216 := ⟨by omega, by omega⟩
  refine G_icmp_ne 11 dr_cJx4a65c_add_72be8_3 (by decide +kernel) (fun hc => absurd (show False by have := gC_ne hc; omega) not_false) (fun hc310 => ?_)
  have r312 : p290.toInt = z309.toInt := gC_eq hc310
  refine G_aload_n 0 dr_cJx4a65c_add_72be8_6 rfl ?_
  refine Gw_callV (As := []) (gV_ok D I) (cp_326_ArrayList_grow l hl0 D I P285 F286 q287 q289 p291 p292 f300 n301 hmq287 hmq289 heq287 heq289 bp292 (by omega) (by omega) (by omega) (rEl_frG (rEl_src x306 rSrc_rf) (rSub_rf (P := P285)) (rFr_rf (W := []) (P := P285) (F := F286)) rNg_n) (by omega)) dr_cJx4a65c_add_72be8_7 ⟨wr_10_11, wr_1_18, wr_10_14, by decide, rfl, (Nat.le_of_ble_eq_true rfl), (Nat.le_of_ble_eq_true rfl)⟩ wr_10_13 wr_p_86 hmq287 heq287 rfl (show 0 + 1 ≤ 1 by first | omega | decide) (show 0 + (n301 + n301 / 2 + 1) ≤ (n301 + n301 / 2 + 1) by first | omega | decide) (Nat.le_of_ble_eq_true rfl) (fun r509 w510 dc506 ds507 hp508 => ?_) (fun _ _ _ _ _ z => z.elim)
  obtain ⟨P517, F518, q511, n512, f513, rfl, rfl, hsb519, hfr520, he521, he522, hm523, hq524, hdc, hds, x514, x515, x516⟩ := hp508
  have hm525 : q287 ∈ P517 := hsb519 q287 hmq287
  have hm526 : q288 ∈ P517 := hsb519 q288 hmq288
  have hm527 : q289 ∈ P517 := hsb519 q289 hmq289
  have hq528 : q511 ∉ P285 := fun z => hq524 ((rSub_rf (P := P285)) q511 z)
  have hsb529 : rSub P285 P517 := rSub_tr (rSub_rf (P := P285)) hsb519
  have he530 : F518 q288 = .inr (20, [.int p293, .int p294, .int p295, .int p296, .int p297, .int p298, .int p299]) := (hfr520 q288 hmq288 (nm_c (rn_oo heq288 heq287 (by decide)) nm_n)).trans heq288
  have he531 : F518 q289 = .inl (I (.object "java/lang/Object"), n301, .inr (.inr (.inr (.inr f300)))) := (hfr520 q289 hmq289 (nm_c (rn_ao heq289 heq287) nm_n)).trans heq289
  have hfr532 : rFr [q287] P285 F286 F518 := rFr_call (rSub_rf (P := P285)) (rFr_rf (W := []) (P := P285) (F := F286)) hfr520 (fun b hb hn => ⟨nm_n, (nm_c (fun e => hn (e ▸ List.mem_cons_self)) nm_n)⟩)
  change G _ _ _ _ _ _ _ (.ref q511 :: _) _ _ _
  refine G_widen (cs' := 1) (sl' := n301 + n301 / 2 + 1) (by omega) (by omega) ?_
  refine G_astore_n (L' := [(2, .ref q511), (0, .ref q287), (1, .ref q288), (3, .int p290)]) dr_cJx4a65c_add_72be8_10 (Nat.le_of_ble_eq_true rfl) rfl ?_
  refine G_aload_n 0 dr_cJx4a65c_add_72be8_11 rfl ?_
  refine G_iload_n 3 dr_cJx4a65c_add_72be8_12 rfl ?_
  refine G_aload_n 2 dr_cJx4a65c_add_72be8_13 rfl ?_
  refine Gp_aast 4 hm523 he522 dr_cJx4a65c_add_72be8_14 rfl ⟨hm526, _, _, _, _, _, he530, rfl, gr_cast 3 rfl⟩ (gB_inr (by omega) (by omega)) (fun F533 e534 n535 => ?_)
  obtain ⟨f536, hf536⟩ : ∃ z, z = va_up f513 p290.toNatClampNeg (some q288) := ⟨_, rfl⟩
  rw [← hf536] at e534
  have he537 : F533 q288 = .inr (20, [.int p293, .int p294, .int p295, .int p296, .int p297, .int p298, .int p299]) := (n535 q288 (fun h => hq528 (h ▸ hmq288))).trans he530
  have he538 : F533 q289 = .inl (I (.object "java/lang/Object"), n301, .inr (.inr (.inr (.inr f300)))) := (n535 q289 (fun h => hq528 (h ▸ hmq289))).trans he531
  have he539 : F533 q287 = .inr (4, [.int p291, .ref q511, .int p292]) := (n535 q287 (fun h => hq528 (h ▸ hmq287))).trans he521
  have he540 : F533 q511 = .inl (I (.object "java/lang/Object"), n512, .inr (.inr (.inr (.inr f536)))) := e534
  have hfr541 : rFr [q287] P285 F286 F533 := rFr_newp hq528 hfr532 n535
  refine G_aload_n 1 dr_cJx4a65c_add_72be8_15 rfl ?_
  refine G_iload_n 3 dr_cJx4a65c_add_72be8_16 rfl ?_
  refine G_iconst 1 dr_cJx4a65c_add_72be8_17 (by decide +kernel) ?_
  refine G_iadd dr_cJx4a65c_add_72be8_18 (G_nam fun z542 hz542 => ?_)
  have ez542 : z542.toInt = p290.toInt + 1 := by rw [gI_add hz542 bp290 (gBl (show Int32.toInt 1 = 1 by decide)) (by decide) (by decide), show Int32.toInt 1 = 1 from by decide]
  have bz542 : gB z542 1 16777217 := gB_add (gI_add hz542 bp290 (gBl (show Int32.toInt 1 = 1 by decide)) (by decide) (by decide)) bp290 (gBl (show Int32.toInt 1 = 1 by decide)) (by decide) (by decide)
  refine Gp_put 2 hm525 he539 dr_cJx4a65c_add_72be8_19 (gk_Jx4a65c D I) (Nat.le_of_ble_eq_true rfl) wr_7_18 rfl rfl rfl (Nat.le_of_ble_eq_true rfl) (fun F543 e544 n545 => ?_)
  have he546 : F543 q288 = .inr (20, [.int p293, .int p294, .int p295, .int p296, .int p297, .int p298, .int p299]) := (n545 q288 (rn_oo he537 he539 (by decide))).trans he537
  have he547 : F543 q289 = .inl (I (.object "java/lang/Object"), n301, .inr (.inr (.inr (.inr f300)))) := (n545 q289 (rn_ao he538 he539)).trans he538
  have he548 : F543 q511 = .inl (I (.object "java/lang/Object"), n512, .inr (.inr (.inr (.inr f536)))) := (n545 q511 (fun h => hq528 (h ▸ hmq287))).trans he540
  have he549 : F543 q287 = .inr (4, [.int p291, .ref q511, .int z542]) := e544
  have hfr550 : rFr [q287] P285 F286 F543 := rFr_put' List.mem_cons_self hfr541 n545
  exact G_vretA dr_cJx4a65c_add_72be8_22 rfl (Nat.le_of_ble_eq_true rfl) (show n301 + n301 / 2 + 1 ≤ (n301 + n301 / 2 + 1) by omega) ⟨P517, F543, z542, q511, n512, f536, rfl, rfl, hsb529, hfr550, he546, he547, he549, he548, hm523, hq528, (Nat.le_of_ble_eq_true rfl), (by omega), bz542, (by omega), (rI_add (fun j hj => x514 j (by omega)) hf536 (by omega) (by omega)), (rSrcX_up hf536 (rSrc_tr x515 rSrc_rf)), (by omega)⟩
end
section
theorem dr_cJx4a65c_grow_92f84_10 : decode cJx4a65c_grow_92f84 10 = .ok (.aload_n 0, 1) := by decide +kernel
theorem dr_cJx4a65c_grow_92f84_11 : decode cJx4a65c_grow_92f84 11 = .ok (.getfield 9, 3) := by decide +kernel
theorem dr_cJx4a65c_grow_92f84_14 : decode cJx4a65c_grow_92f84 14 = .ok (.getstatic 39, 3) := by decide +kernel
theorem wr_7_15 : (Jvm.Cond.fieldLink "java/util/ArrayList" (39 : Nat) "java/util/ArrayList" "DEFAULTCAPACITY_EMPTY_ELEMENTDATA" "[Ljava/lang/Object;") ∈ gw := gw_7 15 rfl rfl
theorem dr_cJx4a65c_grow_92f84_17 : decode cJx4a65c_grow_92f84 17 = .ok (.if_acmp .eq 28, 3) := by decide +kernel
theorem dr_cJx4a65c_grow_92f84_45 : decode cJx4a65c_grow_92f84 45 = .ok (.aload_n 0, 1) := by decide +kernel
theorem dr_cJx4a65c_grow_92f84_46 : decode cJx4a65c_grow_92f84 46 = .ok (.bipush 10, 2) := by decide +kernel
theorem dr_cJx4a65c_grow_92f84_48 : decode cJx4a65c_grow_92f84 48 = .ok (.iload_n 1, 1) := by decide +kernel
theorem dr_cJx4a65c_grow_92f84_49 : decode cJx4a65c_grow_92f84 49 = .ok (.invokestatic 79, 3) := by decide +kernel
theorem wr_10_60 : (Jvm.Cond.methodLink "java/util/ArrayList" (79 : Nat) ({ cls := "java/lang/Math", name := "max", desc := "(II)I" } : Jvm.MethodName)) ∈ gw := gw_10 60 rfl rfl
theorem dr_cJx4a65c_grow_92f84_52 : decode cJx4a65c_grow_92f84 52 = .ok (.anewarray 7, 3) := by decide +kernel
theorem wr_10_61 : (Jvm.Cond.classLink "java/util/ArrayList" (7 : Nat) "java/lang/Object") ∈ gw := gw_10 61 rfl rfl
theorem dr_cJx4a65c_grow_92f84_55 : decode cJx4a65c_grow_92f84 55 = .ok (.dup_x1, 1) := by decide +kernel
theorem dr_cJx4a65c_grow_92f84_56 : decode cJx4a65c_grow_92f84 56 = .ok (.putfield 9, 3) := by decide +kernel
theorem dr_cJx4a65c_grow_92f84_59 : decode cJx4a65c_grow_92f84 59 = .ok (.areturn, 1) := by decide +kernel
theorem dr_cJx4a65c_rangeCheckForAdd_d00df_0 : decode cJx4a65c_rangeCheckForAdd_d00df 0 = .ok (.iload_n 1, 1) := by decide +kernel
theorem dr_cJx4a65c_rangeCheckForAdd_d00df_1 : decode cJx4a65c_rangeCheckForAdd_d00df 1 = .ok (.aload_n 0, 1) := by decide +kernel
theorem dr_cJx4a65c_rangeCheckForAdd_d00df_2 : decode cJx4a65c_rangeCheckForAdd_d00df 2 = .ok (.getfield 48, 3) := by decide +kernel
theorem dr_cJx4a65c_rangeCheckForAdd_d00df_5 : decode cJx4a65c_rangeCheckForAdd_d00df 5 = .ok (.if_icmp .gt 7, 3) := by decide +kernel
theorem dr_cJx4a65c_rangeCheckForAdd_d00df_8 : decode cJx4a65c_rangeCheckForAdd_d00df 8 = .ok (.iload_n 1, 1) := by decide +kernel
theorem dr_cJx4a65c_rangeCheckForAdd_d00df_9 : decode cJx4a65c_rangeCheckForAdd_d00df 9 = .ok (.ifCond .ge 16, 3) := by decide +kernel
theorem dr_cJx4a65c_rangeCheckForAdd_d00df_25 : decode cJx4a65c_rangeCheckForAdd_d00df 25 = .ok (.return_, 1) := by decide +kernel
theorem dr_cJx4a65c_add_7a177_0 : decode cJx4a65c_add_7a177 0 = .ok (.aload_n 0, 1) := by decide +kernel
theorem dr_cJx4a65c_add_7a177_1 : decode cJx4a65c_add_7a177 1 = .ok (.iload_n 1, 1) := by decide +kernel
theorem dr_cJx4a65c_add_7a177_2 : decode cJx4a65c_add_7a177 2 = .ok (.invokevirtual 135, 3) := by decide +kernel
theorem wr_10_211 : (Jvm.Cond.methodLink "java/util/ArrayList" (135 : Nat) ({ cls := "java/util/ArrayList", name := "rangeCheckForAdd", desc := "(I)V" } : Jvm.MethodName)) ∈ gw := gw_10 211 rfl rfl
theorem wr_10_214 : (Jvm.Cond.code ({ cls := "java/util/ArrayList", name := "rangeCheckForAdd", desc := "(I)V" } : Jvm.MethodName) prog_43_method_45_code (2 : Nat) (Option.none : Option Jvm.ClassFile.FieldType)) ∈ gw := gw_10 214 rfl rfl
theorem wr_10_213 : (Jvm.Cond.instanceMethod ({ cls := "java/util/ArrayList", name := "rangeCheckForAdd", desc := "(I)V" } : Jvm.MethodName)) ∈ gw := gw_10 213 rfl rfl
theorem wr_p_97 : Cond.selects "java/util/ArrayList" ⟨"java/util/ArrayList", "rangeCheckForAdd", "(I)V"⟩ ⟨"java/util/ArrayList", "rangeCheckForAdd", "(I)V"⟩ ∈ gw := gw_p _ 97 rfl rfl rfl
theorem dr_cJx4a65c_add_7a177_5 : decode cJx4a65c_add_7a177 5 = .ok (.aload_n 0, 1) := by decide +kernel
theorem dr_cJx4a65c_add_7a177_6 : decode cJx4a65c_add_7a177 6 = .ok (.dup, 1) := by decide +kernel
theorem dr_cJx4a65c_add_7a177_7 : decode cJx4a65c_add_7a177 7 = .ok (.getfield 63, 3) := by decide +kernel
theorem dr_cJx4a65c_add_7a177_10 : decode cJx4a65c_add_7a177 10 = .ok (.iconst 1, 1) := by decide +kernel
theorem dr_cJx4a65c_add_7a177_11 : decode cJx4a65c_add_7a177 11 = .ok (.iadd, 1) := by decide +kernel
theorem dr_cJx4a65c_add_7a177_12 : decode cJx4a65c_add_7a177 12 = .ok (.putfield 63, 3) := by decide +kernel
theorem dr_cJx4a65c_add_7a177_15 : decode cJx4a65c_add_7a177 15 = .ok (.aload_n 0, 1) := by decide +kernel
theorem dr_cJx4a65c_add_7a177_16 : decode cJx4a65c_add_7a177 16 = .ok (.getfield 48, 3) := by decide +kernel
theorem dr_cJx4a65c_add_7a177_19 : decode cJx4a65c_add_7a177 19 = .ok (.dup, 1) := by decide +kernel
theorem dr_cJx4a65c_add_7a177_20 : decode cJx4a65c_add_7a177 20 = .ok (.istore_n 3, 1) := by decide +kernel
theorem dr_cJx4a65c_add_7a177_21 : decode cJx4a65c_add_7a177 21 = .ok (.aload_n 0, 1) := by decide +kernel
theorem dr_cJx4a65c_add_7a177_22 : decode cJx4a65c_add_7a177 22 = .ok (.getfield 9, 3) := by decide +kernel
theorem dr_cJx4a65c_add_7a177_25 : decode cJx4a65c_add_7a177 25 = .ok (.dup, 1) := by decide +kernel
theorem dr_cJx4a65c_add_7a177_26 : decode cJx4a65c_add_7a177 26 = .ok (.astore 4, 2) := by decide +kernel
theorem dr_cJx4a65c_add_7a177_28 : decode cJx4a65c_add_7a177 28 = .ok (.arraylength, 1) := by decide +kernel
theorem dr_cJx4a65c_add_7a177_29 : decode cJx4a65c_add_7a177 29 = .ok (.if_icmp .ne 9, 3) := by decide +kernel
theorem dr_cJx4a65c_add_7a177_38 : decode cJx4a65c_add_7a177 38 = .ok (.aload 4, 2) := by decide +kernel
theorem dr_cJx4a65c_add_7a177_40 : decode cJx4a65c_add_7a177 40 = .ok (.iload_n 1, 1) := by decide +kernel
theorem dr_cJx4a65c_add_7a177_41 : decode cJx4a65c_add_7a177 41 = .ok (.aload 4, 2) := by decide +kernel
theorem dr_cJx4a65c_add_7a177_43 : decode cJx4a65c_add_7a177 43 = .ok (.iload_n 1, 1) := by decide +kernel
theorem dr_cJx4a65c_add_7a177_44 : decode cJx4a65c_add_7a177 44 = .ok (.iconst 1, 1) := by decide +kernel
theorem dr_cJx4a65c_add_7a177_45 : decode cJx4a65c_add_7a177 45 = .ok (.iadd, 1) := by decide +kernel
theorem dr_cJx4a65c_add_7a177_46 : decode cJx4a65c_add_7a177 46 = .ok (.iload_n 3, 1) := by decide +kernel
theorem dr_cJx4a65c_add_7a177_47 : decode cJx4a65c_add_7a177 47 = .ok (.iload_n 1, 1) := by decide +kernel
theorem dr_cJx4a65c_add_7a177_48 : decode cJx4a65c_add_7a177 48 = .ok (.isub, 1) := by decide +kernel
theorem dr_cJx4a65c_add_7a177_49 : decode cJx4a65c_add_7a177 49 = .ok (.invokestatic 112, 3) := by decide +kernel
theorem wr_10_228 : (Jvm.Cond.methodLink "java/util/ArrayList" (112 : Nat) ({ cls := "java/lang/System", name := "arraycopy", desc := "(Ljava/lang/Object;ILjava/lang/Object;II)V" } : Jvm.MethodName)) ∈ gw := gw_10 228 rfl rfl
theorem dr_cJx4a65c_add_7a177_52 : decode cJx4a65c_add_7a177 52 = .ok (.aload 4, 2) := by decide +kernel
theorem dr_cJx4a65c_add_7a177_54 : decode cJx4a65c_add_7a177 54 = .ok (.iload_n 1, 1) := by decide +kernel
theorem dr_cJx4a65c_add_7a177_55 : decode cJx4a65c_add_7a177 55 = .ok (.aload_n 2, 1) := by decide +kernel
theorem dr_cJx4a65c_add_7a177_56 : decode cJx4a65c_add_7a177 56 = .ok (.aastore, 1) := by decide +kernel
theorem dr_cJx4a65c_add_7a177_57 : decode cJx4a65c_add_7a177 57 = .ok (.aload_n 0, 1) := by decide +kernel
theorem dr_cJx4a65c_add_7a177_58 : decode cJx4a65c_add_7a177 58 = .ok (.iload_n 3, 1) := by decide +kernel
theorem dr_cJx4a65c_add_7a177_59 : decode cJx4a65c_add_7a177 59 = .ok (.iconst 1, 1) := by decide +kernel
theorem dr_cJx4a65c_add_7a177_60 : decode cJx4a65c_add_7a177 60 = .ok (.iadd, 1) := by decide +kernel
theorem dr_cJx4a65c_add_7a177_61 : decode cJx4a65c_add_7a177 61 = .ok (.putfield 48, 3) := by decide +kernel
theorem dr_cJx4a65c_add_7a177_64 : decode cJx4a65c_add_7a177 64 = .ok (.return_, 1) := by decide +kernel
abbrev ky_276_ArrayList_add : gKey := (cJx4a65c_add_9ea2d, 2, "java/util/ArrayList", (some FieldType.boolean), [], "add", fun _ _ => True)
def pp_276_ArrayList_add (D : va_G) (I : FieldType → ClassId) (P255 : List Nat) (F256 : Nat → va_E) (q257 : Nat) (q258 : Nat) (q259 : Nat) (p260 : Int32) (p261 : Int32) (p262 : Int32) (p263 : Int32) (p264 : Int32) (p265 : Int32) (p266 : Int32) (p267 : Int32) (p268 : Int32) (f269 : Nat → Option Nat) (n270 : Nat) : Option Value → va_W → Nat → Nat → Prop := fun r w dc ds => ∃ (P591 : List Nat) (F592 : Nat → va_E) (o586 : Int32) (o587 : Int32) (q588 : Nat) (n589 : Nat) (f590 : Nat → Option Nat), r = some (.int 1) ∧ w = va_pl P591 F592 ∧ rSub P255 P591 ∧ rFr [q257] P255 F256 F592 ∧ F592 q258 = .inr (20, [.int p262, .int p263, .int p264, .int p265, .int p266, .int p267, .int p268]) ∧ F592 q257 = .inr (4, [.int o586, .ref q588, .int o587]) ∧ F592 q588 = .inl (I (.object "java/lang/Object"), n589, .inr (.inr (.inr (.inr f590)))) ∧ q588 ∈ P591 ∧ q588 ∉ P255 ∧ dc ≤ 1 ∧ ds ≤ n270 + n270 / 2 + 1 ∧ gB o587 1 16777217 ∧ o587.toInt = p261.toInt + 1 ∧ ((∀ j : Nat, (j : Int) < p261.toInt → f590 j = f269 j) ∧ f590 p261.toInt.toNat = some q258) ∧ rSrcX f590 f269 q258 ∧ ((n589 : Int) ≤ (n270 : Int) + (n270 : Int) / 2 + 1 ∧ (n270 : Int) + 1 ≤ (n589 : Int) ∧ (n270 : Int) + (n270 : Int) / 2 ≤ (n589 : Int))
set_option maxRecDepth 100000 in
set_option maxHeartbeats 4000000 in
theorem cp_276_ArrayList_add (l : Launch) (hl0 : l.stackTraces = false) (D : va_G) (I : FieldType → ClassId) (P255 : List Nat) (F256 : Nat → va_E) (q257 : Nat) (q258 : Nat) (q259 : Nat) (p260 : Int32) (p261 : Int32) (p262 : Int32) (p263 : Int32) (p264 : Int32) (p265 : Int32) (p266 : Int32) (p267 : Int32) (p268 : Int32) (f269 : Nat → Option Nat) (n270 : Nat) (hmq257 : q257 ∈ P255) (hmq258 : q258 ∈ P255) (hmq259 : q259 ∈ P255) (heq257 : F256 q257 = .inr (4, [.int p260, .ref q259, .int p261])) (heq258 : F256 q258 = .inr (20, [.int p262, .int p263, .int p264, .int p265, .int p266, .int p267, .int p268])) (heq259 : F256 q259 = .inl (I (.object "java/lang/Object"), n270, .inr (.inr (.inr (.inr f269))))) (bp261 : gB p261 0 16777216) (bp262 : gB p262 0 32) (bp263 : gB p263 0 1999) (bp266 : gB p266 0 1999) (bp267 : gB p267 0 1) (bp268 : gB p268 0 1) (x271 : 0 < (n270 : Int)) (x272 : (n270 : Int) ≤ 1000000) (x273 : p261.toInt = (n270 : Int)) (x274 : rEl P255 F256 f269) (x275 : ((n270 : Int) ≤ 16777216)) : CtA (gV D I) l yJx4a65c_add_9ea2d cJx4a65c_add_9ea2d 2 (some FieldType.boolean) 6 128 1 (n270 + n270 / 2 + 1) [.ref q257, .ref q258] (va_pl P255 F256) (pp_276_ArrayList_add D I P255 F256 q257 q258 q259 p260 p261 p262 p263 p264 p265 p266 p267 p268 f269 n270) gNA := by
  refine CtA_ofF hl0 (by decide +kernel) (Nat.le_of_ble_eq_true rfl) ?_
  have bp260 := gB_any p260
  have bp264 := gB_any p264
  have bp265 := gB_any p265
  refine G_aload_n 0 dr_cJx4a65c_add_9ea2d_0 rfl ?_
  refine G_dup dr_cJx4a65c_add_9ea2d_1 rfl ?_
  refine Gp_getS 0 hmq257 heq257 dr_cJx4a65c_add_9ea2d_2 (gk_Jx4a65c D I) (Nat.le_of_ble_eq_true rfl) wr_7_20 wr_7_21 rfl ?_
  refine G_iconst 1 dr_cJx4a65c_add_9ea2d_5 (by decide +kernel) ?_
  refine G_iadd dr_cJx4a65c_add_9ea2d_6 (G_nam fun z277 hz277 => ?_)
  have bz277 : gB z277 (-2147483648) 2147483647 := gB_any z277
  refine Gp_putS 0 hmq257 heq257 dr_cJx4a65c_add_9ea2d_7 (gk_Jx4a65c D I) (Nat.le_of_ble_eq_true rfl) wr_7_20 wr_7_21 rfl rfl rfl (Nat.le_of_ble_eq_true rfl) (fun F278 e279 n280 => ?_)
  have he281 : F278 q258 = .inr (20, [.int p262, .int p263, .int p264, .int p265, .int p266, .int p267, .int p268]) := (n280 q258 (rn_oo heq258 heq257 (by decide))).trans heq258
  have he282 : F278 q259 = .inl (I (.object "java/lang/Object"), n270, .inr (.inr (.inr (.inr f269)))) := (n280 q259 (rn_ao heq259 heq257)).trans heq259
  have he283 : F278 q257 = .inr (4, [.int z277, .ref q259, .int p261]) := e279
  have hfr284 : rFr [q257] P255 F256 F278 := rFr_put (rFr_rf (W := []) (P := P255) (F := F256)) n280
  refine G_aload_n 0 dr_cJx4a65c_add_9ea2d_10 rfl ?_
  refine G_aload_n 1 dr_cJx4a65c_add_9ea2d_11 rfl ?_
  refine G_aload_n 0 dr_cJx4a65c_add_9ea2d_12 rfl ?_
  refine Gp_get 1 hmq257 he283 dr_cJx4a65c_add_9ea2d_13 (gk_Jx4a65c D I) (Nat.le_of_ble_eq_true rfl) wr_7_17 rfl ?_
  refine G_aload_n 0 dr_cJx4a65c_add_9ea2d_16 rfl ?_
  refine Gp_get 2 hmq257 he283 dr_cJx4a65c_add_9ea2d_17 (gk_Jx4a65c D I) (Nat.le_of_ble_eq_true rfl) wr_7_18 rfl ?_
  refine Gw_callV (As := [.ref q258, .ref q259, .int p261]) (gV_ok D I) (cp_308_ArrayList_add l hl0 D I P255 F278 q257 q258 q259 p261 z277 p261 p262 p263 p264 p265 p266 p267 p268 f269 n270 hmq257 hmq258 hmq259 he283 he281 he282 bp261 bp261 bp262 bp263 bp266 bp267 bp268 (by omega) (by omega) (by omega) (by omega) (rEl_frG (rEl_src x274 rSrc_rf) (rSub_rf (P := P255)) hfr284 (rNg_c (rNg_o heq257 (by decide) (by decide)) rNg_n)) (by omega)) dr_cJx4a65c_add_9ea2d_20 ⟨wr_10_7, wr_1_18, wr_10_10, by decide, rfl, (Nat.le_of_ble_eq_true rfl), (Nat.le_of_ble_eq_true rfl)⟩ wr_10_9 wr_p_85 hmq257 he283 rfl (show 0 + 1 ≤ 1 by first | omega | decide) (show 0 + (n270 + n270 / 2 + 1) ≤ (n270 + n270 / 2 + 1) by first | omega | decide) (Nat.le_of_ble_eq_true rfl) (fun r560 w561 dc557 ds558 hp559 => ?_) (fun _ _ _ _ _ z => z.elim)
  obtain ⟨P570, F571, o562, q563, n564, f565, rfl, rfl, hsb572, hfr573, he574, he575, he576, he577, hm578, hq579, hdc, hds, bo562, x566, x567, x568, x569⟩ := hp559
  have hm580 : q257 ∈ P570 := hsb572 q257 hmq257
  have hm581 : q258 ∈ P570 := hsb572 q258 hmq258
  have hm582 : q259 ∈ P570 := hsb572 q259 hmq259
  have hq583 : q563 ∉ P255 := fun z => hq579 ((rSub_rf (P := P255)) q563 z)
  have hsb584 : rSub P255 P570 := rSub_tr (rSub_rf (P := P255)) hsb572
  have hfr585 : rFr [q257] P255 F256 F571 := rFr_call (rSub_rf (P := P255)) hfr284 hfr573 (fun b hb hn => ⟨(nm_c (fun e => hn (e ▸ List.mem_cons_self)) nm_n), (nm_c (fun e => hn (e ▸ List.mem_cons_self)) nm_n)⟩)
  change G _ _ _ _ _ _ _ _ _ _ _
  refine G_widen (cs' := 1) (sl' := n270 + n270 / 2 + 1) (by omega) (by omega) ?_
  refine G_iconst 1 dr_cJx4a65c_add_9ea2d_23 (by decide +kernel) ?_
  exact G_zretA FieldType.boolean dr_cJx4a65c_add_9ea2d_24 rfl rfl (Nat.le_of_ble_eq_true rfl) (show n270 + n270 / 2 + 1 ≤ (n270 + n270 / 2 + 1) by omega) ⟨P570, F571, z277, o562, q563, n564, f565, rfl, rfl, hsb584, hfr585, he574, he576, he577, hm578, hq583, (Nat.le_of_ble_eq_true rfl), (by omega), bo562, (by omega), (by assumption), (by assumption), (by omega)⟩
abbrev ky_640_ArrayList_add : gKey := (cJx4a65c_add_72be8, 4, "java/util/ArrayList", none, [], "add", fun _ _ => True)
def pp_640_ArrayList_add (D : va_G) (I : FieldType → ClassId) (P620 : List Nat) (F621 : Nat → va_E) (q622 : Nat) (q623 : Nat) (q624 : Nat) (p625 : Int32) (p626 : Int32) (p627 : Int32) (qo628 : Nat) (qo629 : Nat) (p630 : Int32) (p631 : Int32) (f632 : Nat → Option Nat) (n633 : Nat) : Option Value → va_W → Nat → Nat → Prop := fun r w dc ds => ∃ (P694 : List Nat) (F695 : Nat → va_E) (o690 : Int32) (q691 : Nat) (n692 : Nat) (f693 : Nat → Option Nat), r = none ∧ w = va_pl P694 F695 ∧ rSub P620 P694 ∧ rFr [q622] P620 F621 F695 ∧ F695 q623 = .inr (17, [.ref qo628, .ref qo629, .int p630, .int p631]) ∧ F695 q624 = .inl (I (.object "java/lang/Object"), n633, .inr (.inr (.inr (.inr f632)))) ∧ F695 q622 = .inr (4, [.int p626, .ref q691, .int o690]) ∧ F695 q691 = .inl (I (.object "java/lang/Object"), n692, .inr (.inr (.inr (.inr f693)))) ∧ q691 ∈ P694 ∧ q691 ∉ P620 ∧ dc ≤ 1 ∧ ds ≤ n633 + n633 / 2 + 1 ∧ gB o690 1 16777217 ∧ o690.toInt = p627.toInt + 1 ∧ ((∀ j : Nat, (j : Int) < p627.toInt → f693 j = f632 j) ∧ f693 p625.toInt.toNat = some q623) ∧ rSrcX f693 f632 q623 ∧ ((n692 : Int) ≤ (n633 : Int) + (n633 : Int) / 2 + 1 ∧ (n633 : Int) + 1 ≤ (n692 : Int) ∧ (n633 : Int) + (n633 : Int) / 2 ≤ (n692 : Int))
set_option maxRecDepth 100000 in
set_option maxHeartbeats 4000000 in
theorem cp_640_ArrayList_add (l : Launch) (hl0 : l.stackTraces = false) (D : va_G) (I : FieldType → ClassId) (P620 : List Nat) (F621 : Nat → va_E) (q622 : Nat) (q623 : Nat) (q624 : Nat) (p625 : Int32) (p626 : Int32) (p627 : Int32) (qo628 : Nat) (qo629 : Nat) (p630 : Int32) (p631 : Int32) (f632 : Nat → Option Nat) (n633 : Nat) (hmq622 : q622 ∈ P620) (hmq623 : q623 ∈ P620) (hmq624 : q624 ∈ P620) (heq622 : F621 q622 = .inr (4, [.int p626, .ref q624, .int p627])) (heq623 : F621 q623 = .inr (17, [.ref qo628, .ref qo629, .int p630, .int p631])) (heq624 : F621 q624 = .inl (I (.object "java/lang/Object"), n633, .inr (.inr (.inr (.inr f632))))) (bp625 : gB p625 0 16777216) (bp627 : gB p627 0 16777216) (bp630 : gB p630 0 39) (bp631 : gB p631 0 39) (x634 : 0 < (n633 : Int)) (x635 : (n633 : Int) ≤ 1000000) (x636 : p627.toInt = (n633 : Int)) (x637 : p625.toInt = p627.toInt) (x638 : rEl P620 F621 f632) (x639 : ((n633 : Int) ≤ 16777216)) : CtA (gV D I) l yJx4a65c_add_72be8 cJx4a65c_add_72be8 4 none 5 105 1 (n633 + n633 / 2 + 1) [.ref q622, .ref q623, .ref q624, .int p625] (va_pl P620 F621) (pp_640_ArrayList_add D I P620 F621 q622 q623 q624 p625 p626 p627 qo628 qo629 p630 p631 f632 n633) gNA := by
  refine CtA_ofF hl0 (by decide +kernel) (Nat.le_of_ble_eq_true rfl) ?_
  have bp626 := gB_any p626
  refine G_iload_n 3 dr_cJx4a65c_add_72be8_0 rfl ?_
  refine G_aload_n 2 dr_cJx4a65c_add_72be8_1 rfl ?_
  refine Gp_alen (Int32.ofNat n633) 4 hmq624 heq624 dr_cJx4a65c_add_72be8_2 rfl rfl (G_nam fun z641 hz641 => ?_)
  have ez641 : z641.toInt = (n633 : Nat) := gI_ofM hz641 (by omega)
  have bz641 : gB z641 0 16777216 := ⟨by omega, by omega⟩
  refine G_icmp_ne 11 dr_cJx4a65c_add_72be8_3 (by decide +kernel) (fun hc => absurd (show False by have := gC_ne hc; omega) not_false) (fun hc642 => ?_)
  have r644 : p625.toInt = z641.toInt := gC_eq hc642
  refine G_aload_n 0 dr_cJx4a65c_add_72be8_6 rfl ?_
  refine Gw_callV (As := []) (gV_ok D I) (cp_326_ArrayList_grow l hl0 D I P620 F621 q622 q624 p626 p627 f632 n633 hmq622 hmq624 heq622 heq624 bp627 (by omega) (by omega) (by omega) (rEl_frG (rEl_src x638 rSrc_rf) (rSub_rf (P := P620)) (rFr_rf (W := []) (P := P620) (F := F621)) rNg_n) (by omega)) dr_cJx4a65c_add_72be8_7 ⟨wr_10_11, wr_1_18, wr_10_14, by decide, rfl, (Nat.le_of_ble_eq_true rfl), (Nat.le_of_ble_eq_true rfl)⟩ wr_10_13 wr_p_86 hmq622 heq622 rfl (show 0 + 1 ≤ 1 by first | omega | decide) (show 0 + (n633 + n633 / 2 + 1) ≤ (n633 + n633 / 2 + 1) by first | omega | decide) (Nat.le_of_ble_eq_true rfl) (fun r648 w649 dc645 ds646 hp647 => ?_) (fun _ _ _ _ _ z => z.elim)
  obtain ⟨P656, F657, q650, n651, f652, rfl, rfl, hsb658, hfr659, he660, he661, hm662, hq663, hdc, hds, x653, x654, x655⟩ := hp647
  have hm664 : q622 ∈ P656 := hsb658 q622 hmq622
  have hm665 : q623 ∈ P656 := hsb658 q623 hmq623
  have hm666 : q624 ∈ P656 := hsb658 q624 hmq624
  have hq667 : q650 ∉ P620 := fun z => hq663 ((rSub_rf (P := P620)) q650 z)
  have hsb668 : rSub P620 P656 := rSub_tr (rSub_rf (P := P620)) hsb658
  have he669 : F657 q623 = .inr (17, [.ref qo628, .ref qo629, .int p630, .int p631]) := (hfr659 q623 hmq623 (nm_c (rn_oo heq623 heq622 (by decide)) nm_n)).trans heq623
  have he670 : F657 q624 = .inl (I (.object "java/lang/Object"), n633, .inr (.inr (.inr (.inr f632)))) := (hfr659 q624 hmq624 (nm_c (rn_ao heq624 heq622) nm_n)).trans heq624
  have hfr671 : rFr [q622] P620 F621 F657 := rFr_call (rSub_rf (P := P620)) (rFr_rf (W := []) (P := P620) (F := F621)) hfr659 (fun b hb hn => ⟨nm_n, (nm_c (fun e => hn (e ▸ List.mem_cons_self)) nm_n)⟩)
  change G _ _ _ _ _ _ _ (.ref q650 :: _) _ _ _
  refine G_widen (cs' := 1) (sl' := n633 + n633 / 2 + 1) (by omega) (by omega) ?_
  refine G_astore_n (L' := [(2, .ref q650), (0, .ref q622), (1, .ref q623), (3, .int p625)]) dr_cJx4a65c_add_72be8_10 (Nat.le_of_ble_eq_true rfl) rfl ?_
  refine G_aload_n 0 dr_cJx4a65c_add_72be8_11 rfl ?_
  refine G_iload_n 3 dr_cJx4a65c_add_72be8_12 rfl ?_
  refine G_aload_n 2 dr_cJx4a65c_add_72be8_13 rfl ?_
  refine Gp_aast 4 hm662 he661 dr_cJx4a65c_add_72be8_14 rfl ⟨hm665, _, _, _, _, _, he669, rfl, gr_cast 2 rfl⟩ (gB_inr (by omega) (by omega)) (fun F672 e673 n674 => ?_)
  obtain ⟨f675, hf675⟩ : ∃ z, z = va_up f652 p625.toNatClampNeg (some q623) := ⟨_, rfl⟩
  rw [← hf675] at e673
  have he676 : F672 q623 = .inr (17, [.ref qo628, .ref qo629, .int p630, .int p631]) := (n674 q623 (fun h => hq667 (h ▸ hmq623))).trans he669
  have he677 : F672 q624 = .inl (I (.object "java/lang/Object"), n633, .inr (.inr (.inr (.inr f632)))) := (n674 q624 (fun h => hq667 (h ▸ hmq624))).trans he670
  have he678 : F672 q622 = .inr (4, [.int p626, .ref q650, .int p627]) := (n674 q622 (fun h => hq667 (h ▸ hmq622))).trans he660
  have he679 : F672 q650 = .inl (I (.object "java/lang/Object"), n651, .inr (.inr (.inr (.inr f675)))) := e673
  have hfr680 : rFr [q622] P620 F621 F672 := rFr_newp hq667 hfr671 n674
  refine G_aload_n 1 dr_cJx4a65c_add_72be8_15 rfl ?_
  refine G_iload_n 3 dr_cJx4a65c_add_72be8_16 rfl ?_
  refine G_iconst 1 dr_cJx4a65c_add_72be8_17 (by decide +kernel) ?_
  refine G_iadd dr_cJx4a65c_add_72be8_18 (G_nam fun z681 hz681 => ?_)
  have ez681 : z681.toInt = p625.toInt + 1 := by rw [gI_add hz681 bp625 (gBl (show Int32.toInt 1 = 1 by decide)) (by decide) (by decide), show Int32.toInt 1 = 1 from by decide]
  have bz681 : gB z681 1 16777217 := gB_add (gI_add hz681 bp625 (gBl (show Int32.toInt 1 = 1 by decide)) (by decide) (by decide)) bp625 (gBl (show Int32.toInt 1 = 1 by decide)) (by decide) (by decide)
  refine Gp_put 2 hm664 he678 dr_cJx4a65c_add_72be8_19 (gk_Jx4a65c D I) (Nat.le_of_ble_eq_true rfl) wr_7_18 rfl rfl rfl (Nat.le_of_ble_eq_true rfl) (fun F682 e683 n684 => ?_)
  have he685 : F682 q623 = .inr (17, [.ref qo628, .ref qo629, .int p630, .int p631]) := (n684 q623 (rn_oo he676 he678 (by decide))).trans he676
  have he686 : F682 q624 = .inl (I (.object "java/lang/Object"), n633, .inr (.inr (.inr (.inr f632)))) := (n684 q624 (rn_ao he677 he678)).trans he677
  have he687 : F682 q650 = .inl (I (.object "java/lang/Object"), n651, .inr (.inr (.inr (.inr f675)))) := (n684 q650 (fun h => hq667 (h ▸ hmq622))).trans he679
  have he688 : F682 q622 = .inr (4, [.int p626, .ref q650, .int z681]) := e683
  have hfr689 : rFr [q622] P620 F621 F682 := rFr_put' List.mem_cons_self hfr680 n684
  exact G_vretA dr_cJx4a65c_add_72be8_22 rfl (Nat.le_of_ble_eq_true rfl) (show n633 + n633 / 2 + 1 ≤ (n633 + n633 / 2 + 1) by omega) ⟨P656, F682, z681, q650, n651, f675, rfl, rfl, hsb668, hfr689, he685, he686, he688, he687, hm662, hq667, (Nat.le_of_ble_eq_true rfl), (by omega), bz681, (by omega), (rI_add (fun j hj => x653 j (by omega)) hf675 (by omega) (by omega)), (rSrcX_up hf675 (rSrc_tr x654 rSrc_rf)), (by omega)⟩
abbrev ky_611_ArrayList_add : gKey := (cJx4a65c_add_9ea2d, 2, "java/util/ArrayList", (some FieldType.boolean), [], "add", fun _ _ => True)
def pp_611_ArrayList_add (D : va_G) (I : FieldType → ClassId) (P593 : List Nat) (F594 : Nat → va_E) (q595 : Nat) (q596 : Nat) (q597 : Nat) (p598 : Int32) (p599 : Int32) (qo600 : Nat) (qo601 : Nat) (p602 : Int32) (p603 : Int32) (f604 : Nat → Option Nat) (n605 : Nat) : Option Value → va_W → Nat → Nat → Prop := fun r w dc ds => ∃ (P730 : List Nat) (F731 : Nat → va_E) (o725 : Int32) (o726 : Int32) (q727 : Nat) (n728 : Nat) (f729 : Nat → Option Nat), r = some (.int 1) ∧ w = va_pl P730 F731 ∧ rSub P593 P730 ∧ rFr [q595] P593 F594 F731 ∧ F731 q596 = .inr (17, [.ref qo600, .ref qo601, .int p602, .int p603]) ∧ F731 q595 = .inr (4, [.int o725, .ref q727, .int o726]) ∧ F731 q727 = .inl (I (.object "java/lang/Object"), n728, .inr (.inr (.inr (.inr f729)))) ∧ q727 ∈ P730 ∧ q727 ∉ P593 ∧ dc ≤ 1 ∧ ds ≤ n605 + n605 / 2 + 1 ∧ gB o726 1 16777217 ∧ o726.toInt = p599.toInt + 1 ∧ ((∀ j : Nat, (j : Int) < p599.toInt → f729 j = f604 j) ∧ f729 p599.toInt.toNat = some q596) ∧ rSrcX f729 f604 q596 ∧ ((n728 : Int) ≤ (n605 : Int) + (n605 : Int) / 2 + 1 ∧ (n605 : Int) + 1 ≤ (n728 : Int) ∧ (n605 : Int) + (n605 : Int) / 2 ≤ (n728 : Int))
set_option maxRecDepth 100000 in
set_option maxHeartbeats 4000000 in
theorem cp_611_ArrayList_add (l : Launch) (hl0 : l.stackTraces = false) (D : va_G) (I : FieldType → ClassId) (P593 : List Nat) (F594 : Nat → va_E) (q595 : Nat) (q596 : Nat) (q597 : Nat) (p598 : Int32) (p599 : Int32) (qo600 : Nat) (qo601 : Nat) (p602 : Int32) (p603 : Int32) (f604 : Nat → Option Nat) (n605 : Nat) (hmq595 : q595 ∈ P593) (hmq596 : q596 ∈ P593) (hmq597 : q597 ∈ P593) (heq595 : F594 q595 = .inr (4, [.int p598, .ref q597, .int p599])) (heq596 : F594 q596 = .inr (17, [.ref qo600, .ref qo601, .int p602, .int p603])) (heq597 : F594 q597 = .inl (I (.object "java/lang/Object"), n605, .inr (.inr (.inr (.inr f604))))) (bp599 : gB p599 0 16777216) (bp602 : gB p602 0 39) (bp603 : gB p603 0 39) (x606 : 0 < (n605 : Int)) (x607 : (n605 : Int) ≤ 1000000) (x608 : p599.toInt = (n605 : Int)) (x609 : rEl P593 F594 f604) (x610 : ((n605 : Int) ≤ 16777216)) : CtA (gV D I) l yJx4a65c_add_9ea2d cJx4a65c_add_9ea2d 2 (some FieldType.boolean) 6 128 1 (n605 + n605 / 2 + 1) [.ref q595, .ref q596] (va_pl P593 F594) (pp_611_ArrayList_add D I P593 F594 q595 q596 q597 p598 p599 qo600 qo601 p602 p603 f604 n605) gNA := by
  refine CtA_ofF hl0 (by decide +kernel) (Nat.le_of_ble_eq_true rfl) ?_
  have bp598 := gB_any p598
  refine G_aload_n 0 dr_cJx4a65c_add_9ea2d_0 rfl ?_
  refine G_dup dr_cJx4a65c_add_9ea2d_1 rfl ?_
  refine Gp_getS 0 hmq595 heq595 dr_cJx4a65c_add_9ea2d_2 (gk_Jx4a65c D I) (Nat.le_of_ble_eq_true rfl) wr_7_20 wr_7_21 rfl ?_
  refine G_iconst 1 dr_cJx4a65c_add_9ea2d_5 (by decide +kernel) ?_
  refine G_iadd dr_cJx4a65c_add_9ea2d_6 (G_nam fun z612 hz612 => ?_)
  have bz612 : gB z612 (-2147483648) 2147483647 := gB_any z612
  refine Gp_putS 0 hmq595 heq595 dr_cJx4a65c_add_9ea2d_7 (gk_Jx4a65c D I) (Nat.le_of_ble_eq_true rfl) wr_7_20 wr_7_21 rfl rfl rfl (Nat.le_of_ble_eq_true rfl) (fun F613 e614 n615 => ?_)
  have he616 : F613 q596 = .inr (17, [.ref qo600, .ref qo601, .int p602, .int p603]) := (n615 q596 (rn_oo heq596 heq595 (by decide))).trans heq596
  have he617 : F613 q597 = .inl (I (.object "java/lang/Object"), n605, .inr (.inr (.inr (.inr f604)))) := (n615 q597 (rn_ao heq597 heq595)).trans heq597
  have he618 : F613 q595 = .inr (4, [.int z612, .ref q597, .int p599]) := e614
  have hfr619 : rFr [q595] P593 F594 F613 := rFr_put (rFr_rf (W := []) (P := P593) (F := F594)) n615
  refine G_aload_n 0 dr_cJx4a65c_add_9ea2d_10 rfl ?_
  refine G_aload_n 1 dr_cJx4a65c_add_9ea2d_11 rfl ?_
  refine G_aload_n 0 dr_cJx4a65c_add_9ea2d_12 rfl ?_
  refine Gp_get 1 hmq595 he618 dr_cJx4a65c_add_9ea2d_13 (gk_Jx4a65c D I) (Nat.le_of_ble_eq_true rfl) wr_7_17 rfl ?_
  refine G_aload_n 0 dr_cJx4a65c_add_9ea2d_16 rfl ?_
  refine Gp_get 2 hmq595 he618 dr_cJx4a65c_add_9ea2d_17 (gk_Jx4a65c D I) (Nat.le_of_ble_eq_true rfl) wr_7_18 rfl ?_
  refine Gw_callV (As := [.ref q596, .ref q597, .int p599]) (gV_ok D I) (cp_640_ArrayList_add l hl0 D I P593 F613 q595 q596 q597 p599 z612 p599 qo600 qo601 p602 p603 f604 n605 hmq595 hmq596 hmq597 he618 he616 he617 bp599 bp599 bp602 bp603 (by omega) (by omega) (by omega) (by omega) (rEl_frG (rEl_src x609 rSrc_rf) (rSub_rf (P := P593)) hfr619 (rNg_c (rNg_o heq595 (by decide) (by decide)) rNg_n)) (by omega)) dr_cJx4a65c_add_9ea2d_20 ⟨wr_10_7, wr_1_18, wr_10_10, by decide, rfl, (Nat.le_of_ble_eq_true rfl), (Nat.le_of_ble_eq_true rfl)⟩ wr_10_9 wr_p_85 hmq595 he618 rfl (show 0 + 1 ≤ 1 by first | omega | decide) (show 0 + (n605 + n605 / 2 + 1) ≤ (n605 + n605 / 2 + 1) by first | omega | decide) (Nat.le_of_ble_eq_true rfl) (fun r699 w700 dc696 ds697 hp698 => ?_) (fun _ _ _ _ _ z => z.elim)
  obtain ⟨P709, F710, o701, q702, n703, f704, rfl, rfl, hsb711, hfr712, he713, he714, he715, he716, hm717, hq718, hdc, hds, bo701, x705, x706, x707, x708⟩ := hp698
  have hm719 : q595 ∈ P709 := hsb711 q595 hmq595
  have hm720 : q596 ∈ P709 := hsb711 q596 hmq596
  have hm721 : q597 ∈ P709 := hsb711 q597 hmq597
  have hq722 : q702 ∉ P593 := fun z => hq718 ((rSub_rf (P := P593)) q702 z)
  have hsb723 : rSub P593 P709 := rSub_tr (rSub_rf (P := P593)) hsb711
  have hfr724 : rFr [q595] P593 F594 F710 := rFr_call (rSub_rf (P := P593)) hfr619 hfr712 (fun b hb hn => ⟨(nm_c (fun e => hn (e ▸ List.mem_cons_self)) nm_n), (nm_c (fun e => hn (e ▸ List.mem_cons_self)) nm_n)⟩)
  change G _ _ _ _ _ _ _ _ _ _ _
  refine G_widen (cs' := 1) (sl' := n605 + n605 / 2 + 1) (by omega) (by omega) ?_
  refine G_iconst 1 dr_cJx4a65c_add_9ea2d_23 (by decide +kernel) ?_
  exact G_zretA FieldType.boolean dr_cJx4a65c_add_9ea2d_24 rfl rfl (Nat.le_of_ble_eq_true rfl) (show n605 + n605 / 2 + 1 ≤ (n605 + n605 / 2 + 1) by omega) ⟨P709, F710, z612, o701, q702, n703, f704, rfl, rfl, hsb723, hfr724, he713, he715, he716, hm717, hq722, (Nat.le_of_ble_eq_true rfl), (by omega), bo701, (by omega), (by assumption), (by assumption), (by omega)⟩
abbrev ky_790_ArrayList_grow : gKey := (cJx4a65c_grow_92f84, 4, "java/util/ArrayList", (some (FieldType.array (FieldType.object "java/lang/Object"))), [], "grow", fun _ _ => True)
def pp_790_ArrayList_grow (D : va_G) (I : FieldType → ClassId) (P782 : List Nat) (F783 : Nat → va_E) (q784 : Nat) (p785 : Int32) (p786 : Int32) (p787 : Int32) : Option Value → va_W → Nat → Nat → Prop := fun r w dc ds => ∃ (P816 : List Nat) (F817 : Nat → va_E) (q814 : Nat) (n815 : Nat), r = some (.ref q814) ∧ w = va_pl P816 F817 ∧ rSub P782 P816 ∧ rFr [q784] P782 F783 F817 ∧ F817 q784 = .inr (4, [.int p786, .ref q814, .int p787]) ∧ F817 q814 = .inl (I (.object "java/lang/Object"), n815, .inr (.inr (.inr (.inr (fun _ => none))))) ∧ q814 ∈ P816 ∧ q814 ∉ P782 ∧ dc ≤ 1 ∧ ds ≤ 10 ∧ (n815 : Int) = 10
set_option maxRecDepth 100000 in
set_option maxHeartbeats 4000000 in
theorem cp_790_ArrayList_grow (l : Launch) (hl0 : l.stackTraces = false) (D : va_G) (I : FieldType → ClassId) (P782 : List Nat) (F783 : Nat → va_E) (q784 : Nat) (p785 : Int32) (p786 : Int32) (p787 : Int32) (hmq784 : q784 ∈ P782) (heq784 : F783 q784 = .inr (4, [.int p786, .ref (D.2 1002 1), .int p787])) (bp785 : gB p785 0 16777216) (bp787 : gB p787 0 16777216) (x788 : p787.toInt = 0) (x789 : p785.toInt = 1) : CtA (gV D I) l yJx4a65c_grow_92f84 cJx4a65c_grow_92f84 4 (some (FieldType.array (FieldType.object "java/lang/Object"))) 1 14 1 10 [.ref q784, .int p785] (va_pl P782 F783) (pp_790_ArrayList_grow D I P782 F783 q784 p785 p786 p787) gNA := by
  refine CtA_ofF hl0 (by decide +kernel) (Nat.le_of_ble_eq_true rfl) ?_
  have bp786 := gB_any p786
  refine G_aload_n 0 dr_cJx4a65c_grow_92f84_0 rfl ?_
  refine Gp_get 1 hmq784 heq784 dr_cJx4a65c_grow_92f84_1 (gk_Jx4a65c D I) (Nat.le_of_ble_eq_true rfl) wr_7_17 rfl ?_
  refine G_klen dr_cJx4a65c_grow_92f84_4 gr_dt ?_
  refine G_istore_n (L' := [(2, .int 0), (0, .ref q784), (1, .int p785)]) dr_cJx4a65c_grow_92f84_5 (Nat.le_of_ble_eq_true rfl) rfl ?_
  refine G_iload_n 0 dr_cJx4a65c_grow_92f84_6 rfl ?_
  refine G_if_gt 20 dr_cJx4a65c_grow_92f84_7 (by decide +kernel) (fun hc => absurd hc (by decide)) (fun _ => ?_)
  refine G_aload_n 1 dr_cJx4a65c_grow_92f84_10 rfl ?_
  refine Gp_get 1 hmq784 heq784 dr_cJx4a65c_grow_92f84_11 (gk_Jx4a65c D I) (Nat.le_of_ble_eq_true rfl) wr_7_17 rfl ?_
  refine G_gets dr_cJx4a65c_grow_92f84_14 wr_7_15 gr_de (fun x792 hx791 => ?_)
  subst hx791
  refine G_acmp_eq 45 dr_cJx4a65c_grow_92f84_17 (by decide +kernel) (fun _ => ?_) (fun hc => absurd rfl hc)
  refine G_aload_n 1 dr_cJx4a65c_grow_92f84_45 rfl ?_
  refine G_bipush 10 dr_cJx4a65c_grow_92f84_46 (by decide +kernel) ?_
  refine G_iload_n 2 dr_cJx4a65c_grow_92f84_48 rfl ?_
  refine G_mmax dr_cJx4a65c_grow_92f84_49 wr_10_60 wr_1_140 wr_1_6 wr_1_141 (Nat.le_of_ble_eq_true rfl) (Nat.le_of_ble_eq_true rfl) (show 0 ≤ 1 by first | omega | decide) (show 0 ≤ 10 by first | omega | decide) (G_nam fun z793 hz793 => ?_)
  have ez793 : 10 ≤ z793.toInt ∧ p785.toInt ≤ z793.toInt ∧ (z793.toInt = 10 ∨ z793.toInt = p785.toInt) := by have := gI_max hz793; rw [show Int32.toInt 10 = 10 from by decide] at this; omega
  have bz793 : gB z793 10 16777216 := ⟨by omega, by omega⟩
  refine Gp_newq (M := z793.toInt.toNat) 4 dr_cJx4a65c_grow_92f84_52 wr_10_61 gr_ao rfl (g_n0 (by omega)) rfl (show z793.toInt.toNat * 4 ≤ 536870912 by omega) (show 0 + 1 ≤ 1 by first | omega | decide) (show 0 + z793.toInt.toNat ≤ 10 by first | omega | decide) (fun q794 P795 F796 hq797 hP798 e799 n800 => ?_)
  refine G_widen (cs' := 1) (sl' := z793.toInt.toNat) (by omega) (by omega) ?_
  have he801 : F796 q784 = .inr (4, [.int p786, .ref (D.2 1002 1), .int p787]) := (n800 q784 (fun h => hq797 (h ▸ hmq784))).trans heq784
  have he802 : F796 q794 = .inl (I (.object "java/lang/Object"), z793.toInt.toNat, .inr (.inr (.inr (.inr (fun _ => none))))) := e799
  have hm803 : q784 ∈ P795 := (hP798 q784).mpr (Or.inl hmq784)
  have hm804 : q794 ∈ P795 := (hP798 q794).mpr (Or.inr rfl)
  have hq805 : q794 ∉ P782 := fun z => hq797 ((rSub_rf (P := P782)) q794 z)
  have hfr806 : rFr [] P782 F783 F796 := rFr_new (rSub_rf (P := P782)) hq797 (rFr_rf (W := []) (P := P782) (F := F783)) n800
  have hsb807 : rSub P782 P795 := rSub_new (rSub_rf (P := P782)) hP798
  refine G_dup_x1 dr_cJx4a65c_grow_92f84_55 rfl rfl ?_
  refine Gp_put 1 hm803 he801 dr_cJx4a65c_grow_92f84_56 (gk_Jx4a65c D I) (Nat.le_of_ble_eq_true rfl) wr_7_17 rfl rfl rfl (Nat.le_of_ble_eq_true rfl) (fun F808 e809 n810 => ?_)
  have he811 : F808 q794 = .inl (I (.object "java/lang/Object"), z793.toInt.toNat, .inr (.inr (.inr (.inr (fun _ => none))))) := (n810 q794 (fun h => hq805 (h ▸ hmq784))).trans he802
  have he812 : F808 q784 = .inr (4, [.int p786, .ref q794, .int p787]) := e809
  have hfr813 : rFr [q784] P782 F783 F808 := rFr_put hfr806 n810
  exact G_aretA (FieldType.array (FieldType.object "java/lang/Object")) dr_cJx4a65c_grow_92f84_59 rfl (by first | exact Or.inl ⟨_, rfl⟩ | exact Or.inr ⟨_, rfl⟩) (Or.inr ⟨_, rfl⟩) (Nat.le_of_ble_eq_true rfl) (show z793.toInt.toNat ≤ 10 by omega) ⟨P795, F808, q794, z793.toInt.toNat, rfl, rfl, hsb807, hfr813, he812, he811, hm804, hq805, (Nat.le_of_ble_eq_true rfl), (by omega), (by have qa0 : Int32.toInt 0 = 0 := (by decide); omega)⟩
abbrev ky_780_ArrayList_grow : gKey := (cJx4a65c_grow_d5877, 1, "java/util/ArrayList", (some (FieldType.array (FieldType.object "java/lang/Object"))), [], "grow", fun _ _ => True)
def pp_780_ArrayList_grow (D : va_G) (I : FieldType → ClassId) (P774 : List Nat) (F775 : Nat → va_E) (q776 : Nat) (p777 : Int32) (p778 : Int32) : Option Value → va_W → Nat → Nat → Prop := fun r w dc ds => ∃ (P840 : List Nat) (F841 : Nat → va_E) (q838 : Nat) (n839 : Nat), r = some (.ref q838) ∧ w = va_pl P840 F841 ∧ rSub P774 P840 ∧ rFr [q776] P774 F775 F841 ∧ F841 q776 = .inr (4, [.int p777, .ref q838, .int p778]) ∧ F841 q838 = .inl (I (.object "java/lang/Object"), n839, .inr (.inr (.inr (.inr (fun _ => none))))) ∧ q838 ∈ P840 ∧ q838 ∉ P774 ∧ dc ≤ 1 ∧ ds ≤ 10 ∧ (n839 : Int) = 10
set_option maxRecDepth 100000 in
set_option maxHeartbeats 4000000 in
theorem cp_780_ArrayList_grow (l : Launch) (hl0 : l.stackTraces = false) (D : va_G) (I : FieldType → ClassId) (P774 : List Nat) (F775 : Nat → va_E) (q776 : Nat) (p777 : Int32) (p778 : Int32) (hmq776 : q776 ∈ P774) (heq776 : F775 q776 = .inr (4, [.int p777, .ref (D.2 1002 1), .int p778])) (bp778 : gB p778 0 16777216) (x779 : p778.toInt = 0) : CtA (gV D I) l yJx4a65c_grow_d5877 cJx4a65c_grow_d5877 1 (some (FieldType.array (FieldType.object "java/lang/Object"))) 2 37 1 10 [.ref q776] (va_pl P774 F775) (pp_780_ArrayList_grow D I P774 F775 q776 p777 p778) gNA := by
  refine CtA_ofF hl0 (by decide +kernel) (Nat.le_of_ble_eq_true rfl) ?_
  have bp777 := gB_any p777
  refine G_aload_n 0 dr_cJx4a65c_grow_d5877_0 rfl ?_
  refine G_aload_n 0 dr_cJx4a65c_grow_d5877_1 rfl ?_
  refine Gp_get 2 hmq776 heq776 dr_cJx4a65c_grow_d5877_2 (gk_Jx4a65c D I) (Nat.le_of_ble_eq_true rfl) wr_7_18 rfl ?_
  refine G_iconst 1 dr_cJx4a65c_grow_d5877_5 (by decide +kernel) ?_
  refine G_iadd dr_cJx4a65c_grow_d5877_6 (G_nam fun z781 hz781 => ?_)
  have ez781 : z781.toInt = p778.toInt + 1 := by rw [gI_add hz781 bp778 (gBl (show Int32.toInt 1 = 1 by decide)) (by decide) (by decide), show Int32.toInt 1 = 1 from by decide]
  have bz781 : gB z781 1 16777217 := gB_add (gI_add hz781 bp778 (gBl (show Int32.toInt 1 = 1 by decide)) (by decide) (by decide)) bp778 (gBl (show Int32.toInt 1 = 1 by decide)) (by decide) (by decide)
  refine Gw_callV (As := [.int z781]) (gV_ok D I) (cp_790_ArrayList_grow l hl0 D I P774 F775 q776 z781 p777 p778 hmq776 heq776 ⟨by omega, by omega⟩ bp778 (by omega) (by omega)) dr_cJx4a65c_grow_d5877_7 ⟨wr_10_15, wr_1_18, wr_10_18, by decide, rfl, (Nat.le_of_ble_eq_true rfl), (Nat.le_of_ble_eq_true rfl)⟩ wr_10_17 wr_p_87 hmq776 heq776 rfl (show 0 + 1 ≤ 1 by first | omega | decide) (show 0 + 10 ≤ 10 by first | omega | decide) (Nat.le_of_ble_eq_true rfl) (fun r821 w822 dc818 ds819 hp820 => ?_) (fun _ _ _ _ _ z => z.elim)
  obtain ⟨P826, F827, q823, n824, rfl, rfl, hsb828, hfr829, he830, he831, hm832, hq833, hdc, hds, x825⟩ := hp820
  have hm834 : q776 ∈ P826 := hsb828 q776 hmq776
  have hq835 : q823 ∉ P774 := fun z => hq833 ((rSub_rf (P := P774)) q823 z)
  have hsb836 : rSub P774 P826 := rSub_tr (rSub_rf (P := P774)) hsb828
  have hfr837 : rFr [q776] P774 F775 F827 := rFr_call (rSub_rf (P := P774)) (rFr_rf (W := []) (P := P774) (F := F775)) hfr829 (fun b hb hn => ⟨nm_n, (nm_c (fun e => hn (e ▸ List.mem_cons_self)) nm_n)⟩)
  change G _ _ _ _ _ _ _ (.ref q823 :: _) _ _ _
  refine G_widen (cs' := 1) (sl' := 10) (by omega) (by omega) ?_
  exact G_aretA (FieldType.array (FieldType.object "java/lang/Object")) dr_cJx4a65c_grow_d5877_10 rfl (by first | exact Or.inl ⟨_, rfl⟩ | exact Or.inr ⟨_, rfl⟩) (Or.inr ⟨_, rfl⟩) (Nat.le_of_ble_eq_true rfl) (Nat.le_of_ble_eq_true rfl) ⟨P826, F827, q823, n824, rfl, rfl, hsb836, hfr837, he830, he831, hm832, hq835, (Nat.le_of_ble_eq_true rfl), (Nat.le_of_ble_eq_true rfl), (by omega)⟩
abbrev ky_770_ArrayList_add : gKey := (cJx4a65c_add_72be8, 4, "java/util/ArrayList", none, [], "add", fun _ _ => True)
def pp_770_ArrayList_add (D : va_G) (I : FieldType → ClassId) (P754 : List Nat) (F755 : Nat → va_E) (q756 : Nat) (q757 : Nat) (p758 : Int32) (p759 : Int32) (p760 : Int32) (p761 : Int32) (p762 : Int32) (p763 : Int32) (p764 : Int32) (p765 : Int32) (p766 : Int32) (p767 : Int32) : Option Value → va_W → Nat → Nat → Prop := fun r w dc ds => ∃ (P884 : List Nat) (F885 : Nat → va_E) (o880 : Int32) (q881 : Nat) (n882 : Nat) (f883 : Nat → Option Nat), r = none ∧ w = va_pl P884 F885 ∧ rSub P754 P884 ∧ rFr [q756] P754 F755 F885 ∧ F885 q757 = .inr (20, [.int p761, .int p762, .int p763, .int p764, .int p765, .int p766, .int p767]) ∧ F885 q756 = .inr (4, [.int p759, .ref q881, .int o880]) ∧ F885 q881 = .inl (I (.object "java/lang/Object"), n882, .inr (.inr (.inr (.inr f883)))) ∧ q881 ∈ P884 ∧ q881 ∉ P754 ∧ dc ≤ 1 ∧ ds ≤ 10 ∧ gB o880 1 1 ∧ o880.toInt = p760.toInt + 1 ∧ f883 p758.toInt.toNat = some q757 ∧ (∀ j w, f883 j = some w → w = q757) ∧ (n882 : Int) = 10
set_option maxRecDepth 100000 in
set_option maxHeartbeats 4000000 in
theorem cp_770_ArrayList_add (l : Launch) (hl0 : l.stackTraces = false) (D : va_G) (I : FieldType → ClassId) (P754 : List Nat) (F755 : Nat → va_E) (q756 : Nat) (q757 : Nat) (p758 : Int32) (p759 : Int32) (p760 : Int32) (p761 : Int32) (p762 : Int32) (p763 : Int32) (p764 : Int32) (p765 : Int32) (p766 : Int32) (p767 : Int32) (hmq756 : q756 ∈ P754) (hmq757 : q757 ∈ P754) (heq756 : F755 q756 = .inr (4, [.int p759, .ref (D.2 1002 1), .int p760])) (heq757 : F755 q757 = .inr (20, [.int p761, .int p762, .int p763, .int p764, .int p765, .int p766, .int p767])) (bp758 : gB p758 0 16777216) (bp760 : gB p760 0 16777216) (bp761 : gB p761 0 32) (bp762 : gB p762 0 1999) (bp765 : gB p765 0 1999) (bp766 : gB p766 0 1) (bp767 : gB p767 0 1) (x768 : p760.toInt = 0) (x769 : p758.toInt = p760.toInt) : CtA (gV D I) l yJx4a65c_add_72be8 cJx4a65c_add_72be8 4 none 3 57 1 10 [.ref q756, .ref q757, .ref (D.2 1002 1), .int p758] (va_pl P754 F755) (pp_770_ArrayList_add D I P754 F755 q756 q757 p758 p759 p760 p761 p762 p763 p764 p765 p766 p767) gNA := by
  refine CtA_ofF hl0 (by decide +kernel) (Nat.le_of_ble_eq_true rfl) ?_
  have bp759 := gB_any p759
  have bp763 := gB_any p763
  have bp764 := gB_any p764
  refine G_iload_n 3 dr_cJx4a65c_add_72be8_0 rfl ?_
  refine G_aload_n 2 dr_cJx4a65c_add_72be8_1 rfl ?_
  refine G_klen dr_cJx4a65c_add_72be8_2 gr_dt ?_
  refine G_icmp_ne 11 dr_cJx4a65c_add_72be8_3 (by decide +kernel) (fun hc => absurd (show False by have := gj_neq hc (show Int32.toInt 0 = 0 by decide); omega) not_false) (fun hc771 => ?_)
  have r773 : p758.toInt = 0 := gj_eq hc771 (show Int32.toInt 0 = 0 by decide)
  have bp758' : gB p758 0 0 := ⟨by omega, by omega⟩
  refine G_aload_n 0 dr_cJx4a65c_add_72be8_6 rfl ?_
  refine Gw_callV (As := []) (gV_ok D I) (cp_780_ArrayList_grow l hl0 D I P754 F755 q756 p759 p760 hmq756 heq756 bp760 (by omega)) dr_cJx4a65c_add_72be8_7 ⟨wr_10_11, wr_1_18, wr_10_14, by decide, rfl, (Nat.le_of_ble_eq_true rfl), (Nat.le_of_ble_eq_true rfl)⟩ wr_10_13 wr_p_86 hmq756 heq756 rfl (show 0 + 1 ≤ 1 by first | omega | decide) (show 0 + 10 ≤ 10 by first | omega | decide) (Nat.le_of_ble_eq_true rfl) (fun r845 w846 dc842 ds843 hp844 => ?_) (fun _ _ _ _ _ z => z.elim)
  obtain ⟨P850, F851, q847, n848, rfl, rfl, hsb852, hfr853, he854, he855, hm856, hq857, hdc, hds, x849⟩ := hp844
  have hm858 : q756 ∈ P850 := hsb852 q756 hmq756
  have hm859 : q757 ∈ P850 := hsb852 q757 hmq757
  have hq860 : q847 ∉ P754 := fun z => hq857 ((rSub_rf (P := P754)) q847 z)
  have hsb861 : rSub P754 P850 := rSub_tr (rSub_rf (P := P754)) hsb852
  have he862 : F851 q757 = .inr (20, [.int p761, .int p762, .int p763, .int p764, .int p765, .int p766, .int p767]) := (hfr853 q757 hmq757 (nm_c (rn_oo heq757 heq756 (by decide)) nm_n)).trans heq757
  have hfr863 : rFr [q756] P754 F755 F851 := rFr_call (rSub_rf (P := P754)) (rFr_rf (W := []) (P := P754) (F := F755)) hfr853 (fun b hb hn => ⟨nm_n, (nm_c (fun e => hn (e ▸ List.mem_cons_self)) nm_n)⟩)
  change G _ _ _ _ _ _ _ (.ref q847 :: _) _ _ _
  refine G_widen (cs' := 1) (sl' := 10) (by omega) (by omega) ?_
  refine G_astore_n (L' := [(2, .ref q847), (0, .ref q756), (1, .ref q757), (3, .int p758)]) dr_cJx4a65c_add_72be8_10 (Nat.le_of_ble_eq_true rfl) rfl ?_
  refine G_aload_n 0 dr_cJx4a65c_add_72be8_11 rfl ?_
  refine G_iload_n 3 dr_cJx4a65c_add_72be8_12 rfl ?_
  refine G_aload_n 2 dr_cJx4a65c_add_72be8_13 rfl ?_
  refine Gp_aast 4 hm856 he855 dr_cJx4a65c_add_72be8_14 rfl ⟨hm859, _, _, _, _, _, he862, rfl, gr_cast 3 rfl⟩ (gB_inr (by omega) (by omega)) (fun F864 e865 n866 => ?_)
  obtain ⟨f867, hf867⟩ : ∃ z, z = va_up (fun _ => none) p758.toNatClampNeg (some q757) := ⟨_, rfl⟩
  rw [← hf867] at e865
  have he868 : F864 q757 = .inr (20, [.int p761, .int p762, .int p763, .int p764, .int p765, .int p766, .int p767]) := (n866 q757 (fun h => hq860 (h ▸ hmq757))).trans he862
  have he869 : F864 q756 = .inr (4, [.int p759, .ref q847, .int p760]) := (n866 q756 (fun h => hq860 (h ▸ hmq756))).trans he854
  have he870 : F864 q847 = .inl (I (.object "java/lang/Object"), n848, .inr (.inr (.inr (.inr f867)))) := e865
  have hfr871 : rFr [q756] P754 F755 F864 := rFr_newp hq860 hfr863 n866
  refine G_aload_n 1 dr_cJx4a65c_add_72be8_15 rfl ?_
  refine G_iload_n 3 dr_cJx4a65c_add_72be8_16 rfl ?_
  refine G_iconst 1 dr_cJx4a65c_add_72be8_17 (by decide +kernel) ?_
  refine G_iadd dr_cJx4a65c_add_72be8_18 (G_nam fun z872 hz872 => ?_)
  have ez872 : z872.toInt = p758.toInt + 1 := by rw [gI_add hz872 bp758' (gBl (show Int32.toInt 1 = 1 by decide)) (by decide) (by decide), show Int32.toInt 1 = 1 from by decide]
  have bz872 : gB z872 1 1 := gB_add (gI_add hz872 bp758' (gBl (show Int32.toInt 1 = 1 by decide)) (by decide) (by decide)) bp758' (gBl (show Int32.toInt 1 = 1 by decide)) (by decide) (by decide)
  refine Gp_put 2 hm858 he869 dr_cJx4a65c_add_72be8_19 (gk_Jx4a65c D I) (Nat.le_of_ble_eq_true rfl) wr_7_18 rfl rfl rfl (Nat.le_of_ble_eq_true rfl) (fun F873 e874 n875 => ?_)
  have he876 : F873 q757 = .inr (20, [.int p761, .int p762, .int p763, .int p764, .int p765, .int p766, .int p767]) := (n875 q757 (rn_oo he868 he869 (by decide))).trans he868
  have he877 : F873 q847 = .inl (I (.object "java/lang/Object"), n848, .inr (.inr (.inr (.inr f867)))) := (n875 q847 (fun h => hq860 (h ▸ hmq756))).trans he870
  have he878 : F873 q756 = .inr (4, [.int p759, .ref q847, .int z872]) := e874
  have hfr879 : rFr [q756] P754 F755 F873 := rFr_put' List.mem_cons_self hfr871 n875
  exact G_vretA dr_cJx4a65c_add_72be8_22 rfl (Nat.le_of_ble_eq_true rfl) (Nat.le_of_ble_eq_true rfl) ⟨P850, F873, z872, q847, n848, f867, rfl, rfl, hsb861, hfr879, he876, he878, he877, hm856, hq860, (Nat.le_of_ble_eq_true rfl), (Nat.le_of_ble_eq_true rfl), bz872, (by omega), (rI_add (f := fun _ => none) (m := 0) (fun _ _ => rfl) hf867 (by omega) (by omega)).2, (rX_none (rSrcX_up hf867 rSrc_none)), (by omega)⟩
abbrev ky_746_ArrayList_add : gKey := (cJx4a65c_add_9ea2d, 2, "java/util/ArrayList", (some FieldType.boolean), [], "add", fun _ _ => True)
def pp_746_ArrayList_add (D : va_G) (I : FieldType → ClassId) (P732 : List Nat) (F733 : Nat → va_E) (q734 : Nat) (q735 : Nat) (p736 : Int32) (p737 : Int32) (p738 : Int32) (p739 : Int32) (p740 : Int32) (p741 : Int32) (p742 : Int32) (p743 : Int32) (p744 : Int32) : Option Value → va_W → Nat → Nat → Prop := fun r w dc ds => ∃ (P918 : List Nat) (F919 : Nat → va_E) (o913 : Int32) (o914 : Int32) (q915 : Nat) (n916 : Nat) (f917 : Nat → Option Nat), r = some (.int 1) ∧ w = va_pl P918 F919 ∧ rSub P732 P918 ∧ rFr [q734] P732 F733 F919 ∧ F919 q735 = .inr (20, [.int p738, .int p739, .int p740, .int p741, .int p742, .int p743, .int p744]) ∧ F919 q734 = .inr (4, [.int o913, .ref q915, .int o914]) ∧ F919 q915 = .inl (I (.object "java/lang/Object"), n916, .inr (.inr (.inr (.inr f917)))) ∧ q915 ∈ P918 ∧ q915 ∉ P732 ∧ dc ≤ 1 ∧ ds ≤ 10 ∧ gB o914 1 1 ∧ o914.toInt = p737.toInt + 1 ∧ f917 p737.toInt.toNat = some q735 ∧ (∀ j w, f917 j = some w → w = q735) ∧ (n916 : Int) = 10
set_option maxRecDepth 100000 in
set_option maxHeartbeats 4000000 in
theorem cp_746_ArrayList_add (l : Launch) (hl0 : l.stackTraces = false) (D : va_G) (I : FieldType → ClassId) (P732 : List Nat) (F733 : Nat → va_E) (q734 : Nat) (q735 : Nat) (p736 : Int32) (p737 : Int32) (p738 : Int32) (p739 : Int32) (p740 : Int32) (p741 : Int32) (p742 : Int32) (p743 : Int32) (p744 : Int32) (hmq734 : q734 ∈ P732) (hmq735 : q735 ∈ P732) (heq734 : F733 q734 = .inr (4, [.int p736, .ref (D.2 1002 1), .int p737])) (heq735 : F733 q735 = .inr (20, [.int p738, .int p739, .int p740, .int p741, .int p742, .int p743, .int p744])) (bp737 : gB p737 0 16777216) (bp738 : gB p738 0 32) (bp739 : gB p739 0 1999) (bp742 : gB p742 0 1999) (bp743 : gB p743 0 1) (bp744 : gB p744 0 1) (x745 : p737.toInt = 0) : CtA (gV D I) l yJx4a65c_add_9ea2d cJx4a65c_add_9ea2d 2 (some FieldType.boolean) 4 80 1 10 [.ref q734, .ref q735] (va_pl P732 F733) (pp_746_ArrayList_add D I P732 F733 q734 q735 p736 p737 p738 p739 p740 p741 p742 p743 p744) gNA := by
  refine CtA_ofF hl0 (by decide +kernel) (Nat.le_of_ble_eq_true rfl) ?_
  have bp736 := gB_any p736
  have bp740 := gB_any p740
  have bp741 := gB_any p741
  refine G_aload_n 0 dr_cJx4a65c_add_9ea2d_0 rfl ?_
  refine G_dup dr_cJx4a65c_add_9ea2d_1 rfl ?_
  refine Gp_getS 0 hmq734 heq734 dr_cJx4a65c_add_9ea2d_2 (gk_Jx4a65c D I) (Nat.le_of_ble_eq_true rfl) wr_7_20 wr_7_21 rfl ?_
  refine G_iconst 1 dr_cJx4a65c_add_9ea2d_5 (by decide +kernel) ?_
  refine G_iadd dr_cJx4a65c_add_9ea2d_6 (G_nam fun z747 hz747 => ?_)
  have bz747 : gB z747 (-2147483648) 2147483647 := gB_any z747
  refine Gp_putS 0 hmq734 heq734 dr_cJx4a65c_add_9ea2d_7 (gk_Jx4a65c D I) (Nat.le_of_ble_eq_true rfl) wr_7_20 wr_7_21 rfl rfl rfl (Nat.le_of_ble_eq_true rfl) (fun F748 e749 n750 => ?_)
  have he751 : F748 q735 = .inr (20, [.int p738, .int p739, .int p740, .int p741, .int p742, .int p743, .int p744]) := (n750 q735 (rn_oo heq735 heq734 (by decide))).trans heq735
  have he752 : F748 q734 = .inr (4, [.int z747, .ref (D.2 1002 1), .int p737]) := e749
  have hfr753 : rFr [q734] P732 F733 F748 := rFr_put (rFr_rf (W := []) (P := P732) (F := F733)) n750
  refine G_aload_n 0 dr_cJx4a65c_add_9ea2d_10 rfl ?_
  refine G_aload_n 1 dr_cJx4a65c_add_9ea2d_11 rfl ?_
  refine G_aload_n 0 dr_cJx4a65c_add_9ea2d_12 rfl ?_
  refine Gp_get 1 hmq734 he752 dr_cJx4a65c_add_9ea2d_13 (gk_Jx4a65c D I) (Nat.le_of_ble_eq_true rfl) wr_7_17 rfl ?_
  refine G_aload_n 0 dr_cJx4a65c_add_9ea2d_16 rfl ?_
  refine Gp_get 2 hmq734 he752 dr_cJx4a65c_add_9ea2d_17 (gk_Jx4a65c D I) (Nat.le_of_ble_eq_true rfl) wr_7_18 rfl ?_
  refine Gw_callV (As := [.ref q735, .ref (D.2 1002 1), .int p737]) (gV_ok D I) (cp_770_ArrayList_add l hl0 D I P732 F748 q734 q735 p737 z747 p737 p738 p739 p740 p741 p742 p743 p744 hmq734 hmq735 he752 he751 bp737 bp737 bp738 bp739 bp742 bp743 bp744 (by omega) (by omega)) dr_cJx4a65c_add_9ea2d_20 ⟨wr_10_7, wr_1_18, wr_10_10, by decide, rfl, (Nat.le_of_ble_eq_true rfl), (Nat.le_of_ble_eq_true rfl)⟩ wr_10_9 wr_p_85 hmq734 he752 rfl (show 0 + 1 ≤ 1 by first | omega | decide) (show 0 + 10 ≤ 10 by first | omega | decide) (Nat.le_of_ble_eq_true rfl) (fun r889 w890 dc886 ds887 hp888 => ?_) (fun _ _ _ _ _ z => z.elim)
  obtain ⟨P899, F900, o891, q892, n893, f894, rfl, rfl, hsb901, hfr902, he903, he904, he905, hm906, hq907, hdc, hds, bo891, x895, x896, x897, x898⟩ := hp888
  have hm908 : q734 ∈ P899 := hsb901 q734 hmq734
  have hm909 : q735 ∈ P899 := hsb901 q735 hmq735
  have hq910 : q892 ∉ P732 := fun z => hq907 ((rSub_rf (P := P732)) q892 z)
  have hsb911 : rSub P732 P899 := rSub_tr (rSub_rf (P := P732)) hsb901
  have hfr912 : rFr [q734] P732 F733 F900 := rFr_call (rSub_rf (P := P732)) hfr753 hfr902 (fun b hb hn => ⟨(nm_c (fun e => hn (e ▸ List.mem_cons_self)) nm_n), (nm_c (fun e => hn (e ▸ List.mem_cons_self)) nm_n)⟩)
  change G _ _ _ _ _ _ _ _ _ _ _
  refine G_widen (cs' := 1) (sl' := 10) (by omega) (by omega) ?_
  refine G_iconst 1 dr_cJx4a65c_add_9ea2d_23 (by decide +kernel) ?_
  exact G_zretA FieldType.boolean dr_cJx4a65c_add_9ea2d_24 rfl rfl (Nat.le_of_ble_eq_true rfl) (Nat.le_of_ble_eq_true rfl) ⟨P899, F900, z747, o891, q892, n893, f894, rfl, rfl, hsb911, hfr912, he903, he904, he905, hm906, hq910, (Nat.le_of_ble_eq_true rfl), (Nat.le_of_ble_eq_true rfl), bo891, (by omega), (by assumption), (by assumption), (by omega)⟩
abbrev ky_952_ArrayList_add : gKey := (cJx4a65c_add_72be8, 4, "java/util/ArrayList", none, [], "add", fun _ _ => True)
def pp_952_ArrayList_add (D : va_G) (I : FieldType → ClassId) (P939 : List Nat) (F940 : Nat → va_E) (q941 : Nat) (q942 : Nat) (p943 : Int32) (p944 : Int32) (p945 : Int32) (qo946 : Nat) (qo947 : Nat) (p948 : Int32) (p949 : Int32) : Option Value → va_W → Nat → Nat → Prop := fun r w dc ds => ∃ (P998 : List Nat) (F999 : Nat → va_E) (o994 : Int32) (q995 : Nat) (n996 : Nat) (f997 : Nat → Option Nat), r = none ∧ w = va_pl P998 F999 ∧ rSub P939 P998 ∧ rFr [q941] P939 F940 F999 ∧ F999 q942 = .inr (17, [.ref qo946, .ref qo947, .int p948, .int p949]) ∧ F999 q941 = .inr (4, [.int p944, .ref q995, .int o994]) ∧ F999 q995 = .inl (I (.object "java/lang/Object"), n996, .inr (.inr (.inr (.inr f997)))) ∧ q995 ∈ P998 ∧ q995 ∉ P939 ∧ dc ≤ 1 ∧ ds ≤ 10 ∧ gB o994 1 1 ∧ o994.toInt = p945.toInt + 1 ∧ f997 p943.toInt.toNat = some q942 ∧ (∀ j w, f997 j = some w → w = q942) ∧ (n996 : Int) = 10
set_option maxRecDepth 100000 in
set_option maxHeartbeats 4000000 in
theorem cp_952_ArrayList_add (l : Launch) (hl0 : l.stackTraces = false) (D : va_G) (I : FieldType → ClassId) (P939 : List Nat) (F940 : Nat → va_E) (q941 : Nat) (q942 : Nat) (p943 : Int32) (p944 : Int32) (p945 : Int32) (qo946 : Nat) (qo947 : Nat) (p948 : Int32) (p949 : Int32) (hmq941 : q941 ∈ P939) (hmq942 : q942 ∈ P939) (heq941 : F940 q941 = .inr (4, [.int p944, .ref (D.2 1002 1), .int p945])) (heq942 : F940 q942 = .inr (17, [.ref qo946, .ref qo947, .int p948, .int p949])) (bp943 : gB p943 0 16777216) (bp945 : gB p945 0 16777216) (bp948 : gB p948 0 39) (bp949 : gB p949 0 39) (x950 : p945.toInt = 0) (x951 : p943.toInt = p945.toInt) : CtA (gV D I) l yJx4a65c_add_72be8 cJx4a65c_add_72be8 4 none 3 57 1 10 [.ref q941, .ref q942, .ref (D.2 1002 1), .int p943] (va_pl P939 F940) (pp_952_ArrayList_add D I P939 F940 q941 q942 p943 p944 p945 qo946 qo947 p948 p949) gNA := by
  refine CtA_ofF hl0 (by decide +kernel) (Nat.le_of_ble_eq_true rfl) ?_
  have bp944 := gB_any p944
  refine G_iload_n 3 dr_cJx4a65c_add_72be8_0 rfl ?_
  refine G_aload_n 2 dr_cJx4a65c_add_72be8_1 rfl ?_
  refine G_klen dr_cJx4a65c_add_72be8_2 gr_dt ?_
  refine G_icmp_ne 11 dr_cJx4a65c_add_72be8_3 (by decide +kernel) (fun hc => absurd (show False by have := gj_neq hc (show Int32.toInt 0 = 0 by decide); omega) not_false) (fun hc953 => ?_)
  have r955 : p943.toInt = 0 := gj_eq hc953 (show Int32.toInt 0 = 0 by decide)
  have bp943' : gB p943 0 0 := ⟨by omega, by omega⟩
  refine G_aload_n 0 dr_cJx4a65c_add_72be8_6 rfl ?_
  refine Gw_callV (As := []) (gV_ok D I) (cp_780_ArrayList_grow l hl0 D I P939 F940 q941 p944 p945 hmq941 heq941 bp945 (by omega)) dr_cJx4a65c_add_72be8_7 ⟨wr_10_11, wr_1_18, wr_10_14, by decide, rfl, (Nat.le_of_ble_eq_true rfl), (Nat.le_of_ble_eq_true rfl)⟩ wr_10_13 wr_p_86 hmq941 heq941 rfl (show 0 + 1 ≤ 1 by first | omega | decide) (show 0 + 10 ≤ 10 by first | omega | decide) (Nat.le_of_ble_eq_true rfl) (fun r959 w960 dc956 ds957 hp958 => ?_) (fun _ _ _ _ _ z => z.elim)
  obtain ⟨P964, F965, q961, n962, rfl, rfl, hsb966, hfr967, he968, he969, hm970, hq971, hdc, hds, x963⟩ := hp958
  have hm972 : q941 ∈ P964 := hsb966 q941 hmq941
  have hm973 : q942 ∈ P964 := hsb966 q942 hmq942
  have hq974 : q961 ∉ P939 := fun z => hq971 ((rSub_rf (P := P939)) q961 z)
  have hsb975 : rSub P939 P964 := rSub_tr (rSub_rf (P := P939)) hsb966
  have he976 : F965 q942 = .inr (17, [.ref qo946, .ref qo947, .int p948, .int p949]) := (hfr967 q942 hmq942 (nm_c (rn_oo heq942 heq941 (by decide)) nm_n)).trans heq942
  have hfr977 : rFr [q941] P939 F940 F965 := rFr_call (rSub_rf (P := P939)) (rFr_rf (W := []) (P := P939) (F := F940)) hfr967 (fun b hb hn => ⟨nm_n, (nm_c (fun e => hn (e ▸ List.mem_cons_self)) nm_n)⟩)
  change G _ _ _ _ _ _ _ (.ref q961 :: _) _ _ _
  refine G_widen (cs' := 1) (sl' := 10) (by omega) (by omega) ?_
  refine G_astore_n (L' := [(2, .ref q961), (0, .ref q941), (1, .ref q942), (3, .int p943)]) dr_cJx4a65c_add_72be8_10 (Nat.le_of_ble_eq_true rfl) rfl ?_
  refine G_aload_n 0 dr_cJx4a65c_add_72be8_11 rfl ?_
  refine G_iload_n 3 dr_cJx4a65c_add_72be8_12 rfl ?_
  refine G_aload_n 2 dr_cJx4a65c_add_72be8_13 rfl ?_
  refine Gp_aast 4 hm970 he969 dr_cJx4a65c_add_72be8_14 rfl ⟨hm973, _, _, _, _, _, he976, rfl, gr_cast 2 rfl⟩ (gB_inr (by omega) (by omega)) (fun F978 e979 n980 => ?_)
  obtain ⟨f981, hf981⟩ : ∃ z, z = va_up (fun _ => none) p943.toNatClampNeg (some q942) := ⟨_, rfl⟩
  rw [← hf981] at e979
  have he982 : F978 q942 = .inr (17, [.ref qo946, .ref qo947, .int p948, .int p949]) := (n980 q942 (fun h => hq974 (h ▸ hmq942))).trans he976
  have he983 : F978 q941 = .inr (4, [.int p944, .ref q961, .int p945]) := (n980 q941 (fun h => hq974 (h ▸ hmq941))).trans he968
  have he984 : F978 q961 = .inl (I (.object "java/lang/Object"), n962, .inr (.inr (.inr (.inr f981)))) := e979
  have hfr985 : rFr [q941] P939 F940 F978 := rFr_newp hq974 hfr977 n980
  refine G_aload_n 1 dr_cJx4a65c_add_72be8_15 rfl ?_
  refine G_iload_n 3 dr_cJx4a65c_add_72be8_16 rfl ?_
  refine G_iconst 1 dr_cJx4a65c_add_72be8_17 (by decide +kernel) ?_
  refine G_iadd dr_cJx4a65c_add_72be8_18 (G_nam fun z986 hz986 => ?_)
  have ez986 : z986.toInt = p943.toInt + 1 := by rw [gI_add hz986 bp943' (gBl (show Int32.toInt 1 = 1 by decide)) (by decide) (by decide), show Int32.toInt 1 = 1 from by decide]
  have bz986 : gB z986 1 1 := gB_add (gI_add hz986 bp943' (gBl (show Int32.toInt 1 = 1 by decide)) (by decide) (by decide)) bp943' (gBl (show Int32.toInt 1 = 1 by decide)) (by decide) (by decide)
  refine Gp_put 2 hm972 he983 dr_cJx4a65c_add_72be8_19 (gk_Jx4a65c D I) (Nat.le_of_ble_eq_true rfl) wr_7_18 rfl rfl rfl (Nat.le_of_ble_eq_true rfl) (fun F987 e988 n989 => ?_)
  have he990 : F987 q942 = .inr (17, [.ref qo946, .ref qo947, .int p948, .int p949]) := (n989 q942 (rn_oo he982 he983 (by decide))).trans he982
  have he991 : F987 q961 = .inl (I (.object "java/lang/Object"), n962, .inr (.inr (.inr (.inr f981)))) := (n989 q961 (fun h => hq974 (h ▸ hmq941))).trans he984
  have he992 : F987 q941 = .inr (4, [.int p944, .ref q961, .int z986]) := e988
  have hfr993 : rFr [q941] P939 F940 F987 := rFr_put' List.mem_cons_self hfr985 n989
  exact G_vretA dr_cJx4a65c_add_72be8_22 rfl (Nat.le_of_ble_eq_true rfl) (Nat.le_of_ble_eq_true rfl) ⟨P964, F987, z986, q961, n962, f981, rfl, rfl, hsb975, hfr993, he990, he992, he991, hm970, hq974, (Nat.le_of_ble_eq_true rfl), (Nat.le_of_ble_eq_true rfl), bz986, (by omega), (rI_add (f := fun _ => none) (m := 0) (fun _ _ => rfl) hf981 (by omega) (by omega)).2, (rX_none (rSrcX_up hf981 rSrc_none)), (by omega)⟩
abbrev ky_931_ArrayList_add : gKey := (cJx4a65c_add_9ea2d, 2, "java/util/ArrayList", (some FieldType.boolean), [], "add", fun _ _ => True)
def pp_931_ArrayList_add (D : va_G) (I : FieldType → ClassId) (P920 : List Nat) (F921 : Nat → va_E) (q922 : Nat) (q923 : Nat) (p924 : Int32) (p925 : Int32) (qo926 : Nat) (qo927 : Nat) (p928 : Int32) (p929 : Int32) : Option Value → va_W → Nat → Nat → Prop := fun r w dc ds => ∃ (P1032 : List Nat) (F1033 : Nat → va_E) (o1027 : Int32) (o1028 : Int32) (q1029 : Nat) (n1030 : Nat) (f1031 : Nat → Option Nat), r = some (.int 1) ∧ w = va_pl P1032 F1033 ∧ rSub P920 P1032 ∧ rFr [q922] P920 F921 F1033 ∧ F1033 q923 = .inr (17, [.ref qo926, .ref qo927, .int p928, .int p929]) ∧ F1033 q922 = .inr (4, [.int o1027, .ref q1029, .int o1028]) ∧ F1033 q1029 = .inl (I (.object "java/lang/Object"), n1030, .inr (.inr (.inr (.inr f1031)))) ∧ q1029 ∈ P1032 ∧ q1029 ∉ P920 ∧ dc ≤ 1 ∧ ds ≤ 10 ∧ gB o1028 1 1 ∧ o1028.toInt = p925.toInt + 1 ∧ f1031 p925.toInt.toNat = some q923 ∧ (∀ j w, f1031 j = some w → w = q923) ∧ (n1030 : Int) = 10
set_option maxRecDepth 100000 in
set_option maxHeartbeats 4000000 in
theorem cp_931_ArrayList_add (l : Launch) (hl0 : l.stackTraces = false) (D : va_G) (I : FieldType → ClassId) (P920 : List Nat) (F921 : Nat → va_E) (q922 : Nat) (q923 : Nat) (p924 : Int32) (p925 : Int32) (qo926 : Nat) (qo927 : Nat) (p928 : Int32) (p929 : Int32) (hmq922 : q922 ∈ P920) (hmq923 : q923 ∈ P920) (heq922 : F921 q922 = .inr (4, [.int p924, .ref (D.2 1002 1), .int p925])) (heq923 : F921 q923 = .inr (17, [.ref qo926, .ref qo927, .int p928, .int p929])) (bp925 : gB p925 0 16777216) (bp928 : gB p928 0 39) (bp929 : gB p929 0 39) (x930 : p925.toInt = 0) : CtA (gV D I) l yJx4a65c_add_9ea2d cJx4a65c_add_9ea2d 2 (some FieldType.boolean) 4 80 1 10 [.ref q922, .ref q923] (va_pl P920 F921) (pp_931_ArrayList_add D I P920 F921 q922 q923 p924 p925 qo926 qo927 p928 p929) gNA := by
  refine CtA_ofF hl0 (by decide +kernel) (Nat.le_of_ble_eq_true rfl) ?_
  have bp924 := gB_any p924
  refine G_aload_n 0 dr_cJx4a65c_add_9ea2d_0 rfl ?_
  refine G_dup dr_cJx4a65c_add_9ea2d_1 rfl ?_
  refine Gp_getS 0 hmq922 heq922 dr_cJx4a65c_add_9ea2d_2 (gk_Jx4a65c D I) (Nat.le_of_ble_eq_true rfl) wr_7_20 wr_7_21 rfl ?_
  refine G_iconst 1 dr_cJx4a65c_add_9ea2d_5 (by decide +kernel) ?_
  refine G_iadd dr_cJx4a65c_add_9ea2d_6 (G_nam fun z932 hz932 => ?_)
  have bz932 : gB z932 (-2147483648) 2147483647 := gB_any z932
  refine Gp_putS 0 hmq922 heq922 dr_cJx4a65c_add_9ea2d_7 (gk_Jx4a65c D I) (Nat.le_of_ble_eq_true rfl) wr_7_20 wr_7_21 rfl rfl rfl (Nat.le_of_ble_eq_true rfl) (fun F933 e934 n935 => ?_)
  have he936 : F933 q923 = .inr (17, [.ref qo926, .ref qo927, .int p928, .int p929]) := (n935 q923 (rn_oo heq923 heq922 (by decide))).trans heq923
  have he937 : F933 q922 = .inr (4, [.int z932, .ref (D.2 1002 1), .int p925]) := e934
  have hfr938 : rFr [q922] P920 F921 F933 := rFr_put (rFr_rf (W := []) (P := P920) (F := F921)) n935
  refine G_aload_n 0 dr_cJx4a65c_add_9ea2d_10 rfl ?_
  refine G_aload_n 1 dr_cJx4a65c_add_9ea2d_11 rfl ?_
  refine G_aload_n 0 dr_cJx4a65c_add_9ea2d_12 rfl ?_
  refine Gp_get 1 hmq922 he937 dr_cJx4a65c_add_9ea2d_13 (gk_Jx4a65c D I) (Nat.le_of_ble_eq_true rfl) wr_7_17 rfl ?_
  refine G_aload_n 0 dr_cJx4a65c_add_9ea2d_16 rfl ?_
  refine Gp_get 2 hmq922 he937 dr_cJx4a65c_add_9ea2d_17 (gk_Jx4a65c D I) (Nat.le_of_ble_eq_true rfl) wr_7_18 rfl ?_
  refine Gw_callV (As := [.ref q923, .ref (D.2 1002 1), .int p925]) (gV_ok D I) (cp_952_ArrayList_add l hl0 D I P920 F933 q922 q923 p925 z932 p925 qo926 qo927 p928 p929 hmq922 hmq923 he937 he936 bp925 bp925 bp928 bp929 (by omega) (by omega)) dr_cJx4a65c_add_9ea2d_20 ⟨wr_10_7, wr_1_18, wr_10_10, by decide, rfl, (Nat.le_of_ble_eq_true rfl), (Nat.le_of_ble_eq_true rfl)⟩ wr_10_9 wr_p_85 hmq922 he937 rfl (show 0 + 1 ≤ 1 by first | omega | decide) (show 0 + 10 ≤ 10 by first | omega | decide) (Nat.le_of_ble_eq_true rfl) (fun r1003 w1004 dc1000 ds1001 hp1002 => ?_) (fun _ _ _ _ _ z => z.elim)
  obtain ⟨P1013, F1014, o1005, q1006, n1007, f1008, rfl, rfl, hsb1015, hfr1016, he1017, he1018, he1019, hm1020, hq1021, hdc, hds, bo1005, x1009, x1010, x1011, x1012⟩ := hp1002
  have hm1022 : q922 ∈ P1013 := hsb1015 q922 hmq922
  have hm1023 : q923 ∈ P1013 := hsb1015 q923 hmq923
  have hq1024 : q1006 ∉ P920 := fun z => hq1021 ((rSub_rf (P := P920)) q1006 z)
  have hsb1025 : rSub P920 P1013 := rSub_tr (rSub_rf (P := P920)) hsb1015
  have hfr1026 : rFr [q922] P920 F921 F1014 := rFr_call (rSub_rf (P := P920)) hfr938 hfr1016 (fun b hb hn => ⟨(nm_c (fun e => hn (e ▸ List.mem_cons_self)) nm_n), (nm_c (fun e => hn (e ▸ List.mem_cons_self)) nm_n)⟩)
  change G _ _ _ _ _ _ _ _ _ _ _
  refine G_widen (cs' := 1) (sl' := 10) (by omega) (by omega) ?_
  refine G_iconst 1 dr_cJx4a65c_add_9ea2d_23 (by decide +kernel) ?_
  exact G_zretA FieldType.boolean dr_cJx4a65c_add_9ea2d_24 rfl rfl (Nat.le_of_ble_eq_true rfl) (Nat.le_of_ble_eq_true rfl) ⟨P1013, F1014, z932, o1005, q1006, n1007, f1008, rfl, rfl, hsb1025, hfr1026, he1017, he1018, he1019, hm1020, hq1024, (Nat.le_of_ble_eq_true rfl), (Nat.le_of_ble_eq_true rfl), bo1005, (by omega), (by assumption), (by assumption), (by omega)⟩
abbrev ky_1067_ArrayList_rangeCheckForAdd : gKey := (cJx4a65c_rangeCheckForAdd_d00df, 2, "java/util/ArrayList", none, [], "rangeCheckForAdd", fun _ _ => True)
def pp_1067_ArrayList_rangeCheckForAdd (D : va_G) (I : FieldType → ClassId) (P1056 : List Nat) (F1057 : Nat → va_E) (q1058 : Nat) (q1059 : Nat) (p1060 : Int32) (p1061 : Int32) (p1062 : Int32) (f1063 : Nat → Option Nat) (n1064 : Nat) : Option Value → va_W → Nat → Nat → Prop := fun r w dc ds => r = none ∧ w = va_pl P1056 F1057 ∧ dc ≤ 0 ∧ ds ≤ 0
set_option maxRecDepth 100000 in
set_option maxHeartbeats 4000000 in
theorem cp_1067_ArrayList_rangeCheckForAdd (l : Launch) (hl0 : l.stackTraces = false) (D : va_G) (I : FieldType → ClassId) (P1056 : List Nat) (F1057 : Nat → va_E) (q1058 : Nat) (q1059 : Nat) (p1060 : Int32) (p1061 : Int32) (p1062 : Int32) (f1063 : Nat → Option Nat) (n1064 : Nat) (hmq1058 : q1058 ∈ P1056) (hmq1059 : q1059 ∈ P1056) (heq1058 : F1057 q1058 = .inr (4, [.int p1061, .ref q1059, .int p1062])) (heq1059 : F1057 q1059 = .inl (I (.object "java/lang/Object"), n1064, .inr (.inr (.inr (.inr f1063))))) (bp1060 : gB p1060 0 16777216) (bp1062 : gB p1062 0 16777216) (x1065 : p1060.toInt ≤ p1062.toInt) (x1066 : ((n1064 : Int) ≤ 16777216)) : CtA (gV D I) l yJx4a65c_rangeCheckForAdd_d00df cJx4a65c_rangeCheckForAdd_d00df 2 none 0 0 0 0 [.ref q1058, .int p1060] (va_pl P1056 F1057) (pp_1067_ArrayList_rangeCheckForAdd D I P1056 F1057 q1058 q1059 p1060 p1061 p1062 f1063 n1064) gNA := by
  refine CtA_ofF hl0 (by decide +kernel) (Nat.le_of_ble_eq_true rfl) ?_
  have bp1061 := gB_any p1061
  refine G_iload_n 1 dr_cJx4a65c_rangeCheckForAdd_d00df_0 rfl ?_
  refine G_aload_n 0 dr_cJx4a65c_rangeCheckForAdd_d00df_1 rfl ?_
  refine Gp_get 2 hmq1058 heq1058 dr_cJx4a65c_rangeCheckForAdd_d00df_2 (gk_Jx4a65c D I) (Nat.le_of_ble_eq_true rfl) wr_7_18 rfl ?_
  refine G_icmp_gt 12 dr_cJx4a65c_rangeCheckForAdd_d00df_5 (by decide +kernel) (fun hc => absurd (show False by have := gC_lt hc; omega) not_false) (fun hc1068 => ?_)
  have r1070 : p1060.toInt ≤ p1062.toInt := gC_nlt hc1068
  refine G_iload_n 1 dr_cJx4a65c_rangeCheckForAdd_d00df_8 rfl ?_
  refine G_if_ge 25 dr_cJx4a65c_rangeCheckForAdd_d00df_9 (by decide +kernel) (fun _ => ?_) (fun hc => absurd (show False by have := gj_nleL hc (show Int32.toInt 0 = 0 by decide); omega) not_false)
  exact G_vretA dr_cJx4a65c_rangeCheckForAdd_d00df_25 rfl (Nat.le_of_ble_eq_true rfl) (Nat.le_of_ble_eq_true rfl) ⟨rfl, rfl, (Nat.le_of_ble_eq_true rfl), (Nat.le_of_ble_eq_true rfl)⟩
abbrev ky_1055_ArrayList_add : gKey := (cJx4a65c_add_7a177, 5, "java/util/ArrayList", none, [], "add", fun _ _ => True)
def pp_1055_ArrayList_add (D : va_G) (I : FieldType → ClassId) (P1034 : List Nat) (F1035 : Nat → va_E) (q1036 : Nat) (q1037 : Nat) (q1038 : Nat) (p1039 : Int32) (p1040 : Int32) (p1041 : Int32) (p1042 : Int32) (p1043 : Int32) (p1044 : Int32) (p1045 : Int32) (p1046 : Int32) (p1047 : Int32) (p1048 : Int32) (f1049 : Nat → Option Nat) (n1050 : Nat) : Option Value → va_W → Nat → Nat → Prop := fun r w dc ds => ∃ (F1118 : Nat → va_E) (o1114 : Int32) (o1115 : Int32) (f1116 : Nat → Option Nat), r = none ∧ w = va_pl P1034 F1118 ∧ rFr [q1038, q1036] P1034 F1035 F1118 ∧ F1118 q1036 = .inr (4, [.int o1114, .ref q1038, .int o1115]) ∧ F1118 q1037 = .inr (20, [.int p1042, .int p1043, .int p1044, .int p1045, .int p1046, .int p1047, .int p1048]) ∧ F1118 q1038 = .inl (I (.object "java/lang/Object"), n1050, .inr (.inr (.inr (.inr f1116)))) ∧ dc ≤ 0 ∧ ds ≤ 0 ∧ gB o1115 1 16777217 ∧ o1115.toInt = p1041.toInt + 1 ∧ ((∀ j : Nat, (j : Int) < p1039.toInt → f1116 j = f1049 j) ∧ f1116 p1039.toInt.toNat = some q1037 ∧ ∀ j : Nat, p1039.toInt ≤ (j : Int) → (j : Int) < p1041.toInt → f1116 (j + 1) = f1049 j) ∧ rSrcX f1116 f1049 q1037
set_option maxRecDepth 100000 in
set_option maxHeartbeats 4000000 in
theorem cp_1055_ArrayList_add (l : Launch) (hl0 : l.stackTraces = false) (D : va_G) (I : FieldType → ClassId) (P1034 : List Nat) (F1035 : Nat → va_E) (q1036 : Nat) (q1037 : Nat) (q1038 : Nat) (p1039 : Int32) (p1040 : Int32) (p1041 : Int32) (p1042 : Int32) (p1043 : Int32) (p1044 : Int32) (p1045 : Int32) (p1046 : Int32) (p1047 : Int32) (p1048 : Int32) (f1049 : Nat → Option Nat) (n1050 : Nat) (hmq1036 : q1036 ∈ P1034) (hmq1037 : q1037 ∈ P1034) (hmq1038 : q1038 ∈ P1034) (heq1036 : F1035 q1036 = .inr (4, [.int p1040, .ref q1038, .int p1041])) (heq1037 : F1035 q1037 = .inr (20, [.int p1042, .int p1043, .int p1044, .int p1045, .int p1046, .int p1047, .int p1048])) (heq1038 : F1035 q1038 = .inl (I (.object "java/lang/Object"), n1050, .inr (.inr (.inr (.inr f1049))))) (bp1039 : gB p1039 0 16777216) (bp1041 : gB p1041 0 16777216) (bp1042 : gB p1042 0 32) (bp1043 : gB p1043 0 1999) (bp1046 : gB p1046 0 1999) (bp1047 : gB p1047 0 1) (bp1048 : gB p1048 0 1) (x1051 : p1041.toInt < (n1050 : Int)) (x1052 : p1039.toInt ≤ p1041.toInt) (x1053 : rEl P1034 F1035 f1049) (x1054 : ((n1050 : Int) ≤ 16777216)) : CtA (gV D I) l yJx4a65c_add_7a177 cJx4a65c_add_7a177 5 none 1 21 0 0 [.ref q1036, .int p1039, .ref q1037] (va_pl P1034 F1035) (pp_1055_ArrayList_add D I P1034 F1035 q1036 q1037 q1038 p1039 p1040 p1041 p1042 p1043 p1044 p1045 p1046 p1047 p1048 f1049 n1050) gNA := by
  refine CtA_ofF hl0 (by decide +kernel) (Nat.le_of_ble_eq_true rfl) ?_
  have bp1040 := gB_any p1040
  have bp1044 := gB_any p1044
  have bp1045 := gB_any p1045
  refine G_aload_n 0 dr_cJx4a65c_add_7a177_0 rfl ?_
  refine G_iload_n 1 dr_cJx4a65c_add_7a177_1 rfl ?_
  refine Gw_callV (As := [.int p1039]) (gV_ok D I) (cp_1067_ArrayList_rangeCheckForAdd l hl0 D I P1034 F1035 q1036 q1038 p1039 p1040 p1041 f1049 n1050 hmq1036 hmq1038 heq1036 heq1038 bp1039 bp1041 (by omega) (by omega)) dr_cJx4a65c_add_7a177_2 ⟨wr_10_211, wr_1_18, wr_10_214, by decide, rfl, (Nat.le_of_ble_eq_true rfl), (Nat.le_of_ble_eq_true rfl)⟩ wr_10_213 wr_p_97 hmq1036 heq1036 rfl (show 0 + 0 ≤ 0 by first | omega | decide) (show 0 + 0 ≤ 0 by first | omega | decide) (Nat.le_of_ble_eq_true rfl) (fun r1074 w1075 dc1071 ds1072 hp1073 => ?_) (fun _ _ _ _ _ z => z.elim)
  obtain ⟨rfl, rfl, hdc, hds⟩ := hp1073
  change G _ _ _ _ _ _ _ _ _ _ _
  refine G_widen (cs' := 0) (sl' := 0) (by omega) (by omega) ?_
  refine G_aload_n 0 dr_cJx4a65c_add_7a177_5 rfl ?_
  refine G_dup dr_cJx4a65c_add_7a177_6 rfl ?_
  refine Gp_getS 0 hmq1036 heq1036 dr_cJx4a65c_add_7a177_7 (gk_Jx4a65c D I) (Nat.le_of_ble_eq_true rfl) wr_7_20 wr_7_21 rfl ?_
  refine G_iconst 1 dr_cJx4a65c_add_7a177_10 (by decide +kernel) ?_
  refine G_iadd dr_cJx4a65c_add_7a177_11 (G_nam fun z1076 hz1076 => ?_)
  have bz1076 : gB z1076 (-2147483648) 2147483647 := gB_any z1076
  refine Gp_putS 0 hmq1036 heq1036 dr_cJx4a65c_add_7a177_12 (gk_Jx4a65c D I) (Nat.le_of_ble_eq_true rfl) wr_7_20 wr_7_21 rfl rfl rfl (Nat.le_of_ble_eq_true rfl) (fun F1077 e1078 n1079 => ?_)
  have he1080 : F1077 q1037 = .inr (20, [.int p1042, .int p1043, .int p1044, .int p1045, .int p1046, .int p1047, .int p1048]) := (n1079 q1037 (rn_oo heq1037 heq1036 (by decide))).trans heq1037
  have he1081 : F1077 q1038 = .inl (I (.object "java/lang/Object"), n1050, .inr (.inr (.inr (.inr f1049)))) := (n1079 q1038 (rn_ao heq1038 heq1036)).trans heq1038
  have he1082 : F1077 q1036 = .inr (4, [.int z1076, .ref q1038, .int p1041]) := e1078
  have hfr1083 : rFr [q1036] P1034 F1035 F1077 := rFr_put (rFr_rf (W := []) (P := P1034) (F := F1035)) n1079
  refine G_aload_n 0 dr_cJx4a65c_add_7a177_15 rfl ?_
  refine Gp_get 2 hmq1036 he1082 dr_cJx4a65c_add_7a177_16 (gk_Jx4a65c D I) (Nat.le_of_ble_eq_true rfl) wr_7_18 rfl ?_
  refine G_dup dr_cJx4a65c_add_7a177_19 rfl ?_
  refine G_istore_n (L' := [(3, .int p1041), (0, .ref q1036), (1, .int p1039), (2, .ref q1037)]) dr_cJx4a65c_add_7a177_20 (Nat.le_of_ble_eq_true rfl) rfl ?_
  refine G_aload_n 1 dr_cJx4a65c_add_7a177_21 rfl ?_
  refine Gp_get 1 hmq1036 he1082 dr_cJx4a65c_add_7a177_22 (gk_Jx4a65c D I) (Nat.le_of_ble_eq_true rfl) wr_7_17 rfl ?_
  refine G_dup dr_cJx4a65c_add_7a177_25 rfl ?_
  refine G_astore (L' := [(4, .ref q1038), (3, .int p1041), (0, .ref q1036), (1, .int p1039), (2, .ref q1037)]) dr_cJx4a65c_add_7a177_26 (Nat.le_of_ble_eq_true rfl) rfl ?_
  refine Gp_alen (Int32.ofNat n1050) 4 hmq1038 he1081 dr_cJx4a65c_add_7a177_28 rfl rfl (G_nam fun z1084 hz1084 => ?_)
  have ez1084 : z1084.toInt = (n1050 : Nat) := gI_ofM hz1084 (by omega)
  have bz1084 : gB z1084 0 16777216 := ⟨by omega, by omega⟩
  refine G_icmp_ne 38 dr_cJx4a65c_add_7a177_29 (by decide +kernel) (fun hc1085 => ?_) (fun hc => absurd (show False by have := gC_eq hc; omega) not_false)
  have r1087 : p1041.toInt ≠ z1084.toInt := gC_ne hc1085
  refine G_aload 0 dr_cJx4a65c_add_7a177_38 rfl ?_
  refine G_iload_n 3 dr_cJx4a65c_add_7a177_40 rfl ?_
  refine G_aload 0 dr_cJx4a65c_add_7a177_41 rfl ?_
  refine G_iload_n 3 dr_cJx4a65c_add_7a177_43 rfl ?_
  refine G_iconst 1 dr_cJx4a65c_add_7a177_44 (by decide +kernel) ?_
  refine G_iadd dr_cJx4a65c_add_7a177_45 (G_nam fun z1088 hz1088 => ?_)
  have ez1088 : z1088.toInt = p1039.toInt + 1 := by rw [gI_add hz1088 bp1039 (gBl (show Int32.toInt 1 = 1 by decide)) (by decide) (by decide), show Int32.toInt 1 = 1 from by decide]
  have bz1088 : gB z1088 1 16777217 := gB_add (gI_add hz1088 bp1039 (gBl (show Int32.toInt 1 = 1 by decide)) (by decide) (by decide)) bp1039 (gBl (show Int32.toInt 1 = 1 by decide)) (by decide) (by decide)
  refine G_iload_n 1 dr_cJx4a65c_add_7a177_46 rfl ?_
  refine G_iload_n 3 dr_cJx4a65c_add_7a177_47 rfl ?_
  refine G_isub dr_cJx4a65c_add_7a177_48 (G_nam fun z1089 hz1089 => ?_)
  have ez1089 : z1089.toInt = p1041.toInt - p1039.toInt := by rw [gI_sub hz1089 bp1041 bp1039 (by decide) (by decide)]
  have bz1089 : gB z1089 (-16777216) 16777216 := gB_sub (gI_sub hz1089 bp1041 bp1039 (by decide) (by decide)) bp1041 bp1039 (by decide) (by decide)
  refine Gp_copyq 4 hmq1038 hmq1038 he1081 he1081 dr_cJx4a65c_add_7a177_49 wr_10_228 wr_5_113 wr_5_112 wr_1_34 rfl (by omega) (by omega) (by omega) (by omega) (by omega) (fun j _ w hw => rEl_ob (rEl_frG (rEl_src x1053 rSrc_rf) (rSub_rf (P := P1034)) hfr1083 (rNg_c (rNg_o heq1036 (by decide) (by decide)) rNg_n)) hw) (Nat.le_of_ble_eq_true rfl) (Nat.le_of_ble_eq_true rfl) (fun F1090 e1091 n1092 => ?_)
  obtain ⟨f1093, hf1093⟩ : ∃ z, z = va_cpy f1049 f1049 p1039.toNatClampNeg z1088.toNatClampNeg z1089.toNatClampNeg := ⟨_, rfl⟩
  rw [← hf1093] at e1091
  have he1094 : F1090 q1036 = .inr (4, [.int z1076, .ref q1038, .int p1041]) := (n1092 q1036 (rn_oa he1082 he1081)).trans he1082
  have he1095 : F1090 q1037 = .inr (20, [.int p1042, .int p1043, .int p1044, .int p1045, .int p1046, .int p1047, .int p1048]) := (n1092 q1037 (rn_oa he1080 he1081)).trans he1080
  have he1096 : F1090 q1038 = .inl (I (.object "java/lang/Object"), n1050, .inr (.inr (.inr (.inr f1093)))) := e1091
  have hfr1097 : rFr [q1038, q1036] P1034 F1035 F1090 := rFr_put hfr1083 n1092
  refine G_aload 0 dr_cJx4a65c_add_7a177_52 rfl ?_
  refine G_iload_n 3 dr_cJx4a65c_add_7a177_54 rfl ?_
  refine G_aload_n 4 dr_cJx4a65c_add_7a177_55 rfl ?_
  refine Gp_aast 4 hmq1038 he1096 dr_cJx4a65c_add_7a177_56 rfl ⟨hmq1037, _, _, _, _, _, he1095, rfl, gr_cast 3 rfl⟩ (gB_inr (by omega) (by omega)) (fun F1098 e1099 n1100 => ?_)
  obtain ⟨f1101, hf1101⟩ : ∃ z, z = va_up f1093 p1039.toNatClampNeg (some q1037) := ⟨_, rfl⟩
  rw [← hf1101] at e1099
  have he1102 : F1098 q1036 = .inr (4, [.int z1076, .ref q1038, .int p1041]) := (n1100 q1036 (rn_oa he1094 he1096)).trans he1094
  have he1103 : F1098 q1037 = .inr (20, [.int p1042, .int p1043, .int p1044, .int p1045, .int p1046, .int p1047, .int p1048]) := (n1100 q1037 (rn_oa he1095 he1096)).trans he1095
  have he1104 : F1098 q1038 = .inl (I (.object "java/lang/Object"), n1050, .inr (.inr (.inr (.inr f1101)))) := e1099
  have hfr1105 : rFr [q1038, q1036] P1034 F1035 F1098 := rFr_put' List.mem_cons_self hfr1097 n1100
  refine G_aload_n 2 dr_cJx4a65c_add_7a177_57 rfl ?_
  refine G_iload_n 1 dr_cJx4a65c_add_7a177_58 rfl ?_
  refine G_iconst 1 dr_cJx4a65c_add_7a177_59 (by decide +kernel) ?_
  refine G_iadd dr_cJx4a65c_add_7a177_60 (G_nam fun z1106 hz1106 => ?_)
  have ez1106 : z1106.toInt = p1041.toInt + 1 := by rw [gI_add hz1106 bp1041 (gBl (show Int32.toInt 1 = 1 by decide)) (by decide) (by decide), show Int32.toInt 1 = 1 from by decide]
  have bz1106 : gB z1106 1 16777217 := gB_add (gI_add hz1106 bp1041 (gBl (show Int32.toInt 1 = 1 by decide)) (by decide) (by decide)) bp1041 (gBl (show Int32.toInt 1 = 1 by decide)) (by decide) (by decide)
  refine Gp_put 2 hmq1036 he1102 dr_cJx4a65c_add_7a177_61 (gk_Jx4a65c D I) (Nat.le_of_ble_eq_true rfl) wr_7_18 rfl rfl rfl (Nat.le_of_ble_eq_true rfl) (fun F1107 e1108 n1109 => ?_)
  have he1110 : F1107 q1037 = .inr (20, [.int p1042, .int p1043, .int p1044, .int p1045, .int p1046, .int p1047, .int p1048]) := (n1109 q1037 (rn_oo he1103 he1102 (by decide))).trans he1103
  have he1111 : F1107 q1038 = .inl (I (.object "java/lang/Object"), n1050, .inr (.inr (.inr (.inr f1101)))) := (n1109 q1038 (rn_ao he1104 he1102)).trans he1104
  have he1112 : F1107 q1036 = .inr (4, [.int z1076, .ref q1038, .int z1106]) := e1108
  have hfr1113 : rFr [q1038, q1036] P1034 F1035 F1107 := rFr_put' (List.mem_cons_of_mem _ List.mem_cons_self) hfr1105 n1109
  exact G_vretA dr_cJx4a65c_add_7a177_64 rfl (Nat.le_of_ble_eq_true rfl) (Nat.le_of_ble_eq_true rfl) ⟨F1107, z1076, z1106, f1101, rfl, rfl, hfr1113, he1112, he1110, he1111, (Nat.le_of_ble_eq_true rfl), (Nat.le_of_ble_eq_true rfl), bz1106, (by omega), (rI_ins (m := _) (fun _ _ => rfl) hf1093 hf1101 (by omega) (by omega) (by omega) (by omega)), (rSrcX_up hf1101 (rSrc_cpy hf1093 rSrc_rf rSrc_rf))⟩
end
