/-! a block is finished; a program begun; numbers of a family -/
def gBeg (γ : Nat → Nat → Nat) (f B : Nat) : Nat → Nat → Nat
  | 0 => fun a => if γ 1 a = f then (if γ 0 a = 1 then 101 else if γ 0 a = 2 ∨ γ 0 a = 202 then 102 else if γ 0 a = 3 then 103 else γ 0 a) else γ 0 a
  | 6 => fun g => if g = f then 0 else γ 6 g
  | 7 => fun g => if g = f then 0 else γ 7 g
  | 16 => fun g => if g = f then 0 else γ 16 g
  | 18 => fun g => if g = f then 0 else γ 18 g
  | 19 => fun g => if g = f then B else γ 19 g
  | 23 => fun g => if g = f then 1 else γ 23 g
  | j => γ j
section ROP6
variable {D : va_G} {I : FieldType → ClassId} {P P1 : List Nat} {F F1 : Nat → va_E} {γ γ1 el : Nat → Nat → Nat} {l x c e e1 n1 k lb lr b n : Nat} {rn md rn1 md1 z0 z1 : Int32}
theorem RS_seal {p s : Int32} (hT : RS D I P F γ el) (hb : γ 0 b = 202) (hF : F b = .inr (17, [.ref l, .ref n, .int p, .int s])) (hc : γ 0 c = 9) (hcf : γ 1 c = γ 1 b) (hp : p.toInt < γ 19 (γ 1 b)) (hs : s.toInt < γ 19 (γ 1 b)) (hv : γ 6 (γ 1 b) = 0) (hn1 : rk_1 γ n (F n)) : RS D I P F (gSea γ b n) el := by
  obtain ⟨u1, u2, u3, u4, u5, u6, u7, u8⟩ := rk202_at hF (show rk_202 γ b (F b) from RS_o hT hb)
  have hbn : b ≠ n := fun q => by rw [q, u4] at hb; cases hb
  have k0 : ∀ a, a ≠ b → a ≠ n → (gSea γ b n) 0 a = γ 0 a := fun a h1 h2 => (if_neg h1).trans (if_neg h2)
  have kb : (gSea γ b n) 0 b = 2 := if_pos rfl
  have kn : (gSea γ b n) 0 n = 1 := (if_neg (Ne.symm hbn)).trans (if_pos rfl)
  have nb : ∀ a, γ 0 a ≠ 202 → a ≠ b := fun a h q => h (by rw [q]; exact hb)
  have nn : ∀ a, γ 0 a ≠ 101 → a ≠ n := fun a h q => h (by rw [q]; exact u4)
  have hlk : ∀ w, rLK γ w → rLK (gSea γ b n) w := fun w hw => by
    by_cases q : w = b
    · rw [q]; exact Or.inr (Or.inl kb)
    · by_cases q2 : w = n
      · rw [q2]; exact Or.inl kn
      · unfold rLK at hw ⊢
        rw [k0 w q q2]
        exact hw
  refine RS_gen (T := fun a => a = c ∨ a = b ∨ a = n) (γ 1 b) hT (fun a ha => ?_) (fun a ha hTa => ?_) (fun a ha hTa => ?_) (fun a h0 hTa => ?_) (fun a h4 h100 => k0 a (nb a (by omega)) (nn a (by omega))) (fun a h0 hf => k0 a (fun q => hf (by rw [q])) (fun q => hf (by rw [q]; exact u5))) hlk (fun j a h0 hj => ?_) (fun j hj => ?_) (fun j g hg hj => ?_) (Or.inl (Nat.le_refl _)) (Or.inl ⟨Nat.le_refl _, Or.inl rfl⟩) (fun g _ h => h) (fun a h0 hTa => ⟨rfl, rfl, rfl, rfl⟩) (fun e' he' hTe => rfl) (fun a h0 hTa ha => ⟨rfl, rfl⟩) (fun a ha haf => Or.inl (RS_same_c hT hc ha (haf.trans hcf.symm))) (Or.inr ⟨fun a h0 => ?_, fun a ha hne => ?_, fun a ha hne h22 => ?_⟩)
  · by_cases q : a = b
    · rw [q]; exact hT.1 b (by rw [hb]; decide)
    · by_cases q2 : a = n
      · rw [q2]; exact hT.1 n (by rw [u4]; decide)
      · rw [k0 a q q2] at ha; exact hT.1 a ha
  · rcases hTa with rfl | rfl | rfl
    · rw [k0 a (nb a (by rw [hc]; decide)) (nn a (by rw [hc]; decide)), hc]
      obtain ⟨lb, lr, rn, md, w1, w2, w3, w4, w5, w6, w7, w8, w9, w10, w11, w12, w13, w14, w15, w16, w17⟩ := show rk_9 γ el a (F a) from RS_o hT hc
      unfold rKd at w3 w5
      have hlr5 : rk_5 D I γ el F lr := RS_o hT w5
      refine ⟨lb, lr, rn, md, w1, w2, (k0 lb (nb lb (by rw [w3]; decide)) (nn lb (by rw [w3]; decide))).trans w3, w4, (k0 lr (nb lr (by rw [w5]; decide)) (nn lr (by rw [w5]; decide))).trans w5, w6, w7, w8, w9, w10, w11, w12, w13, fun i hi => ?_, fun i hi hi2 => ?_, fun i hi hi2 => ?_, w17⟩
      · have v := w14 i hi
        by_cases q : el lb i = b
        · rw [q]; exact Or.inl kb
        · have q2 : el lb i ≠ n := nn _ (by omega)
          rw [k0 _ q q2]
          exact v
      · have v := w15 i hi hi2
        rw [k0 _ (nb _ (by omega)) (nn _ (by omega))]
        exact v
      · have v := w16 i hi hi2
        have v22 := (hlr5.2 i hi2).2.2.2
        rw [k0 _ (nb _ (by omega)) (fun q => by rw [q, u6.2] at v22; cases v22)]
        exact v
    · rw [kb]
      exact ⟨l, n, p, s, hF, u1, (k0 l (nb l (by rw [u2]; decide)) (nn l (by rw [u2]; decide))).trans u2, u3, kn, u5, u6, u7, u8, Or.inl hv, hp, hs⟩
    · rw [kn]
      exact hn1
  · have hb' : a ≠ b := fun q => hTa (Or.inr (Or.inl q))
    have hn' : a ≠ n := fun q => hTa (Or.inr (Or.inr q))
    rw [k0 a hb' hn'] at ha
    exact ⟨ha, k0 a hb' hn', rfl⟩
  · rcases hTa with rfl | rfl | rfl
    · exact hcf
    · rfl
    · exact u5
  · rcases hj with rfl | rfl | rfl | rfl | rfl | rfl | rfl <;> rfl
  · rcases hj with rfl | rfl | rfl | rfl | rfl <;> rfl
  · rcases hj with rfl | rfl | rfl | rfl | rfl <;> rfl
  · by_cases q : a = b
    · rw [q, kb]; exact Or.inr (Or.inr (Or.inr (Or.inl ⟨hb, rfl⟩)))
    · by_cases q2 : a = n
      · rw [q2, kn]; exact Or.inr (Or.inl ⟨u4, rfl⟩)
      · exact Or.inl (k0 a q q2)
  · exact absurd ((k0 a (nb a (by omega)) (nn a (by omega))).trans ha) hne
  · by_cases q2 : a = n
    · rw [q2, u6.1]; exact Or.inr (Or.inl rfl)
    · exact absurd ((k0 a (nb a (by omega)) q2).trans ha) hne
/-- numbers of a family change alone -/
theorem RS_num (f : Nat) (hT : RS D I P F γ el) (hc : γ 0 c = 9) (hcf : γ 1 c = f) (hj : ∀ j, j ≠ 6 → j ≠ 7 → j ≠ 19 → j ≠ 23 → γ1 j = γ j) (hg : ∀ j g, g ≠ f → γ1 j g = γ j g) (h7 : γ 7 f ≤ γ1 7 f) (h19 : γ 19 f ≤ γ1 19 f ∧ (γ1 6 f = γ 6 f ∨ γ1 6 f = 0 ∨ γ 19 f ≤ γ1 6 f)) (h23 : ∀ g, g < 2 → 0 < γ 6 g ∨ 0 < γ 23 g → 0 < γ1 6 g ∨ 0 < γ1 23 g)
    (h9 : ∀ lb lr rn md, F c = .inr (18, [.ref lb, .ref lr, .int rn, .int md]) → rk_9 γ el c (F c) → (γ1 6 f = 0 ∨ (md.toInt = γ1 6 f ∧ md.toInt ≤ 40 ∧ γ1 19 f ≤ γ1 6 f)) ∧ (∀ i : Nat, (i : Int) < md.toInt → γ 0 (el lb i) = 2 ∨ (γ1 6 f = 0 ∧ γ 0 (el lb i) = 202))) : RS D I P F γ1 el := by
  have e : ∀ j, j ≠ 6 → j ≠ 7 → j ≠ 19 → j ≠ 23 → ∀ a, γ1 j a = γ j a := fun j h1 h2 h3 h4 a => by rw [hj j h1 h2 h3 h4]
  have e0 := e 0 (by decide) (by decide) (by decide) (by decide)
  refine RS_gen (T := fun a => a = c) f hT (fun a ha => hT.1 a (by rw [e0] at ha; exact ha)) (fun a ha hTa => ?_) (fun a ha hTa => ⟨by rw [e0] at ha; exact ha, e0 a, rfl⟩) (fun a h0 hTa => by rw [hTa]; exact hcf) (fun a _ _ => e0 a) (fun a _ _ => e0 a) (fun w hw => by unfold rLK at hw ⊢; rw [e0]; exact hw) (fun j a h0 hj => ?_) (fun j hj => ?_) (fun j g hne _ => hg j g hne) (Or.inl h7) (Or.inl h19) h23 (fun a h0 hTa => ⟨e 2 (by decide) (by decide) (by decide) (by decide) a, e 13 (by decide) (by decide) (by decide) (by decide) a, e 17 (by decide) (by decide) (by decide) (by decide) a, rfl⟩) (fun e' he' hTe => rfl) (fun a h0 hTa ha => ⟨e 4 (by decide) (by decide) (by decide) (by decide) a, e 5 (by decide) (by decide) (by decide) (by decide) a⟩) (fun a ha haf => RS_same_c hT hc ha (haf.trans hcf.symm)) (Or.inr ⟨fun a h0 => Or.inl (e0 a), fun a ha hne => absurd ((e0 a).trans ha) hne, fun a ha hne h22 => absurd ((e0 a).trans ha) hne⟩)
  · rw [hTa, e0, hc]
    have h9' : rk_9 γ el c (F c) := RS_o hT hc
    obtain ⟨lb, lr, rn, md, w1, w2, w3, w4, w5, w6, w7, w8, w9, w10, w11, w12, w13, w14, w15, w16, w17⟩ := show rk_9 γ el c (F c) from RS_o hT hc
    obtain ⟨g1, g2⟩ := h9 lb lr rn md w1 h9'
    have e1 := e 1 (by decide) (by decide) (by decide) (by decide)
    have e2 := hj 2 (by decide) (by decide) (by decide) (by decide)
    have e14 := hj 14 (by decide) (by decide) (by decide) (by decide)
    refine ⟨lb, lr, rn, md, w1, ⟨by rw [e14]; exact w2.1, by rw [hj 15 (by decide) (by decide) (by decide) (by decide)]; exact w2.2.1, by rw [e1, hj 21 (by decide) (by decide) (by decide) (by decide)]; exact w2.2.2⟩, (e0 lb).trans w3, ?_, (e0 lr).trans w5, ?_, w7, by rw [e2]; exact w8, w9, by rw [e2]; exact w10, by rw [e2]; exact w11, by rw [e2]; exact w12, ?_, fun i hi => ?_, fun i hi hi2 => ?_, fun i hi hi2 => ?_, ?_⟩
    · unfold rFm; rw [e1, e1]; exact w4
    · unfold rFm; rw [e1, e1]; exact w6
    · rw [e1, hcf]; exact g1
    · rw [e0, e1, hcf]; exact g2 i hi
    · rw [e2] at hi2; rw [e0]; exact w15 i hi hi2
    · rw [e2] at hi2; rw [e0]; exact w16 i hi hi2
    · unfold rCd at w17 ⊢
      rw [e1, hj 16 (by decide) (by decide) (by decide) (by decide), hj 18 (by decide) (by decide) (by decide) (by decide), e2, e14]
      exact w17
  · rcases hj with rfl | rfl | rfl | rfl | rfl | rfl | rfl <;> exact e _ (by decide) (by decide) (by decide) (by decide) a
  · rcases hj with rfl | rfl | rfl | rfl | rfl <;> exact hj _ (by decide) (by decide) (by decide) (by decide)
theorem rk1_R {a : Nat} {q : va_E} (h : rk_1 γ a q) : rkR q := by
  obtain ⟨op, t, x, y, s, ra, rb, c1, c2, c3, c4, c5, c6, c7, c8, c9, -⟩ := h
  exact ⟨op, t, x, y, s, ra, rb, c1, c2, c3, c4, c5, c6, c7, c8, c9⟩
theorem RS_beg (B : Nat) (hT : RS D I P F γ el) (hc : γ 0 c = 9) (hF : F c = .inr (18, [.ref lb, .ref lr, .int rn, .int md])) (hfr : ∀ a, γ 0 a ≠ 0 → a ≠ c → F1 a = F a) (c1 : F1 c = .inr (18, [.ref lb, .ref lr, .int 0, .int 0])) : RS D I P F1 (gBeg γ (γ 1 c) B) el := by
  obtain ⟨w2, w3, w4, w5, w6, w7, w8, w9, w10, w11, w12, w13, w14, w15, w16, w17⟩ := rk9_at hF (show rk_9 γ el c (F c) from RS_o hT hc)
  generalize hγ1 : gBeg γ (γ 1 c) B = γ1
  have kf : ∀ a, γ 1 a ≠ γ 1 c → γ1 0 a = γ 0 a := fun a h => by rw [← hγ1]; exact if_neg h
  have kx : ∀ a, γ 1 a = γ 1 c → γ1 0 a = (if γ 0 a = 1 then 101 else if γ 0 a = 2 ∨ γ 0 a = 202 then 102 else if γ 0 a = 3 then 103 else γ 0 a) := fun a h => by rw [← hγ1]; exact if_pos h
  have ko : ∀ a, γ 0 a ≠ 1 → γ 0 a ≠ 2 → γ 0 a ≠ 202 → γ 0 a ≠ 3 → γ1 0 a = γ 0 a := fun a h1 h2 h3 h4 => by
    by_cases q : γ 1 a = γ 1 c
    · rw [kx a q, if_neg h1, if_neg (fun z => by rcases z with z | z; exact h2 z; exact h3 z), if_neg h4]
    · exact kf a q
  have kr : ∀ a, γ 1 a = γ 1 c → γ 0 a = 1 ∨ γ 0 a = 101 → γ1 0 a = 101 := fun a h h2 => by
    rcases h2 with h2 | h2
    · rw [kx a h, if_pos h2]
    · exact (ko a (by omega) (by omega) (by omega) (by omega)).trans h2
  have kb : ∀ a, γ 1 a = γ 1 c → γ 0 a = 2 ∨ γ 0 a = 202 ∨ γ 0 a = 102 → γ1 0 a = 102 := fun a h h2 => by
    rcases h2 with h2 | h2 | h2
    · rw [kx a h, if_neg (by omega), if_pos (Or.inl h2)]
    · rw [kx a h, if_neg (by omega), if_pos (Or.inr h2)]
    · exact (ko a (by omega) (by omega) (by omega) (by omega)).trans h2
  have kl : ∀ a, γ 1 a = γ 1 c → γ 0 a = 3 ∨ γ 0 a = 103 → γ1 0 a = 103 := fun a h h2 => by
    rcases h2 with h2 | h2
    · rw [kx a h, if_neg (by omega), if_neg (by omega), if_pos h2]
    · exact (ko a (by omega) (by omega) (by omega) (by omega)).trans h2
  have kz : ∀ a, γ1 0 a ≠ 0 → γ 0 a ≠ 0 := fun a h q => h ((ko a (by omega) (by omega) (by omega) (by omega)).trans q)
  have kj : ∀ j, j = 1 ∨ j = 2 ∨ j = 3 ∨ j = 4 ∨ j = 5 ∨ j = 8 ∨ j = 9 ∨ j = 10 ∨ j = 11 ∨ j = 12 ∨ j = 13 ∨ j = 14 ∨ j = 15 ∨ j = 17 ∨ j = 20 ∨ j = 21 ∨ j = 22 → γ1 j = γ j := fun j hj => by
    rw [← hγ1]
    rcases hj with rfl | rfl | rfl | rfl | rfl | rfl | rfl | rfl | rfl | rfl | rfl | rfl | rfl | rfl | rfl | rfl | rfl <;> rfl
  have kn : ∀ j g, g ≠ γ 1 c → j = 6 ∨ j = 7 ∨ j = 16 ∨ j = 18 ∨ j = 19 → γ1 j g = γ j g := fun j g hg hj => by
    rw [← hγ1]
    rcases hj with rfl | rfl | rfl | rfl | rfl <;> exact if_neg hg
  have k6 : γ1 6 (γ 1 c) = 0 := by rw [← hγ1]; exact if_pos rfl
  have k16 : γ1 16 (γ 1 c) = 0 := by rw [← hγ1]; exact if_pos rfl
  have k18 : γ1 18 (γ 1 c) = 0 := by rw [← hγ1]; exact if_pos rfl
  have hM : ∀ g, g < 2 → 0 < γ 6 g ∨ 0 < γ 23 g → 0 < γ1 6 g ∨ 0 < γ1 23 g := fun g _ h => by
    by_cases q : g = γ 1 c
    · right
      rw [← hγ1]
      show 0 < (if g = γ 1 c then 1 else γ 23 g)
      rw [if_pos q]
      decide
    · rw [kn 6 g q (by decide)]
      have : γ1 23 g = γ 23 g := by rw [← hγ1]; exact if_neg q
      rw [this]
      exact h
  clear hγ1
  have k1 : γ1 1 = γ 1 := kj 1 (by decide)
  have hlk : ∀ w, rLK γ w → rLK γ1 w := fun w hw => by
    by_cases q : γ 1 w = γ 1 c
    · unfold rLK at hw
      by_cases q2 : γ 0 w = 1 ∨ γ 0 w = 101
      · exact Or.inr (Or.inr (Or.inl (kr w q q2)))
      · exact Or.inr (Or.inr (Or.inr (Or.inl (kb w q (by omega)))))
    · unfold rLK at hw ⊢
      rw [kf w q]
      exact hw
  have hL : ∀ ka a, ka = 6 ∨ ka = 7 ∨ ka = 8 → a ≠ c → γ 0 a ≠ 0 → rkL D I γ el F ka a → rkL D I γ1 el F1 ka a := fun ka a hka hac h0 z => by
    refine rkL_t (hfr a h0 hac) ⟨by rw [kj 2 (by decide)], by rw [kj 13 (by decide)], by rw [kj 17 (by decide)], rfl⟩ (fun e he he3 => ⟨hfr e (by omega) (fun q => by rw [q, hc] at he; omega), ko e (by omega) (by omega) (by omega) (by omega), by rw [kj 3 (by decide)], by rw [k1]⟩) (by rw [k1]) hlk z
  have hB : ∀ a (l n : Nat), γ 1 a = γ 1 c → rGl γ a l n → (γ 0 l = 3 ∨ γ 0 l = 103) → γ 1 l = γ 1 a → (γ 0 n = 1 ∨ γ 0 n = 101) → γ 1 n = γ 1 a → rOw γ n a → rGl γ1 a l n ∧ rKd γ1 l 103 ∧ rFm γ1 l a ∧ rKd γ1 n 101 ∧ rFm γ1 n a ∧ rOw γ1 n a := fun a l n hf g1 g2 g3 g4 g5 g6 => by
    unfold rGl rKd rFm rOw
    rw [k1, kj 14 (by decide), kj 15 (by decide), kj 20 (by decide), kj 4 (by decide), kj 22 (by decide)]
    exact ⟨g1, kl l (by omega) g2, g3, kr n (by omega) g4, g5, g6⟩
  refine RS_gen (T := fun a => γ 1 a = γ 1 c ∧ (γ 0 a < 10 ∨ 100 ≤ γ 0 a)) (γ 1 c) hT (fun a ha => hT.1 a (kz a ha)) (fun a ha hTa => ?_) (fun a ha hTa => ?_) (fun a h0 hTa => hTa.1) (fun a h4 h100 => ko a (by omega) (by omega) (by omega) (by omega)) (fun a h0 hf => kf a hf) hlk (fun j a h0 hj => ?_) (fun j hj => kj j (by omega)) kn (Or.inr (fun a ha haf => ⟨haf, by omega⟩)) (Or.inr (fun a ha haf => ⟨haf, by omega⟩)) hM (fun a h0 hTa => ⟨by rw [kj 2 (by decide)], by rw [kj 13 (by decide)], by rw [kj 17 (by decide)], rfl⟩) (fun e' he' hTe => hfr e' (by omega) (fun q => by rw [q, hc] at he'; omega)) (fun a h0 hTa ha => ⟨by rw [kj 4 (by decide)], by rw [kj 5 (by decide)]⟩) (fun a ha haf => ⟨haf, by omega⟩) (Or.inl (fun a h0 haf hk => ⟨haf, hk⟩))
  · obtain ⟨hf, hk⟩ := hTa
    have h0 := kz a ha
    have z := hT.2 a
    by_cases ec : a = c
    · subst ec
      rw [ko a (by omega) (by omega) (by omega) (by omega), hc]
      have h4 : rk_4 D I γ el F lb := RS_o hT w3
      have h5 : rk_5 D I γ el F lr := RS_o hT w5
      refine ⟨lb, lr, 0, 0, c1, ?_, (ko lb (by omega) (by omega) (by omega) (by omega)).trans w3, ?_, (ko lr (by omega) (by omega) (by omega) (by omega)).trans w5, ?_, by decide, ?_, by decide, ?_, by rw [kj 2 (by decide)]; exact w11, by rw [kj 2 (by decide)]; exact w12, Or.inl (by rw [k1]; exact k6), fun i hi => absurd hi ?_, fun i hi hi2 => ?_, fun i hi hi2 => ?_, ?_⟩
      · unfold rGc; rw [k1, kj 14 (by decide), kj 15 (by decide), kj 21 (by decide)]; exact w2
      · unfold rFm; rw [k1]; exact w4
      · unfold rFm; rw [k1]; exact w6
      · show (0 : Int) ≤ _; omega
      · show (0 : Int) ≤ _; omega
      · show ¬ ((i : Int) < 0); omega
      · rw [kj 2 (by decide)] at hi2
        obtain ⟨v1, v2, v3⟩ := h4.2 i hi2
        exact kb _ (v2.trans w4) v1
      · rw [kj 2 (by decide)] at hi2
        obtain ⟨v1, v2, v3⟩ := h5.2 i hi2
        exact kr _ (v2.trans w6) v1
      · unfold rCd
        rw [k1, k16, k18]
        exact ⟨rfl, Nat.le_refl _⟩
    have hFa : F1 a = F a := hfr a h0 ec
    by_cases hx : γ 0 a = 1 ∨ γ 0 a = 2 ∨ γ 0 a = 102 ∨ γ 0 a = 202 ∨ γ 0 a = 101 ∨ γ 0 a = 3 ∨ γ 0 a = 4 ∨ γ 0 a = 5 ∨ γ 0 a = 103 ∨ γ 0 a = 9
    rcases hx with hkk | hkk | hkk | hkk | hkk | hkk | hkk | hkk | hkk | hkk <;> rw [hkk] at z
    · rw [kr a hf (Or.inl hkk)]
      show rkR (F1 a)
      rw [hFa]; exact rk1_R (show rk_1 γ a (F a) from z)
    · obtain ⟨l, n, p, s, v1, v2, v3, v4, v5, v6, v7, v8, v9, -⟩ := show rk_2 γ a (F a) from z
      obtain ⟨u1, u2, u3, u4, u5, u6⟩ := hB a l n hf v2 (Or.inl v3) v4 (Or.inl v5) v6 v7
      rw [kb a hf (Or.inl hkk)]
      exact ⟨l, n, p, s, hFa.trans v1, u1, u2, u3, u4, u5, u6, v8, v9⟩
    · obtain ⟨l, n, p, s, v1, v2, v3, v4, v5, v6, v7, v8, v9⟩ := show rk_102 γ a (F a) from z
      obtain ⟨u1, u2, u3, u4, u5, u6⟩ := hB a l n hf v2 (Or.inr v3) v4 (Or.inr v5) v6 v7
      rw [kb a hf (Or.inr (Or.inr hkk))]
      exact ⟨l, n, p, s, hFa.trans v1, u1, u2, u3, u4, u5, u6, v8, v9⟩
    · obtain ⟨l, n, p, s, v1, v2, v3, v4, v5, v6, v7, v8, v9⟩ := show rk_202 γ a (F a) from z
      obtain ⟨u1, u2, u3, u4, u5, u6⟩ := hB a l n hf v2 (Or.inl v3) v4 (Or.inr v5) v6 v7
      rw [kb a hf (Or.inr (Or.inl hkk))]
      exact ⟨l, n, p, s, hFa.trans v1, u1, u2, u3, u4, u5, u6, v8, v9⟩
    · rw [kr a hf (Or.inr hkk)]
      show rkR (F1 a)
      rw [hFa]; exact z
    · rw [kl a hf (Or.inl hkk)]
      exact hL 6 a (by omega) ec h0 (show rk_3 D I γ el F a from z).1
    · rw [ko a (by omega) (by omega) (by omega) (by omega), hkk]
      have z : rk_4 D I γ el F a := z
      refine ⟨hL 7 a (by omega) ec h0 z.1, fun i hi => ?_⟩
      rw [kj 2 (by decide)] at hi
      rw [k1, kj 8 (by decide)]
      obtain ⟨v1, v2, v3⟩ := z.2 i hi
      exact ⟨Or.inr (Or.inr (kb _ (v2.trans hf) v1)), v2, v3⟩
    · rw [ko a (by omega) (by omega) (by omega) (by omega), hkk]
      have z : rk_5 D I γ el F a := z
      refine ⟨hL 8 a (by omega) ec h0 z.1, fun i hi => ?_⟩
      rw [kj 2 (by decide)] at hi
      rw [k1, kj 8 (by decide), kj 22 (by decide)]
      obtain ⟨v1, v2, v3⟩ := z.2 i hi
      exact ⟨Or.inr (kr _ (v2.trans hf) v1), v2, v3⟩
    · rw [kl a hf (Or.inr hkk)]
      exact hL 6 a (by omega) ec h0 z
    · exact absurd (RS_same_c hT hc hkk hf) ec
    · rw [ko a (by omega) (by omega) (by omega) (by omega)]
      clear z
      unfold rFit
      split <;> first
        | exact trivial
        | (exfalso; omega)
  · have h0 := kz a ha
    have hne : γ1 0 a = γ 0 a := by
      by_cases q : γ 1 a = γ 1 c
      · exact ko a (fun z => hTa ⟨q, by omega⟩) (fun z => hTa ⟨q, by omega⟩) (fun z => hTa ⟨q, by omega⟩) (fun z => hTa ⟨q, by omega⟩)
      · exact kf a q
    exact ⟨h0, hne, hfr a h0 (fun q => hTa ⟨by rw [q], by rw [q]; omega⟩)⟩
  · rw [kj j (by omega)]
end ROP6
