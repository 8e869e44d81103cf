/-! blocks of the store, ends, beginnings -/
def gBlo (γ : Nat → Nat → Nat) (b l : Nat) : Nat → Nat → Nat
  | 0 => fun a => if a = b then 202 else if a = l then 3 else γ 0 a
  | 2 => fun a => if a = l then 0 else γ 2 a
  | j => γ j
def gBln (γ : Nat → Nat → Nat) (lb b l n e1 n1 f : Nat) : Nat → Nat → Nat
  | 0 => fun a => if a = b then 202 else if a = l then 3 else if a = n then 101 else if a = e1 then 7 else γ 0 a
  | 1 => fun a => if a = b ∨ a = l ∨ a = n ∨ a = e1 then f else γ 1 a
  | 2 => fun a => if a = l then 0 else if a = lb then γ 2 lb + 1 else γ 2 a
  | 3 => fun a => if a = e1 then lb else γ 3 a
  | 4 => fun a => if a = n then b else γ 4 a
  | 8 => fun a => if a = b then γ 2 lb else γ 8 a
  | 13 => fun a => if a = l then 0 else if a = lb then n1 else γ 13 a
  | 14 => fun a => if a = b then l else γ 14 a
  | 15 => fun a => if a = b then n else γ 15 a
  | 17 => fun a => if a = l then 0 else if a = lb then max (γ 17 lb) (γ 2 lb + 1) else γ 17 a
  | 20 => fun a => if a = l then b else γ 20 a
  | 22 => fun a => if a = n then 1 else γ 22 a
  | j => γ j
def gSea (γ : Nat → Nat → Nat) (b n : Nat) : Nat → Nat → Nat
  | 0 => fun a => if a = b then 2 else if a = n then 1 else γ 0 a
  | j => γ j
/-- the array of an empty list -/
def rEc (D : va_G) (I : FieldType → ClassId) (γ : Nat → Nat → Nat) (F1 : Nat → va_E) (l e E : Nat) : Prop := (E = D.2 1002 1 ∧ γ 13 l = 0) ∨ (E = e ∧ γ 0 e = 6 ∧ γ 3 e = l ∧ γ 1 e = γ 1 l ∧ ∃ (n1 : Nat) (f1 : Nat → Option Nat), F1 e = .inl (I (.object "java/lang/Object"), n1, .inr (.inr (.inr (.inr f1)))) ∧ (n1 : Int) ≤ 1000000 ∧ (n1 = γ 13 l ∧ 10 ≤ n1) ∧ ∀ j w, f1 j = some w → rLK γ w)
section ROP4
variable {D : va_G} {I : FieldType → ClassId} {P P1 : List Nat} {F F1 : Nat → va_E} {γ el : Nat → Nat → Nat} {l x c e e1 n1 k lb lr b n : Nat} {rn md rn1 md1 : Int32}
theorem rk102_at {p s : Int32} {q : va_E} (hF : q = .inr (17, [.ref l, .ref n, .int p, .int s])) (h : rk_102 γ b q) : rGl γ b l n ∧ γ 0 l = 103 ∧ γ 1 l = γ 1 b ∧ γ 0 n = 101 ∧ γ 1 n = γ 1 b ∧ rOw γ n b ∧ gB p 0 39 ∧ gB s 0 39 := by
  obtain ⟨l', n', p', s', w1, w⟩ := h
  rw [hF] at w1
  injection w1 with w1
  injection w1 with _ w1
  injection w1 with a1 w1
  injection w1 with a2 w1
  injection w1 with a3 w1
  injection w1 with a4 _
  injection a1 with a1
  injection a2 with a2
  injection a3 with a3
  injection a4 with a4
  subst a1 a2 a3 a4
  exact w
theorem rk202_at {p s : Int32} {q : va_E} (hF : q = .inr (17, [.ref l, .ref n, .int p, .int s])) (h : rk_202 γ b q) : rGl γ b l n ∧ γ 0 l = 3 ∧ γ 1 l = γ 1 b ∧ γ 0 n = 101 ∧ γ 1 n = γ 1 b ∧ rOw γ n b ∧ gB p 0 39 ∧ gB s 0 39 := by
  obtain ⟨l', n', p', s', w1, w⟩ := h
  rw [hF] at w1
  injection w1 with w1
  injection w1 with _ w1
  injection w1 with a1 w1
  injection w1 with a2 w1
  injection w1 with a3 w1
  injection w1 with a4 _
  injection a1 with a1
  injection a2 with a2
  injection a3 with a3
  injection a4 with a4
  subst a1 a2 a3 a4
  exact w
/-- the block behind the last one in use is taken, its list empty then -/
theorem RS_blko {m1 p s : Int32} {E : Nat} (hT : RS D I P F γ el) (hc : γ 0 c = 9) (hF : F c = .inr (18, [.ref lb, .ref lr, .int rn, .int md])) (hv : γ 6 (γ 1 c) = 0) (hlt : md.toInt < γ 2 lb) (hb : b = el lb md.toInt.toNat) (hFb : F b = .inr (17, [.ref l, .ref n, .int p, .int s]))
    (he : e = l ∨ (γ 0 e = 6 ∧ γ 3 e = l ∧ γ 1 e = γ 1 l)) (hfr : ∀ a, γ 0 a ≠ 0 → a ≠ c → a ≠ l → a ≠ e → F1 a = F a) (c1 : F1 c = .inr (18, [.ref lb, .ref lr, .int rn, .int md1])) (c2 : md1.toInt = md.toInt + 1)
    (q1 : F1 l = .inr (4, [.int m1, .ref E, .int 0])) (q2 : rEc D I γ F1 l e E) :
    RS D I P F1 (gBlo γ b l) el ∧ γ 0 b = 102 ∧ γ 1 b = γ 1 c ∧ γ 14 b = l ∧ γ 15 b = n ∧ γ 8 b = md.toInt.toNat := by
  obtain ⟨w2, w3, w4, w5, w6, w7, w8, w9, w10, w11, w12, w13, w14, w15, w16, w17⟩ := rk9_at hF (show rk_9 γ el c (F c) from RS_o hT hc)
  have h4 : rk_4 D I γ el F lb := RS_o hT w3
  have hi : md.toInt.toNat < γ 2 lb := by omega
  have hb0 : γ 0 b = 102 := by rw [hb]; exact w15 _ (by omega) hi
  obtain ⟨-, b1, b8⟩ := h4.2 _ hi
  rw [← hb] at b1 b8
  obtain ⟨u1, u2, u3, u4, u5, u6, u7, u8⟩ := rk102_at hFb (show rk_102 γ b (F b) from RS_o hT hb0)
  have hbc : γ 1 b = γ 1 c := b1.trans w4
  refine ⟨?_, hb0, hbc, u1.1, u1.2.1, b8⟩
  have hlL : rkL D I γ el F 6 l := RS_o hT u2
  have hbl : b ≠ l := fun q => by rw [q] at hb0; omega
  have hcb : c ≠ b := fun q => by rw [q] at hc; omega
  have hcl : c ≠ l := fun q => by rw [q] at hc; omega
  have hlbl : lb ≠ l := fun q => by rw [q] at w3; omega
  have hlrl : lr ≠ l := fun q => by rw [q] at w5; omega
  have k0 : ∀ a, a ≠ b → a ≠ l → (gBlo γ b l) 0 a = γ 0 a := fun a h1 h2 => (if_neg h1).trans (if_neg h2)
  have kb : (gBlo γ b l) 0 b = 202 := if_pos rfl
  have kl : (gBlo γ b l) 0 l = 3 := (if_neg (Ne.symm hbl)).trans (if_pos rfl)
  have hlk : ∀ w, rLK γ w → rLK (gBlo γ b l) w := fun w hw => by
    by_cases q : w = b
    · rw [q]; exact Or.inr (Or.inr (Or.inr (Or.inr kb)))
    · have q2 : w ≠ l := fun q2 => by subst q2; unfold rLK at hw; omega
      unfold rLK at hw ⊢
      rw [k0 w q q2]
      exact hw
  have z2 : (gBlo γ b l) 2 l = 0 := if_pos rfl
  have kE : γ 0 e = 6 → (gBlo γ b l) 0 e = 6 := fun h => (k0 e (fun q => by rw [q] at h; omega) (fun q => by rw [q] at h; omega)).trans h
  have hce : c ≠ e := fun q => by subst q; omega
  have hbe : b ≠ e := fun q => by subst q; omega
  refine RS_gen (T := fun a => a = c ∨ a = b ∨ a = l ∨ a = e) (γ 1 c) hT (fun a ha => ?_) (fun a ha hTa => ?_) (fun a ha hTa => ?_) (fun a h0 hTa => ?_) (fun a h4 h100 => k0 a (fun q => by subst q; omega) (fun q => by subst q; omega)) (fun a h0 hf => k0 a (fun q => by subst q; exact hf hbc) (fun q => by subst q; exact hf (u3.trans hbc))) hlk (fun j a h0 hj => ?_) (fun j hj => ?_) (fun j g hg hj => ?_) (Or.inl (Nat.le_refl _)) (Or.inl ⟨Nat.le_refl _, Or.inl rfl⟩) (fun g _ h => h) (fun a h0 hTa => ?_) (fun e' he' hTe => ?_) (fun a h0 hTa ha => ⟨rfl, rfl⟩) (fun a ha haf => Or.inl (RS_same_c hT hc ha haf)) (Or.inr ⟨fun a h0 => ?_, fun a ha hne => ?_, fun a ha hne h22 => ?_⟩)
  · by_cases qb : a = b
    · rw [qb]; exact hT.1 b (by omega)
    · by_cases ql : a = l
      · rw [ql]; exact hT.1 l (by omega)
      · rw [k0 a qb ql] at ha; exact hT.1 a ha
  · by_cases ec : a = c
    · subst ec
      rw [k0 a hcb hcl, hc]
      have b2 : (gBlo γ b l) 2 lb = γ 2 lb := if_neg hlbl
      have r2 : (gBlo γ b l) 2 lr = γ 2 lr := if_neg hlrl
      have kbi : ∀ i, i < γ 2 lb → i ≠ md.toInt.toNat → (gBlo γ b l) 0 (el lb i) = γ 0 (el lb i) := fun i hi1 hne => by
        obtain ⟨v1, v2, v3⟩ := h4.2 i hi1
        exact k0 _ (fun q => by rw [q] at v3; omega) (fun q => by rw [q] at v1; omega)
      refine ⟨lb, lr, rn, md1, c1, w2, (k0 lb (fun q => by rw [q] at w3; omega) hlbl).trans w3, w4, (k0 lr (fun q => by rw [q] at w5; omega) hlrl).trans w5, w6, w7, by rw [r2]; exact w8, by omega, by rw [b2]; omega, by rw [r2]; exact w11, by rw [b2]; exact w12, Or.inl hv, fun i hi1 => ?_, fun i hi1 hi2 => ?_, fun i hi1 hi2 => ?_, w17.1, ?_⟩
      · by_cases q : i = md.toInt.toNat
        · rw [q, ← hb]
          exact Or.inr ⟨hv, kb⟩
        · rw [kbi i (by omega) q]
          exact w14 i (by omega)
      · rw [b2] at hi2
        rw [kbi i hi2 (by omega)]
        exact w15 i (by omega) hi2
      · rw [r2] at hi2
        have v := w16 i hi1 hi2
        rw [k0 _ (fun q => by rw [q] at v; omega) (fun q => by rw [q] at v; omega)]
        exact v
      · have e1 : md1.toInt.toNat = md.toInt.toNat + 1 := by omega
        rw [e1]
        show rsum (fun i => (gBlo γ b l) 2 (γ 14 (el lb i))) md.toInt.toNat + (gBlo γ b l) 2 (γ 14 (el lb md.toInt.toNat)) + γ 18 (γ 1 a) ≤ γ 16 (γ 1 a)
        rw [← hb, u1.1, z2]
        have hsum : rsum (fun i => (gBlo γ b l) 2 (γ 14 (el lb i))) md.toInt.toNat = rsum (fun i => γ 2 (γ 14 (el lb i))) md.toInt.toNat := rsum_c _ (fun i hi1 => if_neg (fun q => by
          have : i = md.toInt.toNat := RS_inj hT w3 (by omega) hi (by rw [q, ← hb, u1.1])
          omega))
        have := w17.2
        omega
    by_cases eb : a = b
    · subst eb
      rw [kb]
      exact ⟨l, n, p, s, (hfr a (by omega) (Ne.symm hcb) hbl hbe).trans hFb, u1, kl, u3, (k0 n (fun q => by rw [q] at u4; omega) (fun q => by rw [q] at u4; omega)).trans u4, u5, u6, u7, u8⟩
    by_cases el' : a = l
    · subst el'
      rw [kl]
      obtain ⟨m, z, e', v1, v2, v3, v4, v5⟩ := hlL
      refine ⟨⟨m1, 0, E, q1, by rw [z2]; rfl, by rw [z2]; omega, ?_, ?_⟩, fun i hi1 => by rw [z2] at hi1; omega⟩
      · rcases q2 with ⟨q2, q3⟩ | ⟨q0, q2, q3, q4, n1, f1, q5, q6, q7, q8⟩
        · exact Or.inl ⟨q2, z2, q3⟩
        · rw [q0]
          exact Or.inr ⟨kE q2, ⟨q3, q4⟩, n1, f1, q5, by rw [z2]; omega, q6, q7, fun i hi1 => by rw [z2] at hi1; omega, fun j w hj => hlk w (q8 j w hj)⟩
      · unfold rCp at v5 ⊢
        have z17 : (gBlo γ b a) 17 a = γ 17 a := rfl
        have z13 : (gBlo γ b a) 13 a = γ 13 a := rfl
        rw [z2, z17, z13]
        omega
    · have ee : a = e := by rcases hTa with h | h | h | h; exact absurd h ec; exact absurd h eb; exact absurd h el'; exact h
      have e6 : γ 0 e = 6 := by omega
      rw [ee, kE e6]
      exact trivial
  · have hb' : a ≠ b := fun q => hTa (Or.inr (Or.inl q))
    have hl' : a ≠ l := fun q => hTa (Or.inr (Or.inr (Or.inl q)))
    rw [k0 a hb' hl'] at ha
    exact ⟨ha, k0 a hb' hl', hfr a ha (fun q => hTa (Or.inl q)) hl' (fun q => hTa (Or.inr (Or.inr (Or.inr q))))⟩
  · rcases hTa with rfl | rfl | rfl | rfl
    · rfl
    · exact hbc
    · exact u3.trans hbc
    · rcases he with rfl | he
      · exact u3.trans hbc
      · exact he.2.2.trans (u3.trans hbc)
  · rcases hj with rfl | rfl | rfl | rfl | rfl | rfl | rfl <;> rfl
  · rcases hj with rfl | rfl | rfl | rfl | rfl <;> rfl
  · rcases hj with rfl | rfl | rfl | rfl | rfl <;> rfl
  · exact ⟨if_neg (fun q => hTa (Or.inr (Or.inr (Or.inl q)))), rfl, rfl, rfl⟩
  · refine hfr e' (by omega) (fun q => by subst q; omega) (fun q => by subst q; omega) (fun q => hTe (Or.inr (Or.inr (Or.inl ?_))))
    rw [q]
    rcases he with h | h
    · rw [q, h] at he'; omega
    · exact h.2.1
  · by_cases qb : a = b
    · rw [qb, kb]; exact Or.inr (Or.inr (Or.inl ⟨hb0, rfl⟩))
    · by_cases ql : a = l
      · rw [ql, kl]; exact Or.inr (Or.inr (Or.inr (Or.inr ⟨u2, rfl⟩)))
      · exact Or.inl (k0 a qb ql)
  · by_cases ql : a = l
    · rw [ql, u1.2.2]; exact Or.inr (Or.inl rfl)
    · exact absurd ((k0 a (fun q => by subst q; omega) ql).trans ha) hne
  · exact absurd ((k0 a (fun q => by subst q; omega) (fun q => by subst q; omega)).trans ha) hne
end ROP4
