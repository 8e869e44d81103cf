/-! the law's state, the model's side -/
def wDN (γ : Nat → Nat → Nat) (F : Nat → va_E) : Nat := γ 12 (fR (F (γ 9 29)) 0)
def lRN (γ : Nat → Nat → Nat) (F : Nat → va_E) (m : Nat) : Nat := γ 12 (fR (F m) 35)
/-- one array of kind 96; cells without a kind and the letters have one length -/
def rUw (γ : Nat → Nat → Nat) (F : Nat → va_E) (m : Nat) : Prop := (∀ b, γ 0 b = 96 → b = fR (F m) 35) ∧ ∀ b, γ 0 b ≠ 11 → γ 0 b ≠ 36 → γ 0 b ≠ 96 → γ 12 b = wDN γ F
def gLa (γ : Nat → Nat → Nat) (w : Nat) : Nat → Nat → Nat := fun j b => if j = 12 ∧ (γ 0 b ≠ 11 ∧ γ 0 b ≠ 36 ∧ γ 0 b ≠ 96 ∧ γ 0 b ≠ 29) then w else γ j b
def mdS (D : va_G) (I : FieldType → ClassId) (m : Nat) (n : Int) (P : List Nat) (F : Nat → va_E) (γ el : Nat → Nat → Nat) : Prop :=
  RS D I P F γ el ∧ γ 0 m = 10 ∧ (fI (F m) 32).toInt = n ∧ ((fI (F m) 9).toInt = 0 ∨ (0 < γ 6 0 ∧ γ 16 0 ≤ 160)) ∧ ((fI (F m) 10).toInt = 0 ∨ 0 < γ 6 1) ∧ γ 7 0 = 0 ∧ rBd γ el 1 4061 ∧ rBd γ el 2 2160 ∧ rUw γ F m
theorem rBd_j {γ γ2 el : Nat → Nat → Nat} {f B : Nat} (h : ∀ j, j ≠ 0 → j ≠ 12 → γ2 j = γ j) (hb : rBd γ el f B) : rBd γ2 el f B := by
  unfold rBd at hb ⊢
  rw [h 16 (by decide) (by decide), h 2 (by decide) (by decide), h 14 (by decide) (by decide), h 21 (by decide) (by decide), h 17 (by decide) (by decide), h 15 (by decide) (by decide)]
  exact hb
theorem rPh_j2 {γ γ2 el : Nat → Nat → Nat} {f : Nat} (h : ∀ j, j ≠ 0 → j ≠ 12 → γ2 j = γ j) : rPh γ2 el f = rPh γ el f ∧ rM γ2 el f = rM γ el f := by
  unfold rPh rM rPhc rMc
  rw [h 21 (by decide) (by decide), h 14 (by decide) (by decide), h 15 (by decide) (by decide), h 13 (by decide) (by decide), h 2 (by decide) (by decide), h 17 (by decide) (by decide)]
  exact ⟨rfl, rfl⟩
section MDS
variable {D : va_G} {I : FieldType → ClassId} {P : List Nat} {F F1 : Nat → va_E} {γ el : Nat → Nat → Nat} {m : Nat} {n n1 : Int}
theorem RS_la {w : Nat} (hT : RS D I P F γ el) : RS D I P F (gLa γ w) el := by
  have e12 : ∀ b, γ 0 b = 11 ∨ γ 0 b = 36 ∨ γ 0 b = 96 ∨ γ 0 b = 29 → gLa γ w 12 b = γ 12 b := fun b hb => if_neg (fun z => by have := z.2; omega)
  refine ⟨fun b hb => hT.1 b hb, fun b => ?_⟩
  have z := hT.2 b
  show rFit D I (gLa γ w) el F b (γ 0 b)
  generalize hk : γ 0 b = k at z ⊢
  unfold rFit at z ⊢
  split at z
  all_goals first
    | exact z
    | exact trivial
    | skip
  · obtain ⟨r28, r35, v9, v10, v11, v12, v13, v14, v23, v24, v25, v26, v27, v30, v32, v33, v34, c0, c1, t28, t35, u0, u1, u2, u3, u4, u5, u6, u7, u8, u15, u16, u17, u18, u19, u20, u21, u22, u29, u31, m6, m7, m8, mm⟩ := z
    have q35 : γ 0 r35 = 96 := t35
    have m2 : rM2 (gLa γ w) v9 v10 v34 r35 := by
      have e6 : gLa γ w 6 = γ 6 := rfl
      have e23 : gLa γ w 23 = γ 23 := rfl
      unfold rM2 at mm ⊢
      rw [e12 r35 (by omega), e6, e23]
      exact mm
    exact ⟨r28, r35, v9, v10, v11, v12, v13, v14, v23, v24, v25, v26, v27, v30, v32, v33, v34, c0, c1, t28, t35, u0, u1, u2, u3, u4, u5, u6, u7, u8, u15, u16, u17, u18, u19, u20, u21, u22, u29, u31, m6, m7, m8, m2⟩
  · obtain ⟨r, mb, c, g1, g2, g3, g4, g5⟩ := z
    have g4' : γ 0 r = 29 := g4
    exact ⟨r, mb, c, g1, g2, g3, g4, by rw [e12 r (by omega)]; exact g5⟩
  · obtain ⟨g, g1, g2⟩ := z
    refine ⟨g, g1, fun i hi => ?_⟩
    obtain ⟨q1, q2, q3⟩ := g2 i hi
    exact ⟨q1, q2, (e12 (γ 10 i) (by omega)).trans q3⟩
  · obtain ⟨g, g1, g2⟩ := z
    refine ⟨g, g1, fun i hi => ?_⟩
    obtain ⟨q1, q2, q3⟩ := g2 i hi
    exact ⟨q1, q2, (e12 (γ 11 i) (by omega)).trans q3⟩
  · obtain ⟨m, g, g1, g2, g3, g4⟩ := z
    exact ⟨m, g, g1, g2, g3, by rw [e12 b (by omega)]; exact g4⟩
  · obtain ⟨m, g, g1, g2, g3, g4⟩ := z
    exact ⟨m, g, g1, g2, g3, by rw [e12 b (by omega)]; exact g4⟩
/-- the model's words and result, by their kinds -/
theorem md_k (hT : RS D I P F γ el) (hm : γ 0 m = 10) : γ 0 (fR (F m) 35) = 96 ∧ γ 0 (γ 9 29) = 28 ∧ γ 0 (fR (F (γ 9 29)) 0) = 29 := by
  obtain ⟨r28, r35, v9, v10, v11, v12, v13, v14, v23, v24, v25, v26, v27, v30, v32, v33, v34, he, hM1, hK, hM2⟩ := rk10_m (show rk_10 γ (F m) from RS_o hT hm)
  obtain ⟨k0, k1, k2, k3, k4, k5, k6, k7, k8, k9, k10, k11, k12, k13, k14, k15, k16, k17, k18, kW, k20, k21, k22, k23⟩ := hK
  have e35 : fR (F m) 35 = r35 := by rw [he]; rfl
  have hW : γ 0 (γ 9 29) = 28 := kW
  obtain ⟨a, mb, c, w1, w2, w3, w4, w5⟩ := show rk_28 γ (F (γ 9 29)) from RS_o hT hW
  have ea : fR (F (γ 9 29)) 0 = a := by rw [w1]; rfl
  rw [e35, ea]
  exact ⟨k1, hW, w4⟩
theorem mdS_t (h : mdS D I m n P F γ el) (hT : RS D I P F1 γ el) (h9 : (fI (F1 m) 9).toInt = (fI (F m) 9).toInt) (h10 : (fI (F1 m) 10).toInt = (fI (F m) 10).toInt) (h32 : (fI (F1 m) 32).toInt = n1) : mdS D I m n1 P F1 γ el ∧ wDN γ F1 = wDN γ F ∧ lRN γ F1 m = lRN γ F m := by
  obtain ⟨a1, a2, a3, a4, a5, a6, a7, a8, a9⟩ := h
  obtain ⟨k1, k2, k3⟩ := md_k hT a2
  have e35 : fR (F1 m) 35 = fR (F m) 35 := a9.1 _ k1
  have ew : wDN γ F1 = wDN γ F := a9.2 _ (by omega) (by omega) (by omega)
  refine ⟨⟨hT, a2, h32, by rw [h9]; exact a4, by rw [h10]; exact a5, a6, a7, a8, ?_, ?_⟩, ew, ?_⟩
  · intro b hb; rw [e35]; exact a9.1 b hb
  · intro b h1 h2 h3; rw [ew]; exact a9.2 b h1 h2 h3
  · unfold lRN; rw [e35]
/-- behind a call that changes ghosts: the old arrays lose their kinds -/
theorem mdS_k (hT : RS D I P F γ el) (hm : γ 0 m = 10) (h32 : (fI (F m) 32).toInt = n) (h9 : (fI (F m) 9).toInt = 0 ∨ (0 < γ 6 0 ∧ γ 16 0 ≤ 160)) (h10 : (fI (F m) 10).toInt = 0 ∨ 0 < γ 6 1) (h7 : γ 7 0 = 0) (hb1 : rBd γ el 1 4061) (hb2 : rBd γ el 2 2160) : ∃ γ2 : Nat → Nat → Nat, mdS D I m n P F γ2 el ∧ (∀ j, j ≠ 0 → j ≠ 12 → γ2 j = γ j) ∧ wDN γ2 F = wDN γ F ∧ lRN γ2 F m = lRN γ F m := by
  obtain ⟨r28, r35, v9, v10, v11, v12, v13, v14, v23, v24, v25, v26, v27, v30, v32, v33, v34, he, hM1, hK, hM2⟩ := rk10_m (show rk_10 γ (F m) from RS_o hT hm)
  obtain ⟨c27, c28, c29⟩ := md_k hT hm
  obtain ⟨a, mb, c, w1, w2, w3, w4, w5⟩ := show rk_28 γ (F (γ 9 29)) from RS_o hT c28
  have e35 : fR (F m) 35 = r35 := by rw [he]; rfl
  have ea : fR (F (γ 9 29)) 0 = a := by rw [w1]; rfl
  obtain ⟨S, hS⟩ : ∃ S : List Nat, S = [m, γ 9 29, r35, a] := ⟨_, rfl⟩
  have hR := RS_kl hT hm he w1 hS
  have m1 : m ∈ S := by rw [hS]; simp
  have ej : ∀ j, j ≠ 0 → gKl γ S j = γ j := fun j h => gKl_j h
  have u27 : ∀ b, gKl γ S 0 b = 96 → b = r35 := fun b hb => by
    obtain ⟨g1, g2, g3⟩ := gKl_0 (γ := γ) (S := S) (b := b) (by rw [hb]; decide)
    rw [hb] at g1
    rcases g3 with g | g
    · exact absurd g1.symm g.2.1
    · rw [hS] at g
      simp only [List.mem_cons, List.not_mem_nil, or_false] at g
      rcases g with q | q | q | q
      · rw [q, hm] at g1; cases g1
      · rw [q, c28] at g1; cases g1
      · exact q
      · rw [q, ← ea, c29] at g1; cases g1
  have u29 : ∀ b, gKl γ S 0 b = 29 → b = a := fun b hb => by
    obtain ⟨g1, g2, g3⟩ := gKl_0 (γ := γ) (S := S) (b := b) (by rw [hb]; decide)
    rw [hb] at g1
    rcases g3 with g | g
    · exact absurd g1.symm g.2.2.2
    · rw [hS] at g
      simp only [List.mem_cons, List.not_mem_nil, or_false] at g
      rcases g with q | q | q | q
      · rw [q, hm] at g1; cases g1
      · rw [q, c28] at g1; cases g1
      · rw [q, ← e35, c27] at g1; cases g1
      · exact q
  have hR2 : RS D I P F (gLa (gKl γ S) (γ 12 a)) el := RS_la hR
  have l0 : ∀ b, gLa (gKl γ S) (γ 12 a) 0 b = gKl γ S 0 b := fun b => if_neg (fun z => absurd z.1 (by decide))
  have lj : ∀ j, j ≠ 0 → j ≠ 12 → gLa (gKl γ S) (γ 12 a) j = γ j := fun j h0 h12 => by
    refine Eq.trans ?_ (ej j h0)
    funext b
    exact if_neg (fun z => h12 z.1)
  have n12 : ∀ b, gKl γ S 0 b = 96 ∨ gKl γ S 0 b = 29 → gLa (gKl γ S) (γ 12 a) 12 b = γ 12 b := fun b hb => (if_neg (fun z => by have := z.2; omega)).trans (congrFun (ej 12 (by decide)) b)
  have ma : a ∈ S := by rw [hS]; simp
  have mr : r35 ∈ S := by rw [hS]; simp
  have za : gKl γ S 0 a = 96 ∨ gKl γ S 0 a = 29 := Or.inr (by rw [gKl_s ma, ← ea, c29])
  have zr : gKl γ S 0 r35 = 96 ∨ gKl γ S 0 r35 = 29 := Or.inl (by rw [gKl_s mr, ← e35, c27])
  have g9 := lj 9 (by decide) (by decide)
  have ew2 : wDN (gLa (gKl γ S) (γ 12 a)) F = γ 12 a := by
    unfold wDN
    rw [g9, ea]
    exact n12 a za
  refine ⟨gLa (gKl γ S) (γ 12 a), ⟨hR2, (l0 m).trans ((gKl_s m1).trans hm), h32, by rw [lj 6 (by decide) (by decide), lj 16 (by decide) (by decide)]; exact h9, by rw [lj 6 (by decide) (by decide)]; exact h10, by rw [lj 7 (by decide) (by decide)]; exact h7, rBd_j lj hb1, rBd_j lj hb2, fun b hb => ?_, fun b h1 h2 h3 => ?_⟩, lj, ?_, ?_⟩
  · rw [l0] at hb; rw [e35]; exact u27 b hb
  · rw [ew2]
    rw [l0] at h1 h2 h3
    by_cases q : gKl γ S 0 b = 29
    · rw [u29 b q]; exact n12 a za
    · exact if_pos ⟨rfl, h1, h2, h3, q⟩
  · rw [ew2]; unfold wDN; rw [ea]
  · unfold lRN; rw [e35]; exact n12 r35 zr
/-- the law's room behind i calls: S0, C0 what the start took -/
def lwR (γ el : Nat → Nat → Nat) (F : Nat → va_E) (m : Nat) (n : Int) (i : Nat) (cs sl : Nat) : Prop :=
  0 ≤ n ∧ n ≤ 8192 ∧ n ≤ 20 * (i : Int) ∧ (sl : Int) ≤ 160000 + (rPh γ el 0 : Int) + (rPh γ el 1 : Int) + (rPh γ el 2 : Int) + 2 * (wDN γ F : Int) + 2 * (lRN γ F m : Int) + 232 * (20 * (i : Int) - n) + 10 * (i : Int) ∧ 18 * (cs : Int) ≤ 45000 + (rPh γ el 0 : Int) + (rPh γ el 1 : Int) + (rPh γ el 2 : Int) + 9 * (wDN γ F : Int) + (lRN γ F m : Int) + 360 * (20 * (i : Int) - n) + 36 * (i : Int) ∧ (rM γ el 0 : Int) ≤ 300 + 41 * (20 * (i : Int) - n) ∧ wDN γ F ≤ 427160 ∧ 64 ≤ lRN γ F m ∧ lRN γ F m ≤ 427144
end MDS
