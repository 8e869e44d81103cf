/-! a new cell gets a kind -/
def gNw (γ : Nat → Nat → Nat) (a k : Nat) : Nat → Nat → Nat := fun j b => if j = 0 ∧ b = a then k else γ j b
def famB (γ : Nat → Nat → Nat) : List Nat → Nat
  | [] => 0
  | a :: P => max (γ 1 a + 1) (famB γ P)
theorem famB_lt {γ : Nat → Nat → Nat} {a : Nat} : ∀ P, a ∈ P → γ 1 a < famB γ P
  | [], h => by simp at h
  | b :: P, h => by
    rcases List.mem_cons.mp h with e | e
    · show γ 1 a < max (γ 1 b + 1) (famB γ P)
      rw [e]
      omega
    · have ih : γ 1 a < famB γ P := famB_lt P e
      show γ 1 a < max (γ 1 b + 1) (famB γ P)
      omega
section RNW
variable {D : va_G} {I : FieldType → ClassId} {P P1 : List Nat} {F F1 : Nat → va_E} {γ el : Nat → Nat → Nat} {a k : Nat}
theorem gNw_ne {j b : Nat} (h : b ≠ a) : gNw γ a k j b = γ j b := if_neg (fun z => h z.2)
theorem gNw_j {j : Nat} (h : j ≠ 0) : gNw γ a k j = γ j := by
  funext b
  exact if_neg (fun z => h z.1)
theorem RS_nw (hT : RS D I P F γ el) (ha : a ∉ P) (hs : rSub P P1) (haP : a ∈ P1) (hfr : ∀ b, γ 0 b ≠ 0 → F1 b = F b) (hfit : rFit D I (gNw γ a k) el F1 a k) : RS D I P1 F1 (gNw γ a k) el := by
  have h0 : γ 0 a = 0 := Classical.byContradiction (fun z => ha (hT.1 a z))
  have n0 : ∀ b, γ 0 b ≠ 0 → b ≠ a := fun b h e => h (by rw [e]; exact h0)
  have e0 : ∀ b, γ 0 b ≠ 0 → gNw γ a k 0 b = γ 0 b := fun b h => gNw_ne (n0 b h)
  have ka : gNw γ a k 0 a = k := if_pos ⟨rfl, rfl⟩
  refine RS_gen (T := fun b => b = a) (famB γ P) hT (fun b hb => ?_) (fun b hb hTb => ?_) (fun b hb hTb => ?_) (fun b hb hTb => absurd hTb (n0 b hb)) (fun b h4 _ => e0 b (by omega)) (fun b hb _ => e0 b hb) (fun w hw => ?_) (fun j b _ hj => congrFun (gNw_j (by omega)) b) (fun j hj => gNw_j (by omega)) (fun j g _ hj => congrFun (gNw_j (by omega)) g) (Or.inl (Nat.le_of_eq (congrFun (gNw_j (by decide)) _).symm)) (Or.inl ⟨Nat.le_of_eq (congrFun (gNw_j (by decide)) _).symm, Or.inl (congrFun (gNw_j (by decide)) _)⟩) (fun g _ h => by rw [gNw_j (j := 6) (by decide), gNw_j (j := 23) (by decide)]; exact h) (fun b hb _ => ⟨congrFun (gNw_j (by decide)) b, congrFun (gNw_j (by decide)) b, congrFun (gNw_j (by decide)) b, rfl⟩) (fun e he _ => hfr e (by omega)) (fun b hb _ _ => ⟨congrFun (gNw_j (by decide)) b, congrFun (gNw_j (by decide)) b⟩) (fun c hc hcf => ?_) (Or.inr ⟨fun b hb => Or.inl (e0 b hb), fun b hb hne => absurd ((e0 b (by omega)).trans hb) hne, fun b hb hne _ => absurd ((e0 b (by omega)).trans hb) hne⟩)
  · by_cases e : b = a
    · rw [e]; exact haP
    · rw [gNw_ne e] at hb
      exact hs b (hT.1 b hb)
  · rw [hTb, ka]
    exact hfit
  · rw [gNw_ne hTb] at hb ⊢
    exact ⟨hb, rfl, hfr b hb⟩
  · have hw0 : γ 0 w ≠ 0 := by unfold rLK at hw; omega
    unfold rLK at hw ⊢
    rw [e0 w hw0]
    exact hw
  · have h1 := famB_lt (γ := γ) P (hT.1 c (by omega))
    omega
end RNW
/-- the length of a cell without a kind -/
def gLn (γ : Nat → Nat → Nat) (a n : Nat) : Nat → Nat → Nat := fun j b => if j = 12 ∧ b = a then n else γ j b
section RLN
variable {D : va_G} {I : FieldType → ClassId} {P : List Nat} {F : Nat → va_E} {γ el : Nat → Nat → Nat} {a n : Nat}
theorem RS_ln (hT : RS D I P F γ el) (h0 : γ 0 a = 0) : RS D I P F (gLn γ a n) el := by
  have e12 : ∀ b, γ 0 b ≠ 0 → gLn γ a n 12 b = γ 12 b := fun b hb => if_neg (fun z => hb (by rw [z.2]; exact h0))
  refine ⟨fun b hb => hT.1 b hb, fun b => ?_⟩
  have z := hT.2 b
  show rFit D I (gLn γ a n) el F b (γ 0 b)
  generalize hk : γ 0 b = k at z ⊢
  unfold rFit at z ⊢
  split at z
  all_goals first
    | exact z
    | exact trivial
    | skip
  · obtain ⟨r28, r35, v9, v10, v11, v12, v13, v14, v23, v24, v25, v26, v27, v30, v32, v33, v34, c0, c1, t28, t35, u0, u1, u2, u3, u4, u5, u6, u7, u8, u15, u16, u17, u18, u19, u20, u21, u22, u29, u31, m6, m7, m8, mm⟩ := z
    have q35 : γ 0 r35 = 96 := t35
    have m2 : rM2 (gLn γ a n) v9 v10 v34 r35 := by
      have e6 : gLn γ a n 6 = γ 6 := rfl
      have e23 : gLn γ a n 23 = γ 23 := rfl
      unfold rM2 at mm ⊢
      rw [e12 r35 (by omega), e6, e23]
      exact mm
    exact ⟨r28, r35, v9, v10, v11, v12, v13, v14, v23, v24, v25, v26, v27, v30, v32, v33, v34, c0, c1, t28, t35, u0, u1, u2, u3, u4, u5, u6, u7, u8, u15, u16, u17, u18, u19, u20, u21, u22, u29, u31, m6, m7, m8, m2⟩
  · obtain ⟨r, mb, c, g1, g2, g3, g4, g5⟩ := z
    have g4' : γ 0 r = 29 := g4
    exact ⟨r, mb, c, g1, g2, g3, g4, by rw [e12 r (by omega)]; exact g5⟩
  · obtain ⟨g, g1, g2⟩ := z
    refine ⟨g, g1, fun i hi => ?_⟩
    obtain ⟨q1, q2, q3⟩ := g2 i hi
    exact ⟨q1, q2, (e12 (γ 10 i) (by omega)).trans q3⟩
  · obtain ⟨g, g1, g2⟩ := z
    refine ⟨g, g1, fun i hi => ?_⟩
    obtain ⟨q1, q2, q3⟩ := g2 i hi
    exact ⟨q1, q2, (e12 (γ 11 i) (by omega)).trans q3⟩
  · obtain ⟨m, g, g1, g2, g3, g4⟩ := z
    exact ⟨m, g, g1, g2, g3, by rw [e12 b (by omega)]; exact g4⟩
  · obtain ⟨m, g, g1, g2, g3, g4⟩ := z
    exact ⟨m, g, g1, g2, g3, by rw [e12 b (by omega)]; exact g4⟩
end RLN
