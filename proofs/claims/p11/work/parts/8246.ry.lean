/-! a program of the reference behind a row taken out, put in, made -/
section RFY
variable {D : va_G} {I : FieldType → ClassId} {P P1 : List Nat} {F F1 : Nat → va_E} {γ γ1 el el1 : Nat → Nat → Nat} {f c b k x lst dc ds : Nat} {Q : gPg} {l : Nat → Int} {K KF : List Nat} {R R' : Nat → Nat → va_E → Prop}
theorem hB2_ (hT : RS D I P F γ el) (hc : γ 0 c = 9) (hcf : γ 1 c = f) (h6 : γ 6 f = Q.1) : ∀ i, i < Q.1 → γ 0 (el (γ 14 c) i) = 2 := fun i hi => (rBk_at hT hc hcf (show i < γ 6 f by omega)).2.1
/-- blocks, their goals and lists stay -/
theorem rfY_b (hT : RS D I P F γ el) (hc : γ 0 c = 9) (hcf : γ 1 c = f) (h6 : γ 6 f = Q.1) (hs : rSk f K KF D I P F γ el P1 F1 γ1 el1) (h2 : 2 ∉ KF) (s2 : el1 (γ 14 c) = el (γ 14 c)) : γ1 14 c = γ 14 c ∧ ∀ i, i < Q.1 → rwL γ1 el1 c i = rwL γ el c i ∧ el1 (γ1 14 c) i = el (γ 14 c) i ∧ F1 (el (γ 14 c) i) = F (el (γ 14 c) i) ∧ γ1 15 (el (γ 14 c) i) = γ 15 (el (γ 14 c) i) := by
  have s1 := (rSk_s hs (show rKd γ c 9 from hc) (by decide)).2.1
  refine ⟨s1, fun i hi => ?_⟩
  have b2 := hB2_ hT hc hcf h6 i hi
  have s3 := rSk_s hs (show rKd γ (el (γ 14 c) i) 2 from b2) (by decide)
  exact ⟨by unfold rwL; rw [s1, s2, s3.2.1], by rw [s1, s2], rSk_F hs (show rKd γ _ 2 from b2) (by decide) h2, s3.2.2.1⟩
/-- a row taken out -/
theorem rPl_dg {i0 : Nat} (hT : RS D I P F γ el) (hc : γ 0 c = 9) (hcf : γ 1 c = f) (hq : rDq D I P F γ el f lst k F1 γ1 el1) (hl : γ 14 (el (γ 14 c) i0) = lst) (hi0 : i0 < γ 6 f) (hk : k < γ 2 lst) (h : rPl γ el F c (γ 6 f) R) (h1 : ∀ i j e, i ≠ i0 → R i j e → R' i j e) (h2 : ∀ j e, j < k → R i0 j e → R' i0 j e) (h3 : ∀ j e, k ≤ j → R i0 (j + 1) e → R' i0 j e) : rPl γ1 el1 F1 c (γ1 6 f) R' := by
  obtain ⟨q1, q3, q4, q5, -, -, q8, -⟩ := hq
  have hs := rSk_of q1
  intro i hi j hj
  rw [q8.1] at hi
  obtain ⟨b1, b2, b3, b4, b5, b6, b7, b8, b9, b10, b11⟩ := rBk_at hT hc hcf hi
  obtain ⟨c1, c2, c3, c4, c5, c6, c7, c8, c9, c10, c11⟩ := rBk_at hT hc hcf hi0
  obtain ⟨a21, a4, a41, a5, a51⟩ := rc_at hT hc hcf
  have hl' : rwL γ el c i0 = lst := hl
  rw [hl'] at c4 c5 c6 c11
  have s1 := (rSk_s hs (show rKd γ c 9 from hc) (by decide)).2.1
  obtain ⟨-, s2⟩ := q5 (γ 14 c) (by omega) (fun e => by rw [e] at a4; omega)
  have s3 := rSk_s hs (show rKd γ (el (γ 14 c) i) 2 from b2) (by decide)
  have el_ : rwL γ1 el1 c i = rwL γ el c i := by unfold rwL; rw [s1, s2, s3.2.1]
  have e15 : γ1 15 (el1 (γ1 14 c) i) = γ 15 (el (γ 14 c) i) := by rw [s1, s2, s3.2.2.1]
  have F1r : ∀ j, F1 (rAt γ el c i j) = F (rAt γ el c i j) := fun j => rSk_F hs (show rKd γ _ 1 from (rAt_k hT hc hcf hi).1) (by decide) (by decide)
  rw [el_] at hj
  by_cases ei : i = i0
  · subst ei
    rw [hl', q3] at hj
    have hF := F1r
    unfold rAt at hF ⊢
    rw [el_, hl', q3, q4, e15]
    rw [hl'] at hF
    have hh : ∀ j, j ≤ γ 2 lst → R i j (F (if j < γ 2 lst then el lst j else γ 15 (el (γ 14 c) i))) := fun j hj2 => by
      have z := h i hi j (by rw [hl']; exact hj2)
      unfold rAt at z
      rw [hl'] at z
      exact z
    by_cases t1 : j < k
    · rw [if_pos (by omega), if_pos t1]
      have z := hh j (by omega)
      have z2 := hF j
      rw [if_pos (by omega)] at z z2
      rw [z2]
      exact h2 j _ t1 z
    · have z := h3 j _ (by omega) (hh (j + 1) (by omega))
      have z2 := hF (j + 1)
      by_cases t3 : j < γ 2 lst - 1
      · rw [if_pos t3, if_neg t1]
        rw [if_pos (by omega)] at z z2
        rw [z2]
        exact z
      · rw [if_neg t3]
        rw [if_neg (by omega)] at z z2
        rw [z2]
        exact z
  · have hne : rwL γ el c i ≠ lst := fun e => by
      rw [e, c5] at b5
      rw [← b5, c3] at b3
      exact ei b3.symm
    obtain ⟨l1, l2⟩ := q5 _ (by rw [b4]; decide) hne
    have ea : rAt γ1 el1 c i j = rAt γ el c i j := by unfold rAt; rw [el_, l1, l2, e15]
    rw [l1] at hj
    rw [ea, F1r]
    exact h1 i j _ ei (h i hi j hj)
theorem rfX_del (hT : RS D I P F γ el) (hc : γ 0 c = 9) (hcf : γ 1 c = f) (h6 : γ 6 f = Q.1) (h : rfX γ el F c Q) (hq : rDq D I P F γ el f (rwL γ el c b) k F1 γ1 el1) (hb : b < Q.1) (hk : k + 1 < Q.2.1 b) : rfX γ1 el1 F1 c (pgDr Q b k) ∧ γ1 6 f = Q.1 := by
  obtain ⟨a1, a2, a3⟩ := h
  have hq0 := hq
  obtain ⟨q1, q3, q4, q5, -, -, q8, -⟩ := hq
  have hs := rSk_of q1
  obtain ⟨a21, a4, a41, a5, a51⟩ := rc_at hT hc hcf
  have bk := fun i (hi : i < Q.1) => rBk_at hT hc hcf (show i < γ 6 f by omega)
  have nl : γ 14 c ≠ rwL γ el c b := fun e => by have := (bk b hb).2.2.2.1; rw [← e, a4] at this; cases this
  obtain ⟨-, s2⟩ := q5 (γ 14 c) (by omega) nl
  obtain ⟨t1, t2⟩ := rfY_b hT hc hcf h6 hs (by decide) s2
  have m := (a2 b hb).1
  have n6 : γ1 6 f = Q.1 := q8.1.trans h6
  have ne : ∀ i, i < Q.1 → i ≠ b → rwL γ el c i ≠ rwL γ el c b := fun i hi hib e => by
    have x1 := (bk i hi).2.2.2.2.1
    have x2 := (bk b hb).2.2.2.2.1
    rw [e, x2] at x1
    have y1 := (bk i hi).2.2.1
    have y2 := (bk b hb).2.2.1
    rw [← x1, y2] at y1
    exact hib y1.symm
  refine ⟨⟨?_, fun i hi => ?_, ?_⟩, n6⟩
  · rw [rSk_F hs (show rKd γ c 9 from hc) (by decide) (by decide)]; exact a1
  · have hi' : i < Q.1 := hi
    obtain ⟨u1, u2, u3, u4⟩ := t2 i hi'
    obtain ⟨m1, m2⟩ := a2 i hi'
    rw [u1, u2, u3]
    show γ1 2 (rwL γ el c i) + 1 = (if i = b then Q.2.1 i - 1 else Q.2.1 i) ∧ gLX (Q.2.2.1 i (if i = b ∧ k ≤ (if i = b then Q.2.1 i - 1 else Q.2.1 i) - 1 then (if i = b then Q.2.1 i - 1 else Q.2.1 i) - 1 + 1 else (if i = b then Q.2.1 i - 1 else Q.2.1 i) - 1) 0) (Q.2.2.2 i) _ _
    by_cases e : i = b
    · subst e
      rw [if_pos rfl, q3, if_pos ⟨rfl, by omega⟩, show Q.2.1 i - 1 - 1 + 1 = Q.2.1 i - 1 by omega]
      exact ⟨by omega, m2⟩
    · rw [if_neg e, if_neg (fun z => e z.1), (q5 _ (by rw [(bk i hi').2.2.2.1]; decide) (ne i hi' e)).1]
      exact ⟨m1, m2⟩
  · have a3' : rPl γ el F c (γ 6 f) (lnQ Q) := by rw [h6]; exact a3
    have r := rPl_dg (R' := lnQ (pgDr Q b k)) hT hc hcf hq0 rfl (show b < γ 6 f by omega) (show k < γ 2 (rwL γ el c b) by omega) a3' (fun i j e hi he => by
      show lnX (decide (j + 1 < if i = b then Q.2.1 i - 1 else Q.2.1 i)) (Q.2.2.1 i (if i = b ∧ k ≤ j then j + 1 else j)) e
      rw [if_neg hi, if_neg (fun z => hi z.1)]
      exact he) (fun j e hj he => by
      show lnX (decide (j + 1 < if b = b then Q.2.1 b - 1 else Q.2.1 b)) (Q.2.2.1 b (if b = b ∧ k ≤ j then j + 1 else j)) e
      rw [if_pos rfl, if_neg (fun z => by omega), show decide (j + 1 < Q.2.1 b - 1) = decide (j + 1 < Q.2.1 b) from decide_eq_decide.mpr (by omega)]
      exact he) (fun j e hj he => by
      show lnX (decide (j + 1 < if b = b then Q.2.1 b - 1 else Q.2.1 b)) (Q.2.2.1 b (if b = b ∧ k ≤ j then j + 1 else j)) e
      rw [if_pos rfl, if_pos ⟨rfl, hj⟩, show decide (j + 1 < Q.2.1 b - 1) = decide (j + 1 + 1 < Q.2.1 b) from decide_eq_decide.mpr (by omega)]
      exact he)
    rw [n6] at r
    exact r
/-- a row put in -/
def pgIns (Q : gPg) (b k : Nat) (l : Nat → Int) : gPg := (Q.1, fun d => if d = b then Q.2.1 d + 1 else Q.2.1 d, fun d i => if d = b then (if i < k then Q.2.2.1 d i else if i = k then l else Q.2.2.1 d (i - 1)) else Q.2.2.1 d i, Q.2.2.2)
theorem rfX_ins (hT : RS D I P F γ el) (hc : γ 0 c = 9) (hcf : γ 1 c = f) (h6 : γ 6 f = Q.1) (h : rfX γ el F c Q) (hq : rIq D I P F γ el f (rwL γ el c b) k x P1 F1 γ1 el1 dc ds) (hb : b < Q.1) (hk : k < Q.2.1 b) (hl : lnX true l (F x)) : rfX γ1 el1 F1 c (pgIns Q b k l) ∧ γ1 6 f = Q.1 := by
  obtain ⟨a1, a2, a3⟩ := h
  have hq0 := hq
  obtain ⟨q1, q2, q3, q4, q5, -, -, q8, q9, -⟩ := hq
  have hs := rSk_of q1
  obtain ⟨a21, a4, a41, a5, a51⟩ := rc_at hT hc hcf
  have bk := fun i (hi : i < Q.1) => rBk_at hT hc hcf (show i < γ 6 f by omega)
  have nl : γ 14 c ≠ rwL γ el c b := fun e => by have := (bk b hb).2.2.2.1; rw [← e, a4] at this; cases this
  obtain ⟨-, s2⟩ := q5 (γ 14 c) (by omega) nl
  obtain ⟨t1, t2⟩ := rfY_b hT hc hcf h6 hs (by decide) s2
  have m := (a2 b hb).1
  have n6 : γ1 6 f = Q.1 := q8.1.trans h6
  have ne : ∀ i, i < Q.1 → i ≠ b → rwL γ el c i ≠ rwL γ el c b := fun i hi hib e => by
    have x1 := (bk i hi).2.2.2.2.1
    have x2 := (bk b hb).2.2.2.2.1
    rw [e, x2] at x1
    have y1 := (bk i hi).2.2.1
    have y2 := (bk b hb).2.2.1
    rw [← x1, y2] at y1
    exact hib y1.symm
  refine ⟨⟨?_, fun i hi => ?_, ?_⟩, n6⟩
  · rw [rSk_F hs (show rKd γ c 9 from hc) (by decide) (by decide)]; exact a1
  · have hi' : i < Q.1 := hi
    obtain ⟨u1, u2, u3, u4⟩ := t2 i hi'
    obtain ⟨m1, m2⟩ := a2 i hi'
    rw [u1, u2, u3]
    show γ1 2 (rwL γ el c i) + 1 = (if i = b then Q.2.1 i + 1 else Q.2.1 i) ∧ gLX ((if i = b then (if (if i = b then Q.2.1 i + 1 else Q.2.1 i) - 1 < k then Q.2.2.1 i ((if i = b then Q.2.1 i + 1 else Q.2.1 i) - 1) else if (if i = b then Q.2.1 i + 1 else Q.2.1 i) - 1 = k then l else Q.2.2.1 i ((if i = b then Q.2.1 i + 1 else Q.2.1 i) - 1 - 1)) else Q.2.2.1 i ((if i = b then Q.2.1 i + 1 else Q.2.1 i) - 1)) 0) (Q.2.2.2 i) _ _
    by_cases e : i = b
    · subst e
      rw [if_pos rfl, if_pos rfl, q3, if_neg (by omega), if_neg (by omega), show Q.2.1 i + 1 - 1 - 1 = Q.2.1 i - 1 by omega]
      exact ⟨by omega, m2⟩
    · rw [if_neg e, if_neg e, (q5 _ (by rw [(bk i hi').2.2.2.1]; decide) (ne i hi' e)).1]
      exact ⟨m1, m2⟩
  · have a3' : rPl γ el F c (γ 6 f) (lnQ Q) := by rw [h6]; exact a3
    have r := rPl_ins (R' := lnQ (pgIns Q b k l)) hT hc hcf hq0 rfl (show b < γ 6 f by omega) (show k ≤ γ 2 (rwL γ el c b) by omega) a3' (fun i j e hi he => by
      show lnX (decide (j + 1 < if i = b then Q.2.1 i + 1 else Q.2.1 i)) (if i = b then (if j < k then Q.2.2.1 i j else if j = k then l else Q.2.2.1 i (j - 1)) else Q.2.2.1 i j) e
      rw [if_neg hi, if_neg hi]
      exact he) (fun j e hj he => by
      show lnX (decide (j + 1 < if b = b then Q.2.1 b + 1 else Q.2.1 b)) (if b = b then (if j < k then Q.2.2.1 b j else if j = k then l else Q.2.2.1 b (j - 1)) else Q.2.2.1 b j) e
      rw [if_pos rfl, if_pos rfl, if_pos hj, show decide (j + 1 < Q.2.1 b + 1) = decide (j + 1 < Q.2.1 b) from decide_eq_decide.mpr (by omega)]
      exact he) (by
      show lnX (decide (k + 1 < if b = b then Q.2.1 b + 1 else Q.2.1 b)) (if b = b then (if k < k then Q.2.2.1 b k else if k = k then l else Q.2.2.1 b (k - 1)) else Q.2.2.1 b k) (F x)
      rw [if_pos rfl, if_pos rfl, if_neg (Nat.lt_irrefl k), if_pos rfl, decide_eq_true (show k + 1 < Q.2.1 b + 1 by omega)]
      exact hl) (fun j e hj he => by
      show lnX (decide (j + 1 + 1 < if b = b then Q.2.1 b + 1 else Q.2.1 b)) (if b = b then (if j + 1 < k then Q.2.2.1 b (j + 1) else if j + 1 = k then l else Q.2.2.1 b (j + 1 - 1)) else Q.2.2.1 b (j + 1)) e
      rw [if_pos rfl, if_pos rfl, if_neg (by omega), if_neg (by omega), show j + 1 - 1 = j from rfl, show decide (j + 1 + 1 < Q.2.1 b + 1) = decide (j + 1 < Q.2.1 b) from decide_eq_decide.mpr (by omega)]
      exact he)
    rw [n6] at r
    exact r
/-- a row made -/
theorem rfX_rw (hT : RS D I P F γ el) (hc : γ 0 c = 9) (hcf : γ 1 c = f) (h6 : γ 6 f = Q.1) (h : rfX γ el F c Q) (hq : rRq D I P F γ el f c P1 F1 γ1 el1 x dc ds) : rfX γ1 el1 F1 c Q ∧ γ1 6 f = Q.1 := by
  obtain ⟨a1, a2, a3⟩ := h
  have hq0 := hq
  obtain ⟨q1, -, -, -, -, -, -, q8, q9, -, ⟨-, -, qm⟩, -⟩ := hq
  have hs := rSk_of q1
  obtain ⟨a21, a4, a41, a5, a51⟩ := rc_at hT hc hcf
  have bk := fun i (hi : i < Q.1) => rBk_at hT hc hcf (show i < γ 6 f by omega)
  obtain ⟨-, s2⟩ := q9 (γ 14 c) (by omega) (by omega)
  obtain ⟨t1, t2⟩ := rfY_b hT hc hcf h6 hs (by decide) s2
  have n6 : γ1 6 f = Q.1 := q8.1.trans h6
  refine ⟨⟨qm.trans a1, fun i hi => ?_, ?_⟩, n6⟩
  · obtain ⟨u1, u2, u3, u4⟩ := t2 i hi
    rw [u1, u2, u3, (q9 _ (by rw [(bk i hi).2.2.2.1]; decide) (by rw [(bk i hi).2.2.2.1]; decide)).1]
    exact a2 i hi
  · have a3' : rPl γ el F c (γ 6 f) (lnQ Q) := by rw [h6]; exact a3
    have r := rPl_row hT hc hcf hq0 a3'
    rw [n6] at r
    exact r
/-- cells without rows, blocks and the program changed -/
theorem rfX_fr (hT : RS D I P F γ el) (hc : γ 0 c = 9) (hcf : γ 1 c = f) (h6 : γ 6 f = Q.1) (h : rfX γ el F c Q) (hF : ∀ a, γ 0 a = 1 ∨ γ 0 a = 2 ∨ γ 0 a = 9 → F1 a = F a) : rfX γ el F1 c Q := by
  obtain ⟨a1, a2, a3⟩ := h
  refine ⟨by rw [hF c (Or.inr (Or.inr hc))]; exact a1, fun i hi => ?_, ?_⟩
  · rw [hF _ (Or.inr (Or.inl (hB2_ hT hc hcf h6 i hi)))]; exact a2 i hi
  · have a3' : rPl γ el F c (γ 6 f) (lnQ Q) := by rw [h6]; exact a3
    have r := rPl_fr hT hc hcf a3' (fun a ha _ => hF a (Or.inl ha))
    rw [h6] at r
    exact r
theorem rfX_rs {W : List Nat} (hT : RS D I P F γ el) (hc : γ 0 c = 9) (hcf : γ 1 c = f) (h6 : γ 6 f = Q.1) (h : rfX γ el F c Q) (hs : rStr γ W F F1) (hW : 1 ∉ W ∧ 2 ∉ W ∧ 9 ∉ W) : rfX γ el F1 c Q := rfX_fr hT hc hcf h6 h (fun a ha => by
  rcases ha with ha | ha | ha
  · exact hs a (by omega) (by omega) (by rw [ha]; exact hW.1)
  · exact hs a (by omega) (by omega) (by rw [ha]; exact hW.2.1)
  · exact hs a (by omega) (by omega) (by rw [ha]; exact hW.2.2))
end RFY
