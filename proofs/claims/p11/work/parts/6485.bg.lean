/-- two programs that are the same, as far as they go -/
def pgE (P Q : gPg) : Prop := P.1 = Q.1 ∧ ∀ b, b < P.1 → P.2.1 b = Q.2.1 b ∧ (∀ j, j < P.2.1 b → P.2.2.1 b j = Q.2.2.1 b j) ∧ ∀ i, i < 2 → P.2.2.2 b i = Q.2.2.2 b i
theorem cdP_c {P Q : gPg} {bl li : Int32} {fi fg sg op st lf ln rt rn : Nat → Int32} (h : pgE P Q) (hc : cdP bl li fi fg sg op st lf ln rt rn P) : cdP bl li fi fg sg op st lf ln rt rn Q := by
  obtain ⟨e1, e2⟩ := h
  obtain ⟨c1, c2, c3, c4⟩ := hc
  have ef : ∀ b, b ≤ P.1 → fsm P.2.1 b = fsm Q.2.1 b := fun b hb => fsm_c (fun c hc => (e2 c (by omega)).1)
  refine ⟨by rw [← e1]; exact c1, by rw [← e1, ← ef P.1 (Nat.le_refl _)]; exact c2, fun b hb => ?_, fun b j hb hj => ?_⟩
  · have hb2 : b < P.1 := by rw [e1]; exact hb
    obtain ⟨_, _, g⟩ := e2 b hb2
    rw [← ef b (by omega), ← g 0 (by decide), ← g 1 (by decide)]
    exact c3 b hb2
  · have hb2 : b < P.1 := by rw [e1]; exact hb
    obtain ⟨l1, l2, _⟩ := e2 b hb2
    have hj2 : j < P.2.1 b := by rw [l1]; exact hj
    rw [← ef b (by omega), ← l2 j hj2]
    exact c4 b j hb2 hj2
/-- the j-th number below k of which T holds -/
noncomputable def nthT (T : Nat → Prop) : Nat → Nat → Nat
  | 0, _ => 0
  | k + 1, j => @ite Nat (T k ∧ cntP T k = j) (Classical.propDecidable _) k (nthT T k j)
theorem cntP_s {T : Nat → Prop} : ∀ {v k : Nat}, T v → v < k → cntP T v < cntP T k
  | v, 0, _, h => absurd h (Nat.not_lt_zero v)
  | v, k + 1, ht, h => by
    show cntP T v < cntP T k + @ite Nat (T k) (Classical.propDecidable (T k)) 1 0
    by_cases e : v = k
    · rw [e] at ht ⊢; rw [if_pos ht]; omega
    · have := cntP_s (k := k) ht (by omega)
      omega
theorem nthT_e {T : Nat → Prop} : ∀ {k v : Nat}, T v → v < k → nthT T k (cntP T v) = v
  | 0, v, _, h => absurd h (Nat.not_lt_zero v)
  | k + 1, v, ht, h => by
    show @ite Nat (T k ∧ cntP T k = cntP T v) (Classical.propDecidable _) k (nthT T k (cntP T v)) = v
    by_cases e : v = k
    · rw [e] at ht ⊢; rw [if_pos ⟨ht, rfl⟩]
    · rw [if_neg (fun z => by have := cntP_s (k := k) ht (by omega); omega)]
      exact nthT_e ht (by omega)
/-- the registers that are alive in front of everything, rows v = 0 for them, the program with these -/
def lz (P : gPg) (v : Nat) : Prop := Lv P false v 0 0
noncomputable def pgZ (P : gPg) : gPg := (P.1, fun b => if b = 0 then cntP (lz P) 100 + P.2.1 0 else P.2.1 b, fun b j => if b = 0 then (if j < cntP (lz P) 100 then mkL 14 (nthT (lz P) 100 j : Int) (-1) 0 (-1) 0 else P.2.2.1 0 (j - cntP (lz P) 100)) else P.2.2.1 b j, P.2.2.2)
/-- how it is put together -/
def pgOL (P Q : gPg) : gPg := (Q.1 + 1, fun b => if b = Q.1 then 0 else Q.2.1 b, Q.2.2.1, fun b i => if b = Q.1 then P.2.2.2 b i else Q.2.2.2 b i)
noncomputable def zrF (T : Nat → Prop) (Q : gPg) : Nat → gPg
  | 0 => Q
  | k + 1 => @ite gPg (T k) (Classical.propDecidable (T k)) (pgL (zrF T Q k) (mkL 14 (k : Int) (-1) 0 (-1) 0)) (zrF T Q k)
def cpB (P Q : gPg) (b : Nat) : Nat → gPg
  | 0 => Q
  | j + 1 => pgL (cpB P Q b j) (P.2.2.1 b j)
noncomputable def bgQ (P : gPg) : Nat → gPg
  | 0 => pgO
  | b + 1 => cpB P (@ite gPg (b = 0) (Classical.propDecidable (b = 0)) (zrF (lz P) (pgOL P (bgQ P b)) 100) (pgOL P (bgQ P b))) b (P.2.1 b)
section BG
variable {P Q : gPg} {b : Nat}
/-- what adding lines leaves: all but the last block -/
def frB (Q R : gPg) (m : Nat) (ls : Nat → Nat → Int) : Prop := R.1 = Q.1 ∧ (∀ c, c + 1 ≠ Q.1 → R.2.1 c = Q.2.1 c ∧ R.2.2.1 c = Q.2.2.1 c) ∧ R.2.2.2 = Q.2.2.2 ∧ ∀ c, c + 1 = Q.1 → R.2.1 c = Q.2.1 c + m ∧ (∀ j, j < Q.2.1 c → R.2.2.1 c j = Q.2.2.1 c j) ∧ ∀ j, j < m → R.2.2.1 c (Q.2.1 c + j) = ls j
theorem frB_0 {ls : Nat → Nat → Int} : frB Q Q 0 ls := ⟨rfl, fun _ _ => ⟨rfl, rfl⟩, rfl, fun _ _ => ⟨rfl, fun _ _ => rfl, fun j hj => absurd hj (Nat.not_lt_zero j)⟩⟩
theorem frB_s {R : gPg} {m : Nat} {ls : Nat → Nat → Int} (h : frB Q R m ls) : frB Q (pgL R (ls m)) (m + 1) ls := by
  obtain ⟨h1, h2, h3, h4⟩ := h
  refine ⟨h1, fun c hc => ?_, h3, fun c hc => ?_⟩
  · obtain ⟨e1, e2, _⟩ := pgL_o (P := R) (l := ls m) (b := c) (by rw [h1]; exact hc)
    rw [e1, e2]; exact h2 c hc
  · obtain ⟨e1, e2, e3, _⟩ := pgL_l (P := R) (l := ls m) (b := c) (by rw [h1]; exact hc)
    obtain ⟨k1, k2, k3⟩ := h4 c hc
    refine ⟨by rw [e1, k1]; rfl, fun j hj => by rw [e2 j (by omega)]; exact k2 j hj, fun j hj => ?_⟩
    by_cases e : j = m
    · rw [e, ← k1]; exact e3
    · rw [e2 _ (by omega)]; exact k3 j (by omega)
theorem frB_c {R : gPg} {m : Nat} {ls ls' : Nat → Nat → Int} (h : frB Q R m ls) (hl : ∀ j, j < m → ls j = ls' j) : frB Q R m ls' := by
  obtain ⟨h1, h2, h3, h4⟩ := h
  exact ⟨h1, h2, h3, fun c hc => ⟨(h4 c hc).1, (h4 c hc).2.1, fun j hj => by rw [(h4 c hc).2.2 j hj, hl j hj]⟩⟩
theorem cpB_f : ∀ m, frB Q (cpB P Q b m) m (P.2.2.1 b)
  | 0 => frB_0
  | m + 1 => frB_s (cpB_f m)
theorem zrF_f {T : Nat → Prop} : ∀ k, k ≤ 100 → frB Q (zrF T Q k) (cntP T k) (fun j => mkL 14 (nthT T 100 j : Int) (-1) 0 (-1) 0)
  | 0, _ => frB_0
  | k + 1, hk => by
    have ih := zrF_f (T := T) k (by omega)
    show frB Q (@ite gPg (T k) (Classical.propDecidable (T k)) (pgL (zrF T Q k) (mkL 14 (k : Int) (-1) 0 (-1) 0)) (zrF T Q k)) (cntP T k + @ite Nat (T k) (Classical.propDecidable (T k)) 1 0) _
    by_cases c : T k
    · rw [if_pos c, if_pos c]
      have q := frB_s ih
      rw [nthT_e c (by omega)] at q
      exact q
    · rw [if_neg c, if_neg c]; exact ih
theorem bgQ_e : ∀ b, b ≤ P.1 → (bgQ P b).1 = b ∧ ∀ c, c < b → (bgQ P b).2.1 c = (pgZ P).2.1 c ∧ (∀ j, j < (pgZ P).2.1 c → (bgQ P b).2.2.1 c j = (pgZ P).2.2.1 c j) ∧ (bgQ P b).2.2.2 c = P.2.2.2 c
  | 0, _ => ⟨rfl, fun c hc => absurd hc (Nat.not_lt_zero c)⟩
  | b + 1, hb => by
    obtain ⟨i1, i2⟩ := bgQ_e b (by omega)
    have oO : ∀ c, c ≠ b → (pgOL P (bgQ P b)).2.1 c = (bgQ P b).2.1 c ∧ (pgOL P (bgQ P b)).2.2.2 c = (bgQ P b).2.2.2 c := fun c hc => ⟨if_neg (by rw [i1]; exact hc), funext (fun i => if_neg (by rw [i1]; exact hc))⟩
    have oL : (pgOL P (bgQ P b)).2.1 b = 0 ∧ (pgOL P (bgQ P b)).2.2.2 b = P.2.2.2 b := ⟨if_pos i1.symm, funext (fun i => if_pos i1.symm)⟩
    have o1 : (pgOL P (bgQ P b)).1 = b + 1 := by show (bgQ P b).1 + 1 = b + 1; rw [i1]
    show (cpB P (@ite gPg (b = 0) (Classical.propDecidable (b = 0)) (zrF (lz P) (pgOL P (bgQ P b)) 100) (pgOL P (bgQ P b))) b (P.2.1 b)).1 = b + 1 ∧ ∀ c, c < b + 1 → (cpB P (@ite gPg (b = 0) (Classical.propDecidable (b = 0)) (zrF (lz P) (pgOL P (bgQ P b)) 100) (pgOL P (bgQ P b))) b (P.2.1 b)).2.1 c = (pgZ P).2.1 c ∧ (∀ j, j < (pgZ P).2.1 c → (cpB P (@ite gPg (b = 0) (Classical.propDecidable (b = 0)) (zrF (lz P) (pgOL P (bgQ P b)) 100) (pgOL P (bgQ P b))) b (P.2.1 b)).2.2.1 c j = (pgZ P).2.2.1 c j) ∧ (cpB P (@ite gPg (b = 0) (Classical.propDecidable (b = 0)) (zrF (lz P) (pgOL P (bgQ P b)) 100) (pgOL P (bgQ P b))) b (P.2.1 b)).2.2.2 c = P.2.2.2 c
    by_cases e : b = 0
    · rw [if_pos e]
      obtain ⟨z1, z2, z3, z4⟩ := zrF_f (Q := pgOL P (bgQ P b)) (T := lz P) 100 (Nat.le_refl _)
      obtain ⟨y1, y2, y3, y4⟩ := cpB_f (P := P) (Q := zrF (lz P) (pgOL P (bgQ P b)) 100) (b := b) (P.2.1 b)
      refine ⟨by rw [y1, z1, o1], fun c hc => ?_⟩
      have ec : c = 0 := by omega
      obtain ⟨x1, x2, x3⟩ := z4 c (by rw [o1]; omega)
      obtain ⟨w1, w2, w3⟩ := y4 c (by rw [z1, o1]; omega)
      have eb : c = b := by omega
      have l0 : (pgOL P (bgQ P b)).2.1 c = 0 := by rw [eb]; exact oL.1
      rw [l0, Nat.zero_add] at x1
      have lz0 : (pgZ P).2.1 c = cntP (lz P) 100 + P.2.1 0 := if_pos ec
      rw [x1] at w1 w2 w3
      refine ⟨by rw [w1, lz0, e], fun j hj => ?_, ?_⟩
      · rw [lz0] at hj
        show _ = if c = 0 then (if j < cntP (lz P) 100 then mkL 14 (nthT (lz P) 100 j : Int) (-1) 0 (-1) 0 else P.2.2.1 0 (j - cntP (lz P) 100)) else P.2.2.1 c j
        rw [if_pos ec]
        by_cases q : j < cntP (lz P) 100
        · rw [if_pos q, w2 j q]
          have := x3 j q
          rw [l0, Nat.zero_add] at this
          exact this
        · rw [if_neg q]
          have := w3 (j - cntP (lz P) 100) (by rw [e]; omega)
          rw [show cntP (lz P) 100 + (j - cntP (lz P) 100) = j by omega] at this
          rw [this, e]
      · rw [y3, z3, eb]; exact oL.2
    · rw [if_neg e]
      obtain ⟨y1, y2, y3, y4⟩ := cpB_f (P := P) (Q := pgOL P (bgQ P b)) (b := b) (P.2.1 b)
      refine ⟨by rw [y1, o1], fun c hc => ?_⟩
      by_cases eb : c = b
      · obtain ⟨w1, w2, w3⟩ := y4 c (by rw [o1]; omega)
        have l0 : (pgOL P (bgQ P b)).2.1 c = 0 := by rw [eb]; exact oL.1
        rw [l0] at w1 w3
        have lz1 : (pgZ P).2.1 c = P.2.1 c := if_neg (by omega)
        refine ⟨by rw [w1, lz1, eb, Nat.zero_add], fun j hj => ?_, by rw [y3, eb]; exact oL.2⟩
        rw [lz1] at hj
        have := w3 j (by rw [← eb]; exact hj)
        rw [Nat.zero_add] at this
        rw [this, ← eb]
        exact (if_neg (by omega)).symm
      · obtain ⟨w1, w2⟩ := y2 c (by rw [o1]; omega)
        obtain ⟨k1, k2, k3⟩ := i2 c (by omega)
        refine ⟨by rw [w1, (oO c eb).1]; exact k1, fun j hj => ?_, by rw [y3, (oO c eb).2]; exact k3⟩
        rw [w2]
        exact k2 j hj
theorem bgQ_Z : pgE (bgQ P P.1) (pgZ P) := by
  obtain ⟨h1, h2⟩ := bgQ_e (P := P) P.1 (Nat.le_refl _)
  refine ⟨h1, fun b hb => ?_⟩
  obtain ⟨k1, k2, k3⟩ := h2 b (by omega)
  exact ⟨k1, fun j hj => k2 j (by omega), fun i _ => by rw [k3]; rfl⟩
end BG
