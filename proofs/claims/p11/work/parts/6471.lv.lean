/-- what a line uses and sets: registers, or slots -/
def usR (sl : Bool) (l : Nat → Int) (v : Nat) : Prop := if sl = true then (l 0 = 17 ∧ l 5 = (v : Int)) else (l 2 = (v : Int) ∨ l 4 = (v : Int))
def seR (sl : Bool) (l : Nat → Int) (v : Nat) : Prop := if sl = true then (l 0 = 18 ∧ l 5 = (v : Int)) else l 1 = (v : Int)
/-- v is alive in front of line j of block b -/
def Lv (P : gPg) (sl : Bool) (v b j : Nat) : Prop := ∀ R : Nat → Nat → Prop,
  (∀ b j, b < P.1 → j < P.2.1 b → usR sl (P.2.2.1 b j) v → R b j) →
  (∀ b j, b < P.1 → j < P.2.1 b → ¬ seR sl (P.2.2.1 b j) v → R b (j + 1) → R b j) →
  (∀ b i g : Nat, b < P.1 → i < 2 → P.2.2.2 b i = (g : Int) → g < P.1 → R g 0 → R b (P.2.1 b)) →
  R b j
/-- used before it is set, set, in a block -/
def usd (P : gPg) (sl : Bool) (v b : Nat) : Prop := ∃ j, j < P.2.1 b ∧ usR sl (P.2.2.1 b j) v ∧ ∀ k, k < j → ¬ seR sl (P.2.2.1 b k) v
def std (P : gPg) (sl : Bool) (v b : Nat) : Prop := ∃ j, j < P.2.1 b ∧ seR sl (P.2.2.1 b j) v
/-- some goal of b is one of X -/
def goX (P : gPg) (X : Nat → Prop) (b : Nat) : Prop := ∃ i g : Nat, i < 2 ∧ P.2.2.2 b i = (g : Int) ∧ g < P.1 ∧ X g
section LV
variable {P : gPg} {sl : Bool} {v b j : Nat}
theorem Lv_u (h1 : b < P.1) (h2 : j < P.2.1 b) (h3 : usR sl (P.2.2.1 b j) v) : Lv P sl v b j := fun _ c1 _ _ => c1 b j h1 h2 h3
theorem Lv_s (h1 : b < P.1) (h2 : j < P.2.1 b) (h3 : ¬ seR sl (P.2.2.1 b j) v) (h4 : Lv P sl v b (j + 1)) : Lv P sl v b j := fun R c1 c2 c3 => c2 b j h1 h2 h3 (h4 R c1 c2 c3)
theorem Lv_g {i g : Nat} (h1 : b < P.1) (h2 : i < 2) (h3 : P.2.2.2 b i = (g : Int)) (h4 : g < P.1) (h5 : Lv P sl v g 0) : Lv P sl v b (P.2.1 b) := fun R c1 c2 c3 => c3 b i g h1 h2 h3 h4 (h5 R c1 c2 c3)
theorem Lv_e (h : Lv P sl v b j) : (b < P.1 ∧ j < P.2.1 b ∧ (usR sl (P.2.2.1 b j) v ∨ (¬ seR sl (P.2.2.1 b j) v ∧ Lv P sl v b (j + 1)))) ∨ (b < P.1 ∧ j = P.2.1 b ∧ goX P (fun g => Lv P sl v g 0) b) := by
  have q := h (fun b j => Lv P sl v b j ∧ ((b < P.1 ∧ j < P.2.1 b ∧ (usR sl (P.2.2.1 b j) v ∨ (¬ seR sl (P.2.2.1 b j) v ∧ Lv P sl v b (j + 1)))) ∨ (b < P.1 ∧ j = P.2.1 b ∧ goX P (fun g => Lv P sl v g 0) b)))
    (fun b j h1 h2 h3 => ⟨Lv_u h1 h2 h3, Or.inl ⟨h1, h2, Or.inl h3⟩⟩)
    (fun b j h1 h2 h3 h4 => ⟨Lv_s h1 h2 h3 h4.1, Or.inl ⟨h1, h2, Or.inr ⟨h3, h4.1⟩⟩⟩)
    (fun b i g h1 h2 h3 h4 h5 => ⟨Lv_g h1 h2 h3 h4 h5.1, Or.inr ⟨h1, rfl, i, g, h2, h3, h4, h5.1⟩⟩)
  exact q.2
theorem Lv_row (h1 : b < P.1) (h2 : j < P.2.1 b) : Lv P sl v b j ↔ usR sl (P.2.2.1 b j) v ∨ (¬ seR sl (P.2.2.1 b j) v ∧ Lv P sl v b (j + 1)) := by
  constructor
  · intro h
    rcases Lv_e h with ⟨-, -, q⟩ | ⟨-, q, -⟩
    · exact q
    · omega
  · rintro (h | ⟨h, h'⟩)
    · exact Lv_u h1 h2 h
    · exact Lv_s h1 h2 h h'
theorem Lv_out (h1 : b < P.1) : Lv P sl v b (P.2.1 b) ↔ goX P (fun g => Lv P sl v g 0) b := by
  constructor
  · intro h
    rcases Lv_e h with ⟨-, q, -⟩ | ⟨-, -, q⟩
    · omega
    · exact q
  · rintro ⟨i, g, h2, h3, h4, h5⟩
    exact Lv_g h1 h2 h3 h4 h5
/-- block by block -/
theorem Lv_blk (h1 : b < P.1) : Lv P sl v b 0 ↔ usd P sl v b ∨ (¬ std P sl v b ∧ Lv P sl v b (P.2.1 b)) := by
  have key : ∀ m j, j + m = P.2.1 b → (Lv P sl v b j ↔ (∃ k, j ≤ k ∧ k < P.2.1 b ∧ usR sl (P.2.2.1 b k) v ∧ ∀ i, j ≤ i → i < k → ¬ seR sl (P.2.2.1 b i) v) ∨ ((∀ i, j ≤ i → i < P.2.1 b → ¬ seR sl (P.2.2.1 b i) v) ∧ Lv P sl v b (P.2.1 b))) := by
    intro m
    induction m with
    | zero =>
      intro j hj
      have e : j = P.2.1 b := by omega
      rw [e]
      constructor
      · intro h; exact Or.inr ⟨fun i a c => by omega, h⟩
      · rintro (⟨k, a, c, -⟩ | h)
        · omega
        · exact h.2
    | succ m ih =>
      intro j hj
      rw [Lv_row h1 (show j < P.2.1 b by omega), ih (j + 1) (by omega)]
      constructor
      · rintro (h | ⟨h, ⟨k, a, c, d, e⟩ | ⟨a, c⟩⟩)
        · exact Or.inl ⟨j, Nat.le_refl _, by omega, h, fun i a c => by omega⟩
        · refine Or.inl ⟨k, by omega, c, d, fun i p q => ?_⟩
          by_cases z : i = j
          · rw [z]; exact h
          · exact e i (by omega) q
        · refine Or.inr ⟨fun i p q => ?_, c⟩
          by_cases z : i = j
          · rw [z]; exact h
          · exact a i (by omega) q
      · rintro (⟨k, a, c, d, e⟩ | ⟨a, c⟩)
        · by_cases z : k = j
          · rw [z] at d; exact Or.inl d
          · exact Or.inr ⟨e j (Nat.le_refl _) (by omega), Or.inl ⟨k, by omega, c, d, fun i p q => e i (by omega) q⟩⟩
        · exact Or.inr ⟨a j (Nat.le_refl _) (by omega), Or.inr ⟨fun i p q => a i (by omega) q, c⟩⟩
  rw [key (P.2.1 b) 0 (by omega)]
  constructor
  · rintro (⟨k, a, c, d, e⟩ | ⟨a, c⟩)
    · exact Or.inl ⟨k, c, d, fun i hi => e i (Nat.zero_le _) hi⟩
    · exact Or.inr ⟨fun ⟨j, hj, hs⟩ => a j (Nat.zero_le _) hj hs, c⟩
  · rintro (⟨k, c, d, e⟩ | ⟨a, c⟩)
    · exact Or.inl ⟨k, Nat.zero_le _, c, d, fun i _ hi => e i hi⟩
    · exact Or.inr ⟨fun i _ hi hs => a ⟨i, hi, hs⟩, c⟩
/-- it is the least one -/
theorem Lv_le {X : Nat → Prop} (hX : ∀ b, b < P.1 → usd P sl v b ∨ (¬ std P sl v b ∧ goX P X b) → X b) (h : Lv P sl v b 0) (hb : b < P.1) : X b := by
  have q := h (fun b j => b < P.1 ∧ ((∃ k, j ≤ k ∧ k < P.2.1 b ∧ usR sl (P.2.2.1 b k) v ∧ ∀ i, j ≤ i → i < k → ¬ seR sl (P.2.2.1 b i) v) ∨ ((∀ i, j ≤ i → i < P.2.1 b → ¬ seR sl (P.2.2.1 b i) v) ∧ goX P X b)))
    (fun b j h1 h2 h3 => ⟨h1, Or.inl ⟨j, Nat.le_refl _, h2, h3, fun i a c => by omega⟩⟩)
    (fun b j h1 h2 h3 h4 => by
      refine ⟨h1, ?_⟩
      rcases h4.2 with ⟨k, a, c, d, e⟩ | ⟨a, c⟩
      · refine Or.inl ⟨k, by omega, c, d, fun i p q => ?_⟩
        by_cases z : i = j
        · rw [z]; exact h3
        · exact e i (by omega) q
      · refine Or.inr ⟨fun i p q => ?_, c⟩
        by_cases z : i = j
        · rw [z]; exact h3
        · exact a i (by omega) q)
    (fun b i g h1 h2 h3 h4 h5 => by
      refine ⟨h1, Or.inr ⟨fun i a c => by omega, i, g, h2, h3, h4, hX g h4 ?_⟩⟩
      rcases h5.2 with ⟨k, a, c, d, e⟩ | ⟨a, c⟩
      · exact Or.inl ⟨k, c, d, fun i hi => e i (Nat.zero_le _) hi⟩
      · exact Or.inr ⟨fun ⟨j, hj, hs⟩ => a j (Nat.zero_le _) hj hs, c⟩)
  refine hX b hb ?_
  rcases q.2 with ⟨k, a, c, d, e⟩ | ⟨a, c⟩
  · exact Or.inl ⟨k, c, d, fun i hi => e i (Nat.zero_le _) hi⟩
  · exact Or.inr ⟨fun ⟨j, hj, hs⟩ => a j (Nat.zero_le _) hj hs, c⟩
/-- what k rounds find at least -/
def Lt (P : gPg) (sl : Bool) (v : Nat) : Nat → Nat → Prop
  | 0, _ => False
  | p + 1, b => usd P sl v b ∨ (¬ std P sl v b ∧ goX P (Lt P sl v p) b)
theorem goX_mo {X Y : Nat → Prop} (h : ∀ g, g < P.1 → X g → Y g) (q : goX P X b) : goX P Y b := by
  obtain ⟨i, g, h1, h2, h3, h4⟩ := q
  exact ⟨i, g, h1, h2, h3, h g h3 h4⟩
theorem Lt_mo : ∀ p b, Lt P sl v p b → Lt P sl v (p + 1) b
  | 0, _, h => absurd h id
  | p + 1, b, h => by
    rcases h with h | ⟨h, h'⟩
    · exact Or.inl h
    · exact Or.inr ⟨h, goX_mo (fun g _ => Lt_mo p g) h'⟩
theorem Lv_n {X : Nat → Prop} (hs : ∀ b, b < P.1 → Lt P sl v P.1 b → X b) (h : Lv P sl v b 0) (hb : b < P.1) : X b := by
  have st := chn_st (Lt P sl v) P.1 (fun p b => Lt_mo p b) (fun p hp b hb h => by
    rcases h with h | ⟨h, h'⟩
    · exact Or.inl h
    · exact Or.inr ⟨h, goX_mo (fun g hg => hp g hg) h'⟩)
  exact hs b hb (Lv_le (X := Lt P sl v P.1) (fun b hb h => st b hb h) h hb)
end LV
