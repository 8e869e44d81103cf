/-- the names that a line uses and sets, -1 for none -/
def u1V (sl : Bool) (l : Nat → Int) : Int := if sl = true then (if l 0 = 17 then l 5 else -1) else l 2
def u2V (sl : Bool) (l : Nat → Int) : Int := if sl = true then -1 else l 4
def seV (sl : Bool) (l : Nat → Int) : Int := if sl = true then (if l 0 = 18 then l 5 else -1) else l 1
theorem usR_iff {sl : Bool} {l : Nat → Int} {v : Nat} : usR sl l v ↔ u1V sl l = (v : Int) ∨ u2V sl l = (v : Int) := by
  unfold usR u1V u2V
  cases sl with
  | false => rw [if_neg (by decide), if_neg (by decide), if_neg (by decide)]
  | true =>
    rw [if_pos rfl, if_pos rfl, if_pos rfl]
    by_cases c : l 0 = 17
    · rw [if_pos c]
      constructor
      · intro h; exact Or.inl h.2
      · rintro (h | h)
        · exact ⟨c, h⟩
        · omega
    · rw [if_neg c]
      constructor
      · intro h; exact absurd h.1 c
      · intro h; omega
theorem seR_iff {sl : Bool} {l : Nat → Int} {v : Nat} : seR sl l v ↔ seV sl l = (v : Int) := by
  unfold seR seV
  cases sl with
  | false => rw [if_neg (by decide), if_neg (by decide)]
  | true =>
    rw [if_pos rfl, if_pos rfl]
    by_cases c : l 0 = 18
    · rw [if_pos c]
      exact ⟨fun h => h.2, fun h => ⟨c, h⟩⟩
    · rw [if_neg c]
      constructor
      · intro h; exact absurd h.1 c
      · intro h; omega
section LVC
variable {P : gPg} {sl : Bool} {W Nm b j : Nat} {u s u1 s1 e1 e2 : Nat → Int64}
theorem reg_u {b c v w W : Nat} (h : 64 * (b * W) + v = 64 * (c * W) + w) (hv : v < 64 * W) (hw : w < 64 * W) : b = c ∧ v = w := by
  by_cases h1 : b < c
  · have h2 : (b + 1) * W ≤ c * W := Nat.mul_le_mul_right W h1
    rw [Nat.add_mul, Nat.one_mul] at h2
    omega
  · by_cases h3 : c < b
    · have h2 : (c + 1) * W ≤ b * W := Nat.mul_le_mul_right W h3
      rw [Nat.add_mul, Nat.one_mul] at h2
      omega
    · have h4 : b = c := by omega
      rw [h4] at h
      exact ⟨h4, by omega⟩
/-- what gathering the lines from j on does -/
def gth (P : gPg) (sl : Bool) (W Nm b j : Nat) (u s e1 e2 : Nat → Int64) : Prop :=
  ∀ q, (gbit e2 q = true ↔ gbit s q = true ∨ ∃ k v, j ≤ k ∧ k < P.2.1 b ∧ v < Nm ∧ seR sl (P.2.2.1 b k) v ∧ q = 64 * (b * W) + v) ∧
    (gbit e1 q = true ↔ gbit u q = true ∨ ∃ k v, j ≤ k ∧ k < P.2.1 b ∧ v < Nm ∧ usR sl (P.2.2.1 b k) v ∧ q = 64 * (b * W) + v ∧ gbit s q = false ∧ ∀ i, j ≤ i → i < k → ¬ seR sl (P.2.2.1 b i) v)
theorem gth_0 (h : P.2.1 b ≤ j) : gth P sl W Nm b j u s u s := fun q =>
  ⟨⟨Or.inl, fun h' => h'.elim id (fun ⟨k, v, a, c, _⟩ => by omega)⟩, ⟨Or.inl, fun h' => h'.elim id (fun ⟨k, v, a, c, _⟩ => by omega)⟩⟩
theorem gth_s (hj : j < P.2.1 b) (hS : ∀ q, gbit s1 q = true ↔ gbit s q = true ∨ ∃ v, v < Nm ∧ seR sl (P.2.2.1 b j) v ∧ q = 64 * (b * W) + v) (hU : ∀ q, gbit u1 q = true ↔ gbit u q = true ∨ ∃ v, v < Nm ∧ usR sl (P.2.2.1 b j) v ∧ q = 64 * (b * W) + v ∧ gbit s q = false) (ih : gth P sl W Nm b (j + 1) u1 s1 e1 e2) : gth P sl W Nm b j u s e1 e2 := fun q => by
  obtain ⟨i1, i2⟩ := ih q
  constructor
  · rw [i1, hS q]
    constructor
    · rintro ((h | ⟨v, a, c, d⟩) | ⟨k, v, a, c, d, e, f⟩)
      · exact Or.inl h
      · exact Or.inr ⟨j, v, Nat.le_refl _, hj, a, c, d⟩
      · exact Or.inr ⟨k, v, by omega, c, d, e, f⟩
    · rintro (h | ⟨k, v, a, c, d, e, f⟩)
      · exact Or.inl (Or.inl h)
      · by_cases z : k = j
        · rw [z] at e; exact Or.inl (Or.inr ⟨v, d, e, f⟩)
        · exact Or.inr ⟨k, v, by omega, c, d, e, f⟩
  · rw [i2, hU q]
    constructor
    · rintro ((h | ⟨v, a, c, d, e⟩) | ⟨k, v, a, c, d, e, f, g, h⟩)
      · exact Or.inl h
      · exact Or.inr ⟨j, v, Nat.le_refl _, hj, a, c, d, e, fun i p r => by omega⟩
      · have n1 : ¬ gbit s1 q = true := by rw [g]; decide
        rw [hS q] at n1
        refine Or.inr ⟨k, v, by omega, c, d, e, f, ?_, fun i p r => ?_⟩
        · cases z : gbit s q with
          | false => rfl
          | true => exact absurd (Or.inl z) n1
        · by_cases z : i = j
          · rw [z]; exact fun w => n1 (Or.inr ⟨v, d, w, f⟩)
          · exact h i (by omega) r
    · rintro (h | ⟨k, v, a, c, d, e, f, g, h⟩)
      · exact Or.inl (Or.inl h)
      · by_cases z : k = j
        · rw [z] at e; exact Or.inl (Or.inr ⟨v, d, e, f, g⟩)
        · refine Or.inr ⟨k, v, by omega, c, d, e, f, ?_, fun i p r => h i (by omega) r⟩
          cases y : gbit s1 q with
          | false => rfl
          | true =>
            rcases (hS q).mp y with y | ⟨w, p, r, t⟩
            · rw [g] at y; cases y
            · have hw : w = v := by omega
              rw [hw] at r
              exact absurd r (h j (Nat.le_refl _) (by omega))
/-- two uses one behind the other -/
theorem us_two {x : Nat → Int64} {A : Nat} {a c : Int} (h1 : ∀ q, gbit x q = (gbit u q || (decide (0 ≤ a ∧ a < (Nm : Int) ∧ (q : Int) = 64 * (A : Int) + a) && !gbit s q))) (h2 : ∀ q, gbit u1 q = (gbit x q || (decide (0 ≤ c ∧ c < (Nm : Int) ∧ (q : Int) = 64 * (A : Int) + c) && !gbit s q))) (l : Nat → Int) (e1 : u1V sl l = a) (e2 : u2V sl l = c) : ∀ q, gbit u1 q = true ↔ gbit u q = true ∨ ∃ v, v < Nm ∧ usR sl l v ∧ q = 64 * A + v ∧ gbit s q = false := fun q => by
  rw [h2 q, h1 q, Bool.or_eq_true, Bool.or_eq_true, Bool.and_eq_true, Bool.and_eq_true, decide_eq_true_iff, decide_eq_true_iff, Bool.not_eq_true']
  constructor
  · rintro ((h | ⟨⟨p, r, t⟩, g⟩) | ⟨⟨p, r, t⟩, g⟩)
    · exact Or.inl h
    · exact Or.inr ⟨a.toNat, by omega, usR_iff.mpr (Or.inl (by omega)), by omega, g⟩
    · exact Or.inr ⟨c.toNat, by omega, usR_iff.mpr (Or.inr (by omega)), by omega, g⟩
  · rintro (h | ⟨v, p, r, t, g⟩)
    · exact Or.inl (Or.inl h)
    · rcases usR_iff.mp r with r | r
      · exact Or.inl (Or.inr ⟨⟨by omega, by omega, by omega⟩, g⟩)
      · exact Or.inr ⟨⟨by omega, by omega, by omega⟩, g⟩
theorem se_one {A m : Nat} (l : Nat → Int) (h : ∀ q, gbit s1 q = (gbit s q || decide (q = 64 * A + m))) (e : seV sl l = (m : Int)) (hm : m < Nm) : ∀ q, gbit s1 q = true ↔ gbit s q = true ∨ ∃ v, v < Nm ∧ seR sl l v ∧ q = 64 * A + v := fun q => by
  rw [h q, Bool.or_eq_true, decide_eq_true_iff]
  constructor
  · rintro (h | h)
    · exact Or.inl h
    · exact Or.inr ⟨m, hm, seR_iff.mpr e, h⟩
  · rintro (h | ⟨v, p, r, t⟩)
    · exact Or.inl h
    · have := seR_iff.mp r
      exact Or.inr (by omega)
theorem se_no {A : Nat} (l : Nat → Int) (e : ¬ (0 ≤ seV sl l ∧ seV sl l < (Nm : Int))) : ∀ q, gbit s q = true ↔ gbit s q = true ∨ ∃ v, v < Nm ∧ seR sl l v ∧ q = 64 * A + v := fun q =>
  ⟨Or.inl, fun h => h.elim id (fun ⟨v, p, r, _⟩ => absurd (by have := seR_iff.mp r; omega) e)⟩
/-- the bits of the blocks from b on -/
def gtB (P : gPg) (sl : Bool) (W Nm b : Nat) (u s e1 e2 : Nat → Int64) : Prop :=
  ∀ c v, c < P.1 → v < 64 * W → (c < b → gbit e1 (64 * (c * W) + v) = gbit u (64 * (c * W) + v) ∧ gbit e2 (64 * (c * W) + v) = gbit s (64 * (c * W) + v)) ∧
    (b ≤ c → (gbit e1 (64 * (c * W) + v) = true ↔ v < Nm ∧ usd P sl v c) ∧ (gbit e2 (64 * (c * W) + v) = true ↔ v < Nm ∧ std P sl v c))
def zrB (P : gPg) (W b : Nat) (u : Nat → Int64) : Prop := ∀ c v, c < P.1 → b ≤ c → v < 64 * W → gbit u (64 * (c * W) + v) = false
theorem gtB_s (hW : Nm ≤ 64 * W) (hb : b < P.1) (hu : zrB P W b u) (hs : zrB P W b s) (h : gth P sl W Nm b 0 u s u1 s1) (ih : zrB P W (b + 1) u1 → zrB P W (b + 1) s1 → gtB P sl W Nm (b + 1) u1 s1 e1 e2) : gtB P sl W Nm b u s e1 e2 := by
  have oth : ∀ c v, c < P.1 → c ≠ b → v < 64 * W → gbit u1 (64 * (c * W) + v) = gbit u (64 * (c * W) + v) ∧ gbit s1 (64 * (c * W) + v) = gbit s (64 * (c * W) + v) := fun c v hc hn hv => by
    obtain ⟨h1, h2⟩ := h (64 * (c * W) + v)
    constructor
    · rw [Bool.eq_iff_iff, h2]
      exact ⟨fun z => z.elim id (fun ⟨k, w, _, _, p, _, q, _⟩ => absurd (reg_u q hv (by omega)).1 hn), Or.inl⟩
    · rw [Bool.eq_iff_iff, h1]
      exact ⟨fun z => z.elim id (fun ⟨k, w, _, _, p, _, q⟩ => absurd (reg_u q hv (by omega)).1 hn), Or.inl⟩
  have g := ih (fun c v hc hbc hv => by rw [(oth c v hc (by omega) hv).1]; exact hu c v hc (by omega) hv) (fun c v hc hbc hv => by rw [(oth c v hc (by omega) hv).2]; exact hs c v hc (by omega) hv)
  intro c v hc hv
  obtain ⟨g1, g2⟩ := g c v hc hv
  constructor
  · intro hcb
    obtain ⟨a1, a2⟩ := g1 (by omega)
    obtain ⟨o1, o2⟩ := oth c v hc (by omega) hv
    exact ⟨a1.trans o1, a2.trans o2⟩
  · intro hbc
    by_cases e : c = b
    · obtain ⟨a1, a2⟩ := g1 (by omega)
      rw [a1, a2, e]
      obtain ⟨h1, h2⟩ := h (64 * (b * W) + v)
      have z1 := hu b v hb (Nat.le_refl _) hv
      have z2 := hs b v hb (Nat.le_refl _) hv
      rw [h1, h2, z1, z2]
      constructor
      · constructor
        · rintro (z | ⟨k, w, _, a, p, q, r, _, t⟩)
          · cases z
          · have ew := (reg_u r hv (by omega)).2
            rw [← ew] at p q t
            exact ⟨p, k, a, q, fun i hi => t i (Nat.zero_le _) hi⟩
        · rintro ⟨p, k, a, q, t⟩
          exact Or.inr ⟨k, v, Nat.zero_le _, a, p, q, rfl, rfl, fun i _ hi => t i hi⟩
      · constructor
        · rintro (z | ⟨k, w, _, a, p, q, r⟩)
          · cases z
          · have ew := (reg_u r hv (by omega)).2
            rw [← ew] at p q
            exact ⟨p, k, a, q⟩
        · rintro ⟨p, k, a, q⟩
          exact Or.inr ⟨k, v, Nat.zero_le _, a, p, q, rfl⟩
    · exact g2 (by omega)
end LVC
