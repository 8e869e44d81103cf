section LOC
variable {P : gPg} {E : Nat → Nat → Prop} {S N : Nat → Prop}
theorem shn {x y z : Int64} {i : Int32} {m : Nat} (hy : y = x >>> (i.toInt64 &&& 63)) (hz : z = y &&& 1) (hi : i.toInt = (m : Int)) (hm : m < 64) : (¬ z = 0) ↔ x.toBitVec.getLsbD m = true := by
  rw [sh_bit hy hz hi hm, Bool.not_eq_false]
theorem wk1_tl {l5_1 : Int64} {c1 : Nat → Int64} {a2 : Int64} {s1 : Int32} {s2 : Int64} {k : Nat} {e1 : Int64} (h : tl_Loops_walk_26 l5_1 c1 a2 s1 s2 k e1) : ∀ m : Nat, s1.toInt = (m : Int) → ∀ b, b < 64 → (e1.toBitVec.getLsbD b = true ↔ s2.toBitVec.getLsbD b = true ∨ ∃ a, m ≤ a ∧ a < 40 ∧ l5_1.toBitVec.getLsbD a = true ∧ (c1 a).toBitVec.getLsbD b = true ∧ ¬ a2.toBitVec.getLsbD b = true) := by
  refine h (fun s1 s2 _ e1 => ∀ m : Nat, s1.toInt = (m : Int) → ∀ b, b < 64 → (e1.toBitVec.getLsbD b = true ↔ s2.toBitVec.getLsbD b = true ∨ ∃ a, m ≤ a ∧ a < 40 ∧ l5_1.toBitVec.getLsbD a = true ∧ (c1 a).toBitVec.getLsbD b = true ∧ ¬ a2.toBitVec.getLsbD b = true)) ?_ ?_ ?_
  · intro l10_2 l8_2 h1 h2
    exact fun m hm b hb => ⟨Or.inl, fun h => h.elim id (fun ⟨a, h1, h2, _⟩ => by omega)⟩
  · intro l10_2 l8_2 x1 x2 x3 k e1 h1 h2 h3 h4 h5 h6 ih
    intro m hm b hb
    have q := shn h3 h4 hm (by omega)
    rw [ih (m + 1) (by omega) b hb]
    constructor
    · rintro (h | ⟨a, h1, h2⟩)
      · exact Or.inl h
      · exact Or.inr ⟨a, by omega, h2⟩
    · rintro (h | ⟨a, h1, h2, h3, h4⟩)
      · exact Or.inl h
      · by_cases e : a = m
        · rw [e] at h3; exact absurd h5 (q.mpr h3)
        · exact Or.inr ⟨a, by omega, h2, h3, h4⟩
  · intro l10_2 l8_2 x1 x2 x3 x4 x5 x6 x7 k e1 h1 h2 h3 h4 h5 h6 h7 h8 h9 h10 ih
    intro m hm b hb
    have q := (shn h3 h4 hm (by omega)).mp h5
    have k3 := h6
    rw [nnE hm] at k3
    have nb : x6.toBitVec.getLsbD b = true ↔ l8_2.toBitVec.getLsbD b = true ∨ ((c1 m).toBitVec.getLsbD b = true ∧ ¬ a2.toBitVec.getLsbD b = true) := by
      rw [bit_or h9, bit_and h8, bit_not h7 b hb, k3, Bool.or_eq_true, Bool.and_eq_true, Bool.not_eq_true', Bool.not_eq_true]
    rw [ih (m + 1) (by omega) b hb, nb]
    constructor
    · rintro ((h | ⟨h1, h2⟩) | ⟨a, h1, h2⟩)
      · exact Or.inl h
      · exact Or.inr ⟨m, Nat.le_refl _, by omega, q, h1, h2⟩
      · exact Or.inr ⟨a, by omega, h2⟩
    · rintro (h | ⟨a, h1, h2, h3, h4, h5⟩)
      · exact Or.inl (Or.inl h)
      · by_cases e : a = m
        · rw [e] at h4; exact Or.inl (Or.inr ⟨h4, h5⟩)
        · exact Or.inr ⟨a, by omega, h2, h3, h4, h5⟩
theorem wk2_tl {c1 : Nat → Int64} {a2 : Int64} {s1 : Int32} {s2 : Int64} {k : Nat} {e1 : Int64} (hE : (∀ a b, a < 40 → b < 64 → ((c1 a).toBitVec.getLsbD b = true ↔ E a b))) (hE2 : ∀ a b, E a b → a < 40 ∧ b < 40) (hS : ∀ b, S b → b < 40) (hN : (∀ b, b < 64 → (a2.toBitVec.getLsbD b = true ↔ N b))) (h : tl_Loops_walk_12 c1 a2 s1 s2 k e1) : ∀ p : Nat, s1.toInt = (p : Int) → (∀ b, b < 64 → (s2.toBitVec.getLsbD b = true ↔ WT E S N p b)) → ∀ b, b < 64 → (e1.toBitVec.getLsbD b = true ↔ Wk E S N b) := by
  have hb : ∀ p b, WT E S N p b → b < 40 := fun p => by
    induction p with
    | zero => exact fun b h => hS b h.1
    | succ p ih => exact fun b h => h.elim (ih b) (fun ⟨a, _, h2, _⟩ => (hE2 a b h2).2)
  refine h (fun s1 s2 _ e1 => ∀ p : Nat, s1.toInt = (p : Int) → (∀ b, b < 64 → (s2.toBitVec.getLsbD b = true ↔ WT E S N p b)) → ∀ b, b < 64 → (e1.toBitVec.getLsbD b = true ↔ Wk E S N b)) ?_ ?_ ?_
  · intro l7_1 l5_1 h1 h2
    intro p hp hs b hb
    have e : p = 40 := by have z := h1.2; omega
    rw [e] at hs
    rw [hs b hb]
    exact WT_n hS (fun a b q => (hE2 a b q).2) b
  · intro l7_1 l5_1 x1 x2 k e1 h1 h2 h3 h4 h5 ih
    intro p hp hs
    have st : ∀ b, b < 64 → (x1.toBitVec.getLsbD b = true ↔ WT E S N (p + 1) b) := fun b hb' => by
      rw [wk1_tl h3 0 (by decide) b hb', hs b hb']
      constructor
      · rintro (h | ⟨a, h1, h2, h3, h4, h5⟩)
        · exact Or.inl h
        · exact Or.inr ⟨a, (hs a (by omega)).mp h3, (hE a b h2 hb').mp h4, fun z => h5 ((hN b hb').mpr z)⟩
      · rintro (h | ⟨a, h1, h2, h3⟩)
        · exact Or.inl h
        · have ha := (hE2 a b h2).1
          exact Or.inr ⟨a, Nat.zero_le _, ha, (hs a (by omega)).mpr h1, (hE a b ha hb').mpr h2, fun z => h3 ((hN b hb').mp z)⟩
    exact ih (p + 1) (by omega) st
  · intro l7_1 l5_1 x1 h1 h2 h3 h4
    intro p hp hs
    have st : ∀ b, b < 64 → (x1.toBitVec.getLsbD b = true ↔ WT E S N (p + 1) b) := fun b hb' => by
      rw [wk1_tl h3 0 (by decide) b hb', hs b hb']
      constructor
      · rintro (h | ⟨a, h1, h2, h3, h4, h5⟩)
        · exact Or.inl h
        · exact Or.inr ⟨a, (hs a (by omega)).mp h3, (hE a b h2 hb').mp h4, fun z => h5 ((hN b hb').mpr z)⟩
      · rintro (h | ⟨a, h1, h2, h3⟩)
        · exact Or.inl h
        · have ha := (hE2 a b h2).1
          exact Or.inr ⟨a, Nat.zero_le _, ha, (hs a (by omega)).mpr h1, (hE a b ha hb').mpr h2, fun z => h3 ((hN b hb').mp z)⟩
    intro b hb'
    rw [hs b hb']
    refine WT_cl (fun b h => ?_) b
    have h40 := hb (p + 1) b h
    rw [← hs b (by omega), ← h4]
    exact (st b (by omega)).mpr h
theorem wk_tr {a1 : Int64} {a2 : Int64} {p : Nat → Int64} {o1 : Int64} (hE : (∀ a b, a < 40 → b < 64 → ((p a).toBitVec.getLsbD b = true ↔ E a b))) (hE2 : ∀ a b, E a b → a < 40 ∧ b < 40) (hS0 : ∀ b, b < 64 → (a1.toBitVec.getLsbD b = true ↔ S b)) (hS : ∀ b, S b → b < 40) (hN : (∀ b, b < 64 → (a2.toBitVec.getLsbD b = true ↔ N b))) (h : tr_Loops_walk a1 a2 p o1) : ∀ b, b < 64 → (o1.toBitVec.getLsbD b = true ↔ Wk E S N b) := by
  refine h (fun o1 => ∀ b, b < 64 → (o1.toBitVec.getLsbD b = true ↔ Wk E S N b)) ?_ ?_
  · intro x1 x2 x3 h1 h2 h3
    refine wk2_tl hE hE2 hS hN h3 0 (by decide) (fun b hb => ?_)
    rw [bit_and h2, bit_not h1 b hb, Bool.and_eq_true, Bool.not_eq_true', ← Bool.not_eq_true, hS0 b hb, hN b hb]
    exact Iff.rfl
  · intro x1 x2 x3 h1 h2 h3
    refine wk2_tl hE hE2 hS hN h3 0 (by decide) (fun b hb => ?_)
    rw [bit_and h2, bit_not h1 b hb, Bool.and_eq_true, Bool.not_eq_true', ← Bool.not_eq_true, hS0 b hb, hN b hb]
    exact Iff.rfl
theorem lk_tr {a1 : Int32} {a2 : Int32} {Loops_goals : Nat → Int64} {Loops_sources : Nat → Int64} {o1 : Nat → Int64} {o2 : Nat → Int64} {a : Nat} (ha : a1.toInt = (a : Int)) (ha2 : a < 40) (h : tr_Loops_link a1 a2 Loops_goals Loops_sources o1 o2) : ∀ x y : Nat, y < 64 → ((o1 x).toBitVec.getLsbD y = true ↔ (Loops_goals x).toBitVec.getLsbD y = true ∨ (x = a ∧ a2.toInt = (y : Int) ∧ y < 40)) ∧ ((o2 x).toBitVec.getLsbD y = true ↔ (Loops_sources x).toBitVec.getLsbD y = true ∨ (a2.toInt = (x : Int) ∧ x < 40 ∧ y = a)) := by
  refine h (fun o1 o2 => ∀ x y : Nat, y < 64 → ((o1 x).toBitVec.getLsbD y = true ↔ (Loops_goals x).toBitVec.getLsbD y = true ∨ (x = a ∧ a2.toInt = (y : Int) ∧ y < 40)) ∧ ((o2 x).toBitVec.getLsbD y = true ↔ (Loops_sources x).toBitVec.getLsbD y = true ∨ (a2.toInt = (x : Int) ∧ x < 40 ∧ y = a))) ?_ ?_ ?_
  · intro h1
    intro x y hy
    exact ⟨⟨Or.inl, fun h => h.elim id (fun z => by omega)⟩, ⟨Or.inl, fun h => h.elim id (fun z => by omega)⟩⟩
  · intro h1 h2
    intro x y hy
    exact ⟨⟨Or.inl, fun h => h.elim id (fun z => by omega)⟩, ⟨Or.inl, fun h => h.elim id (fun z => by omega)⟩⟩
  · intro x1 x2 x3 x4 x5 x6 x7 x8 h1 h2 h3 h4 h5 h6 h7 h8 h9 h10
    intro x y hy
    have ea := nnE ha
    have em : a2.toInt = ((a2.toInt.toNat : Nat) : Int) := (Int.toNat_of_nonneg h1).symm
    have eb := nnE em
    rw [ea] at h3 h6
    rw [eb] at h7 h10
    constructor
    · rw [h6]
      unfold vp_updL
      by_cases e : x = a
      · rw [if_pos e, bit_or h5, h3, lb_shl h4 em (by omega) y hy, e, Bool.or_eq_true, decide_eq_true_iff]
        exact ⟨fun h => h.elim Or.inl (fun z => Or.inr ⟨rfl, by omega, by omega⟩), fun h => h.elim Or.inl (fun z => Or.inr (by omega))⟩
      · rw [if_neg e]
        exact ⟨Or.inl, fun h => h.elim id (fun z => absurd z.1 e)⟩
    · rw [h10]
      unfold vp_updL
      by_cases e : x = a2.toInt.toNat
      · rw [if_pos e, bit_or h9, h7, lb_shl h8 ha (by omega) y hy, e, Bool.or_eq_true, decide_eq_true_iff]
        exact ⟨fun h => h.elim Or.inl (fun z => Or.inr ⟨em, by omega, z⟩), fun h => h.elim Or.inl (fun z => Or.inr z.2.2)⟩
      · rw [if_neg e]
        exact ⟨Or.inl, fun h => h.elim id (fun z => absurd (by omega) e)⟩
theorem lf_tl {Code_blocks : Int32} {Code_firstGoal : Nat → Int32} {Code_secondGoal : Nat → Int32} {s1 : Int32} {s2 : Nat → Int64} {s3 : Nat → Int64} {k : Nat} {e1 : Nat → Int64} {e2 : Nat → Int64} (hn : Code_blocks.toInt = (P.1 : Int)) (hP : P.1 ≤ 40) (hg : (∀ b : Nat, b < P.1 → (Code_firstGoal b).toInt = P.2.2.2 b 0 ∧ (Code_secondGoal b).toInt = P.2.2.2 b 1)) (h : tl_Loops_find_26 Code_blocks Code_firstGoal Code_secondGoal s1 s2 s3 k e1 e2) : ∀ m : Nat, s1.toInt = (m : Int) → ∀ x y : Nat, y < 64 → ((e1 x).toBitVec.getLsbD y = true ↔ (s2 x).toBitVec.getLsbD y = true ∨ (m ≤ x ∧ y < 40 ∧ Ed P x y)) ∧ ((e2 x).toBitVec.getLsbD y = true ↔ (s3 x).toBitVec.getLsbD y = true ∨ (m ≤ y ∧ x < 40 ∧ Ed P y x)) := by
  refine h (fun s1 s2 s3 _ e1 e2 => ∀ m : Nat, s1.toInt = (m : Int) → ∀ x y : Nat, y < 64 → ((e1 x).toBitVec.getLsbD y = true ↔ (s2 x).toBitVec.getLsbD y = true ∨ (m ≤ x ∧ y < 40 ∧ Ed P x y)) ∧ ((e2 x).toBitVec.getLsbD y = true ↔ (s3 x).toBitVec.getLsbD y = true ∨ (m ≤ y ∧ x < 40 ∧ Ed P y x))) ?_ ?_
  · intro l2_1 Loops_goals_1 Loops_sources_1 h1 h2
    intro m hm x y hy
    exact ⟨⟨Or.inl, fun h => h.elim id (fun z => by have := z.2.2.1; omega)⟩, ⟨Or.inl, fun h => h.elim id (fun z => by have := z.2.2.1; omega)⟩⟩
  · intro l2_1 Loops_goals_1 Loops_sources_1 x1 x2 x3 x4 x5 x6 x7 k e1 e2 h1 h2 h3 h4 h5 h6 h7 ih
    intro m hm x y hy
    have hmP : m < P.1 := by omega
    obtain ⟨g0, g1⟩ := hg m hmP
    rw [nnE hm] at h3 h5
    rw [← h3] at g0
    rw [← h5] at g1
    obtain ⟨a1, a2⟩ := lk_tr hm (by omega) h4 x y hy
    obtain ⟨b1, b2⟩ := lk_tr hm (by omega) h6 x y hy
    obtain ⟨i1, i2⟩ := ih (m + 1) (by omega) x y hy
    rw [i1, i2, b1, b2, a1, a2]
    constructor
    · constructor
      · rintro (((h | h) | h) | h)
        · exact Or.inl h
        · exact Or.inr ⟨by omega, h.2.2, by omega, 0, by decide, by rw [h.1, ← g0]; exact h.2.1⟩
        · exact Or.inr ⟨by omega, h.2.2, by omega, 1, by decide, by rw [h.1, ← g1]; exact h.2.1⟩
        · exact Or.inr ⟨by omega, h.2⟩
      · rintro (h | ⟨h1, h2, h3, i, h4, h5⟩)
        · exact Or.inl (Or.inl (Or.inl h))
        · by_cases e : x = m
          · rw [e] at h5
            have hi : i = 0 ∨ i = 1 := by omega
            rcases hi with hi | hi
            · rw [hi, ← g0] at h5; exact Or.inl (Or.inl (Or.inr ⟨e, h5, h2⟩))
            · rw [hi, ← g1] at h5; exact Or.inl (Or.inr ⟨e, h5, h2⟩)
          · exact Or.inr ⟨by omega, h2, h3, i, h4, h5⟩
    · constructor
      · rintro (((h | h) | h) | h)
        · exact Or.inl h
        · exact Or.inr ⟨by omega, h.2.1, by omega, 0, by decide, by rw [h.2.2, ← g0]; exact h.1⟩
        · exact Or.inr ⟨by omega, h.2.1, by omega, 1, by decide, by rw [h.2.2, ← g1]; exact h.1⟩
        · exact Or.inr ⟨by omega, h.2⟩
      · rintro (h | ⟨h1, h2, h3, i, h4, h5⟩)
        · exact Or.inl (Or.inl (Or.inl h))
        · by_cases e : y = m
          · rw [e] at h5
            have hi : i = 0 ∨ i = 1 := by omega
            rcases hi with hi | hi
            · rw [hi, ← g0] at h5; exact Or.inl (Or.inl (Or.inr ⟨h5, h2, e⟩))
            · rw [hi, ← g1] at h5; exact Or.inl (Or.inr ⟨h5, h2, e⟩)
          · exact Or.inr ⟨by omega, h2, h3, i, h4, h5⟩
theorem lp_tr {a1 : Int32} {a2 : Int64} {Loops_goals : Nat → Int64} {Loops_sources : Nat → Int64} {o1 : Int64} {hd : Nat} (ha : a1.toInt = (hd : Int)) (hh : hd < 40) (hG : ∀ x y : Nat, x < 40 → y < 64 → ((Loops_goals x).toBitVec.getLsbD y = true ↔ Ed P x y)) (hS : ∀ x y : Nat, x < 40 → y < 64 → ((Loops_sources x).toBitVec.getLsbD y = true ↔ Ed P y x)) (hE : ∀ a b, Ed P a b → a < 40 ∧ b < 40) (hA : ∀ b, b < 64 → (a2.toBitVec.getLsbD b = true ↔ rAll P b)) (h : tr_Loops_loopOf a1 a2 Loops_goals Loops_sources o1) : ∀ b, b < 64 → (o1.toBitVec.getLsbD b = true ↔ InL P hd b) := by
  have one : ∀ b, b < 64 → ((1 : Int64).toBitVec.getLsbD b = true ↔ b = 0) := fun b hb => by
    have : ∀ j : Fin 64, (Int64.toBitVec 1).getLsbD j.val = decide (j.val = 0) := by decide +kernel
    rw [this ⟨b, hb⟩, decide_eq_true_iff]
  refine h (fun o1 => ∀ b, b < 64 → (o1.toBitVec.getLsbD b = true ↔ InL P hd b)) ?_ ?_
  · intro x1 x2 x3 x4 x5 x6 x7 x8 x9 x10 h1 h2 h3 h4 h5 h6 h7 h8 h9 h10 h11
    have hb1 : ∀ b, b < 64 → (x1.toBitVec.getLsbD b = true ↔ b = hd) := fun b hb => by rw [lb_shl h1 ha (by omega) b hb, decide_eq_true_iff]
    have w1 := wk_tr (E := Ed P) (S := fun b => b = 0) (N := fun b => b = hd) hG hE one (fun b hb => by omega) hb1 h2
    rw [nnE ha] at h3
    have cl : ∀ c, c < 64 → (x6.toBitVec.getLsbD c = true ↔ clo P hd c) := fun c hc => by
      rw [bit_and h6, bit_and h4, bit_not h5 c hc, h3, Bool.and_eq_true, Bool.and_eq_true, Bool.not_eq_true', ← Bool.not_eq_true, hS hd c hh hc, hA c hc, w1 c hc]
      unfold clo
      exact and_assoc
    have ne : ∃ c, clo P hd c := by
      by_cases q : ∃ c, clo P hd c
      · exact q
      · exfalso
        refine h7 (bit_eq (fun n hn => ?_))
        rw [Bool.eq_false_iff.mpr (fun z => q ⟨n, (cl n hn).mp z⟩)]
        simp
    have w2 := wk_tr (E := fun a b => Ed P b a) (S := clo P hd) (N := fun b => b = hd ∨ ¬ rAll P b) hS (fun a b z => ⟨(hE b a z).2, (hE b a z).1⟩) cl (fun b z => (hE b hd z.1).1) (fun b hb => by rw [bit_or h9, bit_not h8 b hb, Bool.or_eq_true, Bool.not_eq_true', ← Bool.not_eq_true, hb1 b hb, hA b hb]) h10
    intro b hb
    rw [bit_or h11, Bool.or_eq_true, hb1 b hb, w2 b hb]
    exact ⟨fun z => ⟨ne, z⟩, fun z => z.2⟩
  · intro x1 x2 x3 x4 x5 x6 h1 h2 h3 h4 h5 h6 h7
    have hb1 : ∀ b, b < 64 → (x1.toBitVec.getLsbD b = true ↔ b = hd) := fun b hb => by rw [lb_shl h1 ha (by omega) b hb, decide_eq_true_iff]
    have w1 := wk_tr (E := Ed P) (S := fun b => b = 0) (N := fun b => b = hd) hG hE one (fun b hb => by omega) hb1 h2
    rw [nnE ha] at h3
    have cl : ∀ c, c < 64 → (x6.toBitVec.getLsbD c = true ↔ clo P hd c) := fun c hc => by
      rw [bit_and h6, bit_and h4, bit_not h5 c hc, h3, Bool.and_eq_true, Bool.and_eq_true, Bool.not_eq_true', ← Bool.not_eq_true, hS hd c hh hc, hA c hc, w1 c hc]
      unfold clo
      exact and_assoc
    intro b hb
    have z0 : (0 : Int64).toBitVec.getLsbD b = false := by simp
    rw [z0]
    refine ⟨fun z => (by cases z), fun ⟨⟨c, hc⟩, _⟩ => ?_⟩
    have hc40 := (hE c hd hc.1).1
    have := (cl c (by omega)).mpr hc
    rw [h7] at this
    simp at this
theorem dn_tl {a1 : Int64} {s1 : Int32} {s2 : Nat → Int32} {k : Nat} {e1 : Nat → Int32} (h : tl_Loops_deepen_2 a1 s1 s2 k e1) : ∀ m : Nat, s1.toInt = (m : Int) → ∀ b, b < 40 → (b < m → e1 b = s2 b) ∧ (m ≤ b → (e1 b).toInt = if a1.toBitVec.getLsbD b = true ∧ (s2 b).toInt < 4 then (s2 b).toInt + 1 else (s2 b).toInt) := by
  refine h (fun s1 s2 _ e1 => ∀ m : Nat, s1.toInt = (m : Int) → ∀ b, b < 40 → (b < m → e1 b = s2 b) ∧ (m ≤ b → (e1 b).toInt = if a1.toBitVec.getLsbD b = true ∧ (s2 b).toInt < 4 then (s2 b).toInt + 1 else (s2 b).toInt)) ?_ ?_ ?_ ?_
  · intro l3_1 Loops_depth_1 h1 h2
    exact fun m hm b hb => ⟨fun _ => rfl, fun z => by omega⟩
  · intro l3_1 Loops_depth_1 x1 x2 x3 k e1 h1 h2 h3 h4 h5 h6 ih
    intro m hm b hb
    have q := shn h3 h4 hm (by omega)
    obtain ⟨i1, i2⟩ := ih (m + 1) (by omega) b hb
    refine ⟨fun z => i1 (by omega), fun z => ?_⟩
    by_cases e : b = m
    · rw [i1 (by omega), if_neg ?_]
      rw [e]
      exact fun z => absurd h5 (q.mpr z.1)
    · exact i2 (by omega)
  · intro l3_1 Loops_depth_1 x1 x2 x3 x4 k e1 h1 h2 h3 h4 h5 h6 h7 h8 ih
    intro m hm b hb
    have q := shn h3 h4 hm (by omega)
    obtain ⟨i1, i2⟩ := ih (m + 1) (by omega) b hb
    refine ⟨fun z => i1 (by omega), fun z => ?_⟩
    by_cases e : b = m
    · rw [i1 (by omega), if_neg ?_]
      rw [e]
      rw [nnE hm] at h6
      rw [← h6]
      omega
    · exact i2 (by omega)
  · intro l3_1 Loops_depth_1 x1 x2 x3 x4 x5 x6 k e1 h1 h2 h3 h4 h5 h6 h7 h8 h9 h10 ih
    intro m hm b hb
    have q := shn h3 h4 hm (by omega)
    obtain ⟨i1, i2⟩ := ih (m + 1) (by omega) b hb
    rw [nnE hm] at h9 h6
    refine ⟨fun z => by rw [i1 (by omega), h9, updN (by omega)], fun z => ?_⟩
    by_cases e : b = m
    · rw [i1 (by omega), h9, e, updE, if_pos ⟨q.mp h5, by rw [← h6]; assumption⟩, h8, h6]
    · rw [i2 (by omega), h9, updN e]
theorem dn_tr {a1 : Int64} {Loops_depth : Nat → Int32} {o1 : Nat → Int32} (h : tr_Loops_deepen a1 Loops_depth o1) : ∀ b, b < 40 → (o1 b).toInt = if a1.toBitVec.getLsbD b = true ∧ (Loops_depth b).toInt < 4 then (Loops_depth b).toInt + 1 else (Loops_depth b).toInt := by
  refine h (fun o1 => ∀ b, b < 40 → (o1 b).toInt = if a1.toBitVec.getLsbD b = true ∧ (Loops_depth b).toInt < 4 then (Loops_depth b).toInt + 1 else (Loops_depth b).toInt) ?_
  · intro x1 h1
    exact fun b hb => (dn_tl h1 0 (by decide) b hb).2 (Nat.zero_le _)
theorem lg_tl {Code_blocks : Int32} {c1 : Int64} {Loops_goals_1 : Nat → Int64} {Loops_sources_1 : Nat → Int64} {s1 : Int32} {s2 : Nat → Int32} {k : Nat} {e1 : Nat → Int32} (hn : Code_blocks.toInt = (P.1 : Int)) (hP : P.1 ≤ 40) (hG : ∀ x y : Nat, x < 40 → y < 64 → ((Loops_goals_1 x).toBitVec.getLsbD y = true ↔ Ed P x y)) (hS : ∀ x y : Nat, x < 40 → y < 64 → ((Loops_sources_1 x).toBitVec.getLsbD y = true ↔ Ed P y x)) (hE : ∀ a b, Ed P a b → a < 40 ∧ b < 40) (hA : ∀ b, b < 64 → (c1.toBitVec.getLsbD b = true ↔ rAll P b)) (h : tl_Loops_find_75 Code_blocks c1 Loops_goals_1 Loops_sources_1 s1 s2 k e1) : ∀ m : Nat, s1.toInt = (m : Int) → m ≤ P.1 → ∀ b, b < 40 → (s2 b).toInt = ((min 4 (cntP (fun h => InL P h b) m) : Nat) : Int) → (e1 b).toInt = (dpt P b : Int) := by
  refine h (fun s1 s2 _ e1 => ∀ m : Nat, s1.toInt = (m : Int) → m ≤ P.1 → ∀ b, b < 40 → (s2 b).toInt = ((min 4 (cntP (fun h => InL P h b) m) : Nat) : Int) → (e1 b).toInt = (dpt P b : Int)) ?_ ?_
  · intro l4_1 Loops_depth_1 h1 h2
    intro m hm hmP b hb hz
    have e : m = P.1 := by omega
    rw [hz, e]; rfl
  · intro l4_1 Loops_depth_1 x1 x2 x3 k e1 h1 h2 h3 h4 h5 ih
    intro m hm hmP b hb hz
    refine ih (m + 1) (by omega) (by omega) b hb ?_
    have l := lp_tr hm (by omega) hG hS hE hA h3 b (by omega)
    rw [dn_tr h4 b hb, hz]
    show _ = ((min 4 (cntP (fun h => InL P h b) m + @ite Nat (InL P m b) (Classical.propDecidable (InL P m b)) 1 0) : Nat) : Int)
    by_cases c : InL P m b
    · rw [if_pos c]
      by_cases d : ((min 4 (cntP (fun h => InL P h b) m) : Nat) : Int) < 4
      · rw [if_pos ⟨l.mpr c, d⟩]; omega
      · rw [if_neg (fun z => d z.2)]; omega
    · rw [if_neg c, if_neg (fun z => c (l.mp z.1)), Nat.add_zero]
theorem fz_tl {a1 : Int64} {s1 : Int32} {s2 : Nat → Int64} {k : Nat} {e1 : Nat → Int64} (h : tl_Arrays_fill_6 a1 s1 s2 k e1) : 0 ≤ s1.toInt → ∀ i : Nat, i < 40 → ((i : Int) < s1.toInt → s2 i = a1) → e1 i = a1 := by
  refine h (fun s1 s2 _ e1 => 0 ≤ s1.toInt → ∀ i : Nat, i < 40 → ((i : Int) < s1.toInt → s2 i = a1) → e1 i = a1) ?_ ?_
  · intro l3_1 z_1 h1 h2
    exact fun _ i hi hz => hz (by omega)
  · intro l3_1 z_1 x1 x2 k e1 h1 h2 h3 h4 ih
    intro h0 i hi hz
    refine ih (by omega) i hi (fun hl => ?_)
    have en : (l3_1.toNatClampNeg : Int) = l3_1.toInt := g_nn h0
    rw [h3]
    unfold vp_updL
    by_cases e : i = l3_1.toNatClampNeg
    · rw [if_pos e]
    · rw [if_neg e]; exact hz (by omega)
theorem fz_tr {a1 : Int64} {p : Nat → Int64} {o1 : Nat → Int64} (h : tr_Arrays_fill a1 p o1) : ∀ i : Nat, i < 40 → o1 i = a1 := by
  refine h (fun o1 => ∀ i : Nat, i < 40 → o1 i = a1) ?_
  · intro x1 h1
    exact fun i hi => fz_tl h1 (by decide) i hi (fun z => by rw [px_0] at z; omega)
theorem fz2_tl {a1 : Int32} {s1 : Int32} {s2 : Nat → Int32} {k : Nat} {e1 : Nat → Int32} (h : tl_Arrays_fill2_5 a1 s1 s2 k e1) : 0 ≤ s1.toInt → ∀ i : Nat, i < 40 → ((i : Int) < s1.toInt → s2 i = a1) → e1 i = a1 := by
  refine h (fun s1 s2 _ e1 => 0 ≤ s1.toInt → ∀ i : Nat, i < 40 → ((i : Int) < s1.toInt → s2 i = a1) → e1 i = a1) ?_ ?_
  · intro l2_1 z_1 h1 h2
    exact fun _ i hi hz => hz (by omega)
  · intro l2_1 z_1 x1 x2 k e1 h1 h2 h3 h4 ih
    intro h0 i hi hz
    refine ih (by omega) i hi (fun hl => ?_)
    have en : (l2_1.toNatClampNeg : Int) = l2_1.toInt := g_nn h0
    rw [h3]
    unfold upd
    by_cases e : i = l2_1.toNatClampNeg
    · rw [if_pos e]
    · rw [if_neg e]; exact hz (by omega)
theorem fz2_tr {a1 : Int32} {p : Nat → Int32} {o1 : Nat → Int32} (h : tr_Arrays_fill2 a1 p o1) : ∀ i : Nat, i < 40 → o1 i = a1 := by
  refine h (fun o1 => ∀ i : Nat, i < 40 → o1 i = a1) ?_
  · intro x1 h1
    exact fun i hi => fz2_tl h1 (by decide) i hi (fun z => by rw [px_0] at z; omega)
theorem lo_tr {Code_blocks : Int32} {Loops_goals : Nat → Int64} {Loops_sources : Nat → Int64} {Loops_depth : Nat → Int32} {Code_firstGoal : Nat → Int32} {Code_secondGoal : Nat → Int32} {o1 : Nat → Int64} {o2 : Nat → Int64} {o3 : Nat → Int32} (hn : Code_blocks.toInt = (P.1 : Int)) (hP : P.1 ≤ 40) (hg : (∀ b : Nat, b < P.1 → (Code_firstGoal b).toInt = P.2.2.2 b 0 ∧ (Code_secondGoal b).toInt = P.2.2.2 b 1)) (hO : glO P) (h : tr_Loops_find Code_blocks Loops_goals Loops_sources Loops_depth Code_firstGoal Code_secondGoal o1 o2 o3) : ∀ b, b < 40 → (o3 b).toInt = (dpt P b : Int) := by
  have hE : ∀ a b, Ed P a b → a < 40 ∧ b < 40 := fun a b ⟨h1, i, h2, h3⟩ => by
    have := (hO a i h1 h2 (by omega)).2
    omega
  refine h (fun o1 o2 o3 => ∀ b, b < 40 → (o3 b).toInt = (dpt P b : Int)) ?_
  · intro x1 x2 x3 x4 x5 x6 x7 h1 h2 h3 h4 h5 h6
    have f1 := fz_tr h1
    have f2 := fz_tr h2
    have f3 := fz2_tr h3
    have l := lf_tl hn hP hg h4 0 (by decide)
    have hG : ∀ x y : Nat, x < 40 → y < 64 → ((x4 x).toBitVec.getLsbD y = true ↔ Ed P x y) := fun x y hx hy => by
      rw [(l x y hy).1, f1 x hx]
      exact ⟨fun z => z.elim (fun w => by simp at w) (fun w => w.2.2), fun z => Or.inr ⟨Nat.zero_le _, (hE x y z).2, z⟩⟩
    have hS : ∀ x y : Nat, x < 40 → y < 64 → ((x5 x).toBitVec.getLsbD y = true ↔ Ed P y x) := fun x y hx hy => by
      rw [(l x y hy).2, f2 x hx]
      exact ⟨fun z => z.elim (fun w => by simp at w) (fun w => w.2.2), fun z => Or.inr ⟨Nat.zero_le _, hx, z⟩⟩
    have one : ∀ b, b < 64 → ((1 : Int64).toBitVec.getLsbD b = true ↔ b = 0) := fun b hb => by
      have : ∀ j : Fin 64, (Int64.toBitVec 1).getLsbD j.val = decide (j.val = 0) := by decide +kernel
      rw [this ⟨b, hb⟩, decide_eq_true_iff]
    have hA := wk_tr (E := Ed P) (S := fun b => b = 0) (N := fun _ => False) hG hE one (fun b hb => by omega) (fun b hb => by simp) h5
    intro b hb
    refine lg_tl hn hP hG hS hE hA h6 0 (by decide) (Nat.zero_le _) b hb ?_
    rw [f3 b hb]
    rfl
end LOC
