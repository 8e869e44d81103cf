section RST
/-- the letters of bs from p on are the first m of g -/
def mtc (bs : List Int32) (m : Nat) (g : Nat → Int32) (p : Nat) : Prop := p + m ≤ bs.length ∧ ∀ j, j < m → (bs.getD (p + j) 0).toInt = (g j).toInt
theorem ie_tl {c1 : Int32} {bs : List Int32} {a2_v : Nat → Int32} {s1 : Int32} {s2 : Int32} {k : Nat} {e1 : Int32} (h : tl_RStringLatin1_indexOf2_76 c1 bs a2_v s1 s2 k e1) : ∀ p k0 : Nat, s1.toInt = (k0 : Int) → s2.toInt = ((p + k0 : Nat) : Int) → s2.toInt ≤ c1.toInt → (e1.toInt = c1.toInt ↔ ∀ i, k0 ≤ i → ((p + i : Nat) : Int) < c1.toInt → (bs.getD (p + i) 0).toInt = (a2_v i).toInt) := by
  refine h (fun s1 s2 _ e1 => ∀ p k0 : Nat, s1.toInt = (k0 : Int) → s2.toInt = ((p + k0 : Nat) : Int) → s2.toInt ≤ c1.toInt → (e1.toInt = c1.toInt ↔ ∀ i, k0 ≤ i → ((p + i : Nat) : Int) < c1.toInt → (bs.getD (p + i) 0).toInt = (a2_v i).toInt)) ?_ ?_ ?_
  · intro l10_2 l8_2 h1 h2 h3
    intro p k0 h1 h2 h3
    exact ⟨fun _ i hi hl => by omega, fun _ => by omega⟩
  · intro l10_2 l8_2 x1 x2 h1 h2 h3 h4 h5 h6 h7
    intro p k0 a1 a2 a3
    have e1 := nnE a1
    have e2 := nnE a2
    rw [e2] at h4
    rw [e1] at h5
    refine ⟨fun z => by omega, fun z => ?_⟩
    have q := z k0 (Nat.le_refl _) (by omega)
    rw [← h4, ← h5] at q
    exact absurd q h7
  · intro l10_2 l8_2 x1 x2 x3 x4 k e1 h1 h2 h3 h4 h5 h6 h7 h8 h9 ih
    intro p k0 a1 a2 a3
    have e1 := nnE a1
    have e2 := nnE a2
    rw [e2] at h4
    rw [e1] at h5
    rw [ih p (k0 + 1) (by omega) (by omega) (by omega)]
    constructor
    · intro z i hi hl
      by_cases c : i = k0
      · rw [c, ← h4, ← h5]; exact h7
      · exact z i (by omega) hl
    · exact fun z i hi hl => z i (by omega) hl
theorem ie_tl_2 {c1 : Int32} {bs : List Int32} {a2_v : Nat → Int32} {s1 : Int32} {s2 : Int32} {k : Nat} {e1 : Int32} (h : tl_RStringLatin1_indexOf2_76_2 c1 bs a2_v s1 s2 k e1) : ∀ p k0 : Nat, s1.toInt = (k0 : Int) → s2.toInt = ((p + k0 : Nat) : Int) → s2.toInt ≤ c1.toInt → (e1.toInt = c1.toInt ↔ ∀ i, k0 ≤ i → ((p + i : Nat) : Int) < c1.toInt → (bs.getD (p + i) 0).toInt = (a2_v i).toInt) := by
  refine h (fun s1 s2 _ e1 => ∀ p k0 : Nat, s1.toInt = (k0 : Int) → s2.toInt = ((p + k0 : Nat) : Int) → s2.toInt ≤ c1.toInt → (e1.toInt = c1.toInt ↔ ∀ i, k0 ≤ i → ((p + i : Nat) : Int) < c1.toInt → (bs.getD (p + i) 0).toInt = (a2_v i).toInt)) ?_ ?_ ?_
  · intro l10_2 l8_2 h1 h2 h3
    intro p k0 h1 h2 h3
    exact ⟨fun _ i hi hl => by omega, fun _ => by omega⟩
  · intro l10_2 l8_2 x1 x2 h1 h2 h3 h4 h5 h6 h7
    intro p k0 a1 a2 a3
    have e1 := nnE a1
    have e2 := nnE a2
    rw [e2] at h4
    rw [e1] at h5
    refine ⟨fun z => by omega, fun z => ?_⟩
    have q := z k0 (Nat.le_refl _) (by omega)
    rw [← h4, ← h5] at q
    exact absurd q h7
  · intro l10_2 l8_2 x1 x2 x3 x4 k e1 h1 h2 h3 h4 h5 h6 h7 h8 h9 ih
    intro p k0 a1 a2 a3
    have e1 := nnE a1
    have e2 := nnE a2
    rw [e2] at h4
    rw [e1] at h5
    rw [ih p (k0 + 1) (by omega) (by omega) (by omega)]
    constructor
    · intro z i hi hl
      by_cases c : i = k0
      · rw [c, ← h4, ← h5]; exact h7
      · exact z i (by omega) hl
    · exact fun z i hi hl => z i (by omega) hl
theorem ie_tl_3 {c1 : Int32} {bs : List Int32} {a2_v : Nat → Int32} {s1 : Int32} {s2 : Int32} {k : Nat} {e1 : Int32} (h : tl_RStringLatin1_indexOf2_76_3 c1 bs a2_v s1 s2 k e1) : ∀ p k0 : Nat, s1.toInt = (k0 : Int) → s2.toInt = ((p + k0 : Nat) : Int) → s2.toInt ≤ c1.toInt → (e1.toInt = c1.toInt ↔ ∀ i, k0 ≤ i → ((p + i : Nat) : Int) < c1.toInt → (bs.getD (p + i) 0).toInt = (a2_v i).toInt) := by
  refine h (fun s1 s2 _ e1 => ∀ p k0 : Nat, s1.toInt = (k0 : Int) → s2.toInt = ((p + k0 : Nat) : Int) → s2.toInt ≤ c1.toInt → (e1.toInt = c1.toInt ↔ ∀ i, k0 ≤ i → ((p + i : Nat) : Int) < c1.toInt → (bs.getD (p + i) 0).toInt = (a2_v i).toInt)) ?_ ?_ ?_
  · intro l10_2 l8_2 h1 h2 h3
    intro p k0 h1 h2 h3
    exact ⟨fun _ i hi hl => by omega, fun _ => by omega⟩
  · intro l10_2 l8_2 x1 x2 h1 h2 h3 h4 h5 h6 h7
    intro p k0 a1 a2 a3
    have e1 := nnE a1
    have e2 := nnE a2
    rw [e2] at h4
    rw [e1] at h5
    refine ⟨fun z => by omega, fun z => ?_⟩
    have q := z k0 (Nat.le_refl _) (by omega)
    rw [← h4, ← h5] at q
    exact absurd q h7
  · intro l10_2 l8_2 x1 x2 x3 x4 k e1 h1 h2 h3 h4 h5 h6 h7 h8 h9 ih
    intro p k0 a1 a2 a3
    have e1 := nnE a1
    have e2 := nnE a2
    rw [e2] at h4
    rw [e1] at h5
    rw [ih p (k0 + 1) (by omega) (by omega) (by omega)]
    constructor
    · intro z i hi hl
      by_cases c : i = k0
      · rw [c, ← h4, ← h5]; exact h7
      · exact z i (by omega) hl
    · exact fun z i hi hl => z i (by omega) hl
theorem io3_tl {c1 : Int32} {bs : List Int32} {c2 : Int32} {s1 : Int32} {k : Nat} {e1 : Int32} (h : tl_RStringLatin1_indexOf2_30 c1 bs c2 s1 k e1) : ∀ i : Nat, s1.toInt = (i : Int) → s1.toInt ≤ c1.toInt → ∃ j : Nat, e1.toInt = (j : Int) ∧ i < j ∧ (∀ q : Nat, i < q → q < j → (bs.getD q 0).toInt ≠ c2.toInt) ∧ ((j : Int) ≤ c1.toInt → (bs.getD j 0).toInt = c2.toInt) ∧ (j : Int) ≤ c1.toInt + 1 := by
  refine h (fun s1 _ e1 => ∀ i : Nat, s1.toInt = (i : Int) → s1.toInt ≤ c1.toInt → ∃ j : Nat, e1.toInt = (j : Int) ∧ i < j ∧ (∀ q : Nat, i < q → q < j → (bs.getD q 0).toInt ≠ c2.toInt) ∧ ((j : Int) ≤ c1.toInt → (bs.getD j 0).toInt = c2.toInt) ∧ (j : Int) ≤ c1.toInt + 1) ?_ ?_ ?_
  · intro l7_2 x1 h1 h2 h3
    intro i hi hc
    exact ⟨i + 1, by omega, by omega, fun q a b => by omega, fun z => by omega, by omega⟩
  · intro l7_2 x1 x2 h1 h2 h3 h4 h5
    intro i hi hc
    rw [nnE (show x1.toInt = ((i + 1 : Nat) : Int) by omega)] at h4
    exact ⟨i + 1, by omega, by omega, fun q a b => by omega, fun _ => by rw [← h4]; exact h5, by omega⟩
  · intro l7_2 x1 x2 k e1 h1 h2 h3 h4 h5 ih
    intro i hi hc
    rw [nnE (show x1.toInt = ((i + 1 : Nat) : Int) by omega)] at h4
    obtain ⟨j, k1, k2, k3, k4, k5⟩ := ih (i + 1) (by omega) (by omega)
    refine ⟨j, k1, by omega, fun q a b => ?_, k4, k5⟩
    by_cases e : q = i + 1
    · rw [e, ← h4]; exact h5
    · exact k3 q (by omega) b
theorem io_tl {c1 : Int32} {bs : List Int32} {c2 : Int32} {a3 : Int32} {a2_v : Nat → Int32} {s1 : Int32} {k : Nat} {e1 : Int32} {m : Nat} (hm : a3.toInt = (m : Int)) (hm0 : 0 < m) (hc : c1.toInt = (bs.length : Int) - (m : Int)) (hl : (bs.length : Int) ≤ 65535) (h2 : c2.toInt = (a2_v 0).toInt) (h : tl_RStringLatin1_indexOf2_14 c1 bs c2 a3 a2_v s1 k e1) : ∀ i : Nat, s1.toInt = (i : Int) → (k = 119 ∧ ∀ p, i ≤ p → ¬ mtc bs m a2_v p) ∨ (k = 110 ∧ ∃ r : Nat, e1.toInt = (r : Int) ∧ i ≤ r ∧ mtc bs m a2_v r ∧ ∀ p, i ≤ p → p < r → ¬ mtc bs m a2_v p) := by
  have first : ∀ p, mtc bs m a2_v p → (bs.getD p 0).toInt = c2.toInt := fun p hp => by
    have q := hp.2 0 hm0
    rw [h2]; exact q
  have full : ∀ {p : Nat} {e x : Int32}, ((p : Int) ≤ c1.toInt) → (bs.getD p 0).toInt = c2.toInt → e.toInt = (p : Int) + (m : Int) → ((x.toInt = e.toInt) ↔ ∀ i, 1 ≤ i → ((p + i : Nat) : Int) < e.toInt → (bs.getD (p + i) 0).toInt = (a2_v i).toInt) → (x.toInt = e.toInt ↔ mtc bs m a2_v p) := fun {p e x} hp hf he hx => by
    rw [hx]
    constructor
    · intro z
      refine ⟨by omega, fun j hj => ?_⟩
      by_cases c : j = 0
      · rw [c, Nat.add_zero, hf, h2]
      · exact z j (by omega) (by omega)
    · intro z i hi hl
      exact z.2 i (by omega)
  have far : ∀ p : Nat, c1.toInt < (p : Int) → ¬ mtc bs m a2_v p := fun p hp z => by have := z.1; omega
  refine h (fun s1 k e1 => ∀ i : Nat, s1.toInt = (i : Int) → (k = 119 ∧ ∀ p, i ≤ p → ¬ mtc bs m a2_v p) ∨ (k = 110 ∧ ∃ r : Nat, e1.toInt = (r : Int) ∧ i ≤ r ∧ mtc bs m a2_v r ∧ ∀ p, i ≤ p → p < r → ¬ mtc bs m a2_v p)) ?_ ?_ ?_ ?_ ?_ ?_ ?_ ?_ ?_
  · intro l7_1 h1 h2
    intro i hi
    exact Or.inl ⟨rfl, fun p hp => far p (by omega)⟩
  · intro l7_1 x1 x2 k e1 h1 h2 h3 h4 h5 h6 ih
    intro i hi
    rw [nnE hi] at h3
    omega
  · intro l7_1 x1 x2 x3 x4 x5 x6 k e1 h1 h2 h3 h4 h5 h6 h7 h8 h9 h10 h11 ih
    intro i hi
    rw [nnE hi] at h3
    have ie := ie_tl h9 i 1 (by decide) (by omega) (by omega)
    have fu := full (p := i) (e := x4) (x := x5) (by omega) (by rw [← h3]; exact h4) (by omega) ie
    rcases ih (i + 1) (by omega) with ⟨k1, k2⟩ | ⟨k1, r, k2, k3, k4, k5⟩
    · refine Or.inl ⟨k1, fun p hp => ?_⟩
      by_cases c : (i + 1) ≤ p
      · exact k2 p c
      · have e : p = i := by omega
        rw [e]; exact fun z => h10 (fu.mpr z)
    · refine Or.inr ⟨k1, r, k2, by omega, k4, fun p hp hr => ?_⟩
      by_cases c : (i + 1) ≤ p
      · exact k5 p c hr
      · have e : p = i := by omega
        rw [e]; exact fun z => h10 (fu.mpr z)
  · intro l7_1 x1 x2 x3 x4 x5 h1 h2 h3 h4 h5 h6 h7 h8 h9 h10
    intro i hi
    rw [nnE hi] at h3
    have ie := ie_tl h9 i 1 (by decide) (by omega) (by omega)
    have fu := full (p := i) (e := x4) (x := x5) (by omega) (by rw [← h3]; exact h4) (by omega) ie
    exact Or.inr ⟨rfl, i, hi, Nat.le_refl _, fu.mp h10, fun p a b => by omega⟩
  · intro l7_1 x1 x2 x3 k e1 h1 h2 h3 h4 h5 h6 h7 ih
    intro i hi
    rw [nnE hi] at h3
    obtain ⟨j, q1, q2, q3, q4, q5⟩ := io3_tl h5 i hi (by omega)
    have no : ∀ p, i ≤ p → p < j → ¬ mtc bs m a2_v p := fun p hp hj z => by
      have f := first p z
      by_cases c : p = i
      · rw [c, ← h3] at f; exact h4 f
      · exact q3 p (by omega) hj f
    rcases ih (j + 1) (by omega) with ⟨k1, k2⟩ | ⟨k1, r, k2, k3, k4, k5⟩
    · refine Or.inl ⟨k1, fun p hp => ?_⟩
      by_cases c : (j + 1) ≤ p
      · exact k2 p c
      · by_cases d : p = j
        · exact far p (by omega)
        · exact no p hp (by omega)
    · refine Or.inr ⟨k1, r, k2, by omega, k4, fun p hp hr => ?_⟩
      by_cases c : (j + 1) ≤ p
      · exact k5 p c hr
      · by_cases d : p = j
        · exact far p (by omega)
        · exact no p hp (by omega)
  · intro l7_1 x1 x2 x3 x4 x5 x6 x7 k e1 h1 h2 h3 h4 h5 h6 h7 h8 h9 h10 h11 h12 ih
    intro i hi
    rw [nnE hi] at h3
    obtain ⟨j, q1, q2, q3, q4, q5⟩ := io3_tl h5 i hi (by omega)
    have no : ∀ p, i ≤ p → p < j → ¬ mtc bs m a2_v p := fun p hp hj z => by
      have f := first p z
      by_cases c : p = i
      · rw [c, ← h3] at f; exact h4 f
      · exact q3 p (by omega) hj f
    have ie := ie_tl_2 h10 j 1 (by decide) (by omega) (by omega)
    have fu := full (p := j) (e := x5) (x := x6) (by omega) (q4 (by omega)) (by omega) ie
    rcases ih (j + 1) (by omega) with ⟨k1, k2⟩ | ⟨k1, r, k2, k3, k4, k5⟩
    · refine Or.inl ⟨k1, fun p hp => ?_⟩
      by_cases c : (j + 1) ≤ p
      · exact k2 p c
      · by_cases d : p = j
        · rw [d]; exact fun z => h11 (fu.mpr z)
        · exact no p hp (by omega)
    · refine Or.inr ⟨k1, r, k2, by omega, k4, fun p hp hr => ?_⟩
      by_cases c : (j + 1) ≤ p
      · exact k5 p c hr
      · by_cases d : p = j
        · rw [d]; exact fun z => h11 (fu.mpr z)
        · exact no p hp (by omega)
  · intro l7_1 x1 x2 x3 x4 x5 x6 h1 h2 h3 h4 h5 h6 h7 h8 h9 h10 h11
    intro i hi
    rw [nnE hi] at h3
    obtain ⟨j, q1, q2, q3, q4, q5⟩ := io3_tl h5 i hi (by omega)
    have no : ∀ p, i ≤ p → p < j → ¬ mtc bs m a2_v p := fun p hp hj z => by
      have f := first p z
      by_cases c : p = i
      · rw [c, ← h3] at f; exact h4 f
      · exact q3 p (by omega) hj f
    have ie := ie_tl_2 h10 j 1 (by decide) (by omega) (by omega)
    have fu := full (p := j) (e := x5) (x := x6) (by omega) (q4 (by omega)) (by omega) ie
    exact Or.inr ⟨rfl, j, q1, by omega, fu.mp h11, no⟩
  · intro l7_1 x1 x2 x3 x4 x5 x6 x7 k e1 h1 h2 h3 h4 h5 h6 h7 h8 h9 h10 h11 h12 ih
    intro i hi
    rw [nnE hi] at h3
    obtain ⟨j, q1, q2, q3, q4, q5⟩ := io3_tl h5 i hi (by omega)
    have no : ∀ p, i ≤ p → p < j → ¬ mtc bs m a2_v p := fun p hp hj z => by
      have f := first p z
      by_cases c : p = i
      · rw [c, ← h3] at f; exact h4 f
      · exact q3 p (by omega) hj f
    have ie := ie_tl_3 h10 j 1 (by decide) (by omega) (by omega)
    have fu := full (p := j) (e := x5) (x := x6) (by omega) (q4 (by omega)) (by omega) ie
    rcases ih (j + 1) (by omega) with ⟨k1, k2⟩ | ⟨k1, r, k2, k3, k4, k5⟩
    · refine Or.inl ⟨k1, fun p hp => ?_⟩
      by_cases c : (j + 1) ≤ p
      · exact k2 p c
      · by_cases d : p = j
        · rw [d]; exact fun z => h11 (fu.mpr z)
        · exact no p hp (by omega)
    · refine Or.inr ⟨k1, r, k2, by omega, k4, fun p hp hr => ?_⟩
      by_cases c : (j + 1) ≤ p
      · exact k5 p c hr
      · by_cases d : p = j
        · rw [d]; exact fun z => h11 (fu.mpr z)
        · exact no p hp (by omega)
  · intro l7_1 x1 x2 x3 x4 x5 x6 h1 h2 h3 h4 h5 h6 h7 h8 h9 h10 h11
    intro i hi
    rw [nnE hi] at h3
    obtain ⟨j, q1, q2, q3, q4, q5⟩ := io3_tl h5 i hi (by omega)
    have no : ∀ p, i ≤ p → p < j → ¬ mtc bs m a2_v p := fun p hp hj z => by
      have f := first p z
      by_cases c : p = i
      · rw [c, ← h3] at f; exact h4 f
      · exact q3 p (by omega) hj f
    have ie := ie_tl_3 h10 j 1 (by decide) (by omega) (by omega)
    have fu := full (p := j) (e := x5) (x := x6) (by omega) (q4 (by omega)) (by omega) ie
    exact Or.inr ⟨rfl, j, q1, by omega, fu.mp h11, no⟩
theorem io2_tr {bs : List Int32} {a1 a3 r : Int32} {g : Nat → Int32} {m : Nat} (hm : a3.toInt = (m : Int)) (hm0 : 0 < m) (hl0 : a1.toInt = (bs.length : Int)) (hl : (bs.length : Int) ≤ 65535) (h : tr_RStringLatin1_indexOf2 bs a1 a3 g r) : (r.toInt = -1 ∧ ∀ p, ¬ mtc bs m g p) ∨ (∃ q : Nat, r.toInt = (q : Int) ∧ mtc bs m g q ∧ ∀ p, p < q → ¬ mtc bs m g p) := by
  refine h (fun r => (r.toInt = -1 ∧ ∀ p, ¬ mtc bs m g p) ∨ (∃ q : Nat, r.toInt = (q : Int) ∧ mtc bs m g q ∧ ∀ p, p < q → ¬ mtc bs m g p)) ?_ ?_
  · intro x1 x2 h1 h2 h3 h4
    have q := io_tl (m := m) hm hm0 (by omega) hl (by rw [h1]; rfl) h4 0 (by decide)
    rcases q with ⟨-, q⟩ | ⟨q, -⟩
    · exact Or.inl ⟨px_m1, fun p => q p (Nat.zero_le _)⟩
    · exact absurd q (by decide)
  · intro x1 x2 x3 h1 h2 h3 h4
    have q := io_tl (m := m) hm hm0 (by omega) hl (by rw [h1]; rfl) h4 0 (by decide)
    rcases q with ⟨q, -⟩ | ⟨-, r, q1, q2, q3, q4⟩
    · exact absurd q (by decide)
    · exact Or.inr ⟨r, q1, q3, fun p hp => q4 p (Nat.zero_le _) hp⟩
theorem io1_tr {bs : List Int32} {r : Int32} {g : Nat → Int32} {m : Nat} (hm0 : 0 < m) (hb : 0 < bs.length) (hl : (bs.length : Int) ≤ 65535) (h : tr_RStringLatin1_indexOf bs g m r) : (r.toInt = -1 ∧ ∀ p, ¬ mtc bs m g p) ∨ (∃ q : Nat, r.toInt = (q : Int) ∧ mtc bs m g q ∧ ∀ p, p < q → ¬ mtc bs m g p) := by
  refine h (fun r => (r.toInt = -1 ∧ ∀ p, ¬ mtc bs m g p) ∨ (∃ q : Nat, r.toInt = (q : Int) ∧ mtc bs m g q ∧ ∀ p, p < q → ¬ mtc bs m g p)) ?_ ?_
  · intro x1 x2 x3 x4 x5 h1 h2 h3 h4 h5 h6 h7 h8
    exact io2_tr h6 hm0 h5 hl h8
  · intro x1 x2 h1 h2 h3 h4
    omega
theorem iof_tr {bs : List Int32} {r : Int32} {g : Nat → Int32} {m : Nat} (hm0 : 0 < m) (hb : 0 < bs.length) (hl : (bs.length : Int) ≤ 65535) (h : tr_RString_indexOf bs g m r) : (r.toInt = -1 ∧ ∀ p, ¬ mtc bs m g p) ∨ (∃ q : Nat, r.toInt = (q : Int) ∧ mtc bs m g q ∧ ∀ p, p < q → ¬ mtc bs m g p) := by
  refine h (fun r => (r.toInt = -1 ∧ ∀ p, ¬ mtc bs m g p) ∨ (∃ q : Nat, r.toInt = (q : Int) ∧ mtc bs m g q ∧ ∀ p, p < q → ¬ mtc bs m g p)) ?_
  · intro x1 h1 h2
    exact io1_tr hm0 hb hl h2
theorem va_cpE {f g : Nat → Int32} {s d n j : Nat} (h1 : d ≤ j) (h2 : j < d + n) : va_cpy f g s d n j = f (s + (j - d)) := by unfold va_cpy; rw [if_pos ⟨h1, h2⟩]
theorem va_cpN {f g : Nat → Int32} {s d n j : Nat} (h : ¬ (d ≤ j ∧ j < d + n)) : va_cpy f g s d n j = g j := by unfold va_cpy; rw [if_neg h]
theorem cpf_tr {a1 : Int32} {f x : Nat → Int32} {n : Nat} (h : tr_RArrays_copyOf3 a1 f n x) (h0 : 0 ≤ a1.toInt) (hn : (n : Int) ≤ a1.toInt) : ∀ j, j < n → x j = f j := by
  refine h (fun x => ∀ j, j < n → x j = f j) ?_
  · intro x1 x2 x3 x4 h1 h2 h3 h4 h5
    intro j hj
    have e : x3.toNatClampNeg = n := nnE (by omega)
    have z : (0 : Int32).toNatClampNeg = 0 := by decide
    rw [h5, z, e, va_cpE (Nat.zero_le _) (by omega)]
    congr 1
    omega
theorem nl_tr {a b c r : Int32} (h : tr_RArraysSupport_newLength a b c r) : a.toInt + c.toInt ≤ r.toInt := by
  refine h (fun r => a.toInt + c.toInt ≤ r.toInt) ?_
  · intro x1 x2 h1 h2
    omega
theorem nc_tr {a r : Int32} {n : Nat} (h : tr_RAbstractStringBuilder_newCapacity a n r) : (n : Int) ≤ r.toInt := by
  refine h (fun r => (n : Int) ≤ r.toInt) ?_
  · intro x1 x2 x3 x4 x5 x6 x7 h1 h2 h3 h4 h5 h6 h7 h8
    have q := nl_tr h7
    omega
theorem eci_tr {a1 : Int32} {f x : Nat → Int32} {n m c : Nat} (hc : c ≤ n) (h : tr_RAbstractStringBuilder_ensureCapacityInternal2 a1 f n m x) : ∀ j, j < c → x j = f j := by
  refine h (fun _ x => ∀ j, j < c → x j = f j) ?_ ?_
  · intro x1 x2 x3 h1 h2 h3 h4
    exact fun j _ => rfl
  · intro x1 x2 x3 x4 x5 x6 h1 h2 h3 h4 h5 h6 h7 h8
    have q := nc_tr h6
    exact fun j hj => cpf_tr h8 (by omega) (by omega) j (by omega)
end RST
