/-! slots shared: the reference -/
section SS9
variable {D : va_G} {I : FieldType → ClassId} {P : List Nat} {F : Nat → va_E} {γ el : Nat → Nat → Nat} {b j s sl : Nat} {R : gPg} {J : Nat → Nat → Prop} {X : Nat → va_E}
/-- only the two arrays of sharing differ -/
def fr2 (γ : Nat → Nat → Nat) (X Y : Nat → va_E) : Prop := ∀ a, a ≠ γ 9 16 → a ≠ γ 9 19 → Y a = X a
theorem s24_r {l3_1 : Int32} {q0 : Nat} {q1 : Nat} {s1 : Nat → va_E} {s2 : Int32} {k : Nat} {e1 : Nat → va_E} (hs : l3_1.toInt = (s : Int)) (h : tl_RModel_share_24 D I γ el P F l3_1 q0 q1 s1 s2 k e1) : ∀ m : Nat, s2.toInt = (m : Int) → m ≤ s → (∀ q, q < m → (cB (s1 (γ 9 16)) q).toInt = 0) → (∀ q, q < s → (cB (e1 (γ 9 16)) q).toInt = 0) ∧ ∀ a, a ≠ γ 9 16 → e1 a = s1 a := by
  refine h (fun s1 s2 k e1 => ∀ m : Nat, s2.toInt = (m : Int) → m ≤ s → (∀ q, q < m → (cB (s1 (γ 9 16)) q).toInt = 0) → (∀ q, q < s → (cB (e1 (γ 9 16)) q).toInt = 0) ∧ ∀ a, a ≠ γ 9 16 → e1 a = s1 a) ?_ ?_
  · intro F_2 l5_2 h1 h2 h3 h4 h5 h6 h7 h8
    intro m hm hms hz
    have e : m = s := by omega
    rw [e] at hz
    exact ⟨hz, fun _ _ => rfl⟩
  · intro F_2 l5_2 x1 x2 x3 x4 k e1 h1 h2 h3 h4 h5 h6 h7 h8 h9 h10 h11 h12 h13 h14 ih
    intro m hm hms hz
    obtain ⟨i1, i2⟩ := ih (m + 1) (by rw [h14]; omega) (by omega) (fun q hq => by
      rw [cB_of h13, h11, nnE hm]
      by_cases e : q = m
      · rw [e, updE]; decide
      · rw [updN e, ← cB_of h10]; exact hz q (by omega))
    exact ⟨i1, fun a ha => (i2 a ha).trans (h12 a ha)⟩
theorem s47_r {l3_1 : Int32} {q0 : Nat} {q1 : Nat} {s1 : Nat → va_E} {s2 : Int32} {k : Nat} {e1 : Nat → va_E} (hT : RS D I P F γ el) (hm : γ 0 q0 = 10) (hE : ∀ n k, n < 2000 → k < 2000 → (egS γ X n k = true ↔ J n k)) (hSd : ∀ n k, n < 2000 → k < 2000 → J n k → rSd (cB (X (γ 9 3))) k) (hs : l3_1.toInt = (s : Int)) (hs2 : s < 100) (h : tl_RModel_share_47 D I γ el P F l3_1 q0 q1 s1 s2 k e1) : ∀ m : Nat, s2.toInt = (m : Int) → m ≤ s → (∀ n, n < s → ((cB (s1 (γ 9 16)) n).toInt = 1 ↔ ∃ q, q < m ∧ J s q ∧ (cB (s1 (γ 9 19)) q).toInt = (n : Int))) → fr2 γ X s1 → (∀ n, n < s → ((cB (e1 (γ 9 16)) n).toInt = 1 ↔ ∃ q, q < s ∧ J s q ∧ (cB (e1 (γ 9 19)) q).toInt = (n : Int))) ∧ (∀ a, a ≠ γ 9 16 → e1 a = s1 a) := by
  obtain ⟨k16, k17, k19, k20, k21, k22⟩ := md_k9 hT hm
  obtain ⟨d0, d1, d2, d3⟩ := md_kd hT hm
  have n69 : γ 9 19 ≠ γ 9 16 := fun e => by rw [e, k16] at k19; cases k19
  refine h (fun s1 s2 k e1 => ∀ m : Nat, s2.toInt = (m : Int) → m ≤ s → (∀ n, n < s → ((cB (s1 (γ 9 16)) n).toInt = 1 ↔ ∃ q, q < m ∧ J s q ∧ (cB (s1 (γ 9 19)) q).toInt = (n : Int))) → fr2 γ X s1 → (∀ n, n < s → ((cB (e1 (γ 9 16)) n).toInt = 1 ↔ ∃ q, q < s ∧ J s q ∧ (cB (e1 (γ 9 19)) q).toInt = (n : Int))) ∧ (∀ a, a ≠ γ 9 16 → e1 a = s1 a)) ?_ ?_ ?_ ?_
  · intro F_2 l5_2 h1 h2 h3 h4 h5 h6 h7 h8
    intro m hm hms hz hf
    have e : m = s := by omega
    rw [e] at hz
    exact ⟨hz, fun _ _ => rfl⟩
  · intro F_2 l5_2 x1 x2 x3 k e1 h1 h2 h3 h4 h5 h6 h7 h8 h9 h10 h11 h12 h13 h14 ih
    intro m hm hms hz hf
    have hms2 : m < s := by omega
    have no : ¬ J s m := fun z => by
      have q := (hSd s m (by omega) (by omega) z).2
      rw [← hf _ (fun e => by rw [e, k16] at d3; cases d3) (fun e => by rw [e, k19] at d3; cases d3), cB_of h10, ← nnE hm, ← h11, h13] at q
      cases q
    refine ih (m + 1) (by rw [h14]; omega) (by omega) (fun n hn => ?_) hf
    rw [hz n hn]
    exact ⟨fun ⟨q, y1, y2⟩ => ⟨q, by omega, y2⟩, fun ⟨q, y1, y2, y3⟩ => ⟨q, Classical.byContradiction fun z => no (by rw [show q = m by omega] at y2; exact y2), y2, y3⟩⟩
  · intro F_2 l5_2 x1 x2 x3 x4 x5 k e1 h1 h2 h3 h4 h5 h6 h7 h8 h9 h10 h11 h12 h13 h14 h15 h16 h17 h18 ih
    intro m hm hms hz hf
    have hms2 : m < s := by omega
    have kx := er_kd hT d1 (show s < 2000 by omega)
    have e3 := h15
    rw [show l3_1.toInt.toNat = s by rw [hs]; rfl] at e3
    have p4 := h16
    rw [e3] at p4
    have hh := ha_tr (by omega) h17
    rw [show l5_2.toInt.toNat = m by rw [hm]; rfl] at hh
    have eb : (egS γ X s m = true ↔ rbt x4 m = true) := by
      unfold egS
      rw [← hf _ (fun e => by rw [e, k16] at kx; cases kx.1) (fun e => by rw [e, k19] at kx; cases kx.1), cL_of p4]
    have no : ¬ J s m := fun z => by
      have q := eb.mp ((hE s m (by omega) (by omega)).mpr z)
      rcases hh with y | y
      · rw [y.2] at q; cases q
      · exact absurd y.1 (by decide)
    refine ih (m + 1) (by rw [h18]; omega) (by omega) (fun n hn => ?_) hf
    rw [hz n hn]
    exact ⟨fun ⟨q, y1, y2⟩ => ⟨q, by omega, y2⟩, fun ⟨q, y1, y2, y3⟩ => ⟨q, Classical.byContradiction fun z => no (by rw [show q = m by omega] at y2; exact y2), y2, y3⟩⟩
  · intro F_2 l5_2 x1 x2 x3 x4 x5 x6 x7 x8 x9 x10 k e1 h1 h2 h3 h4 h5 h6 h7 h8 h9 h10 h11 h12 h13 h14 h15 h16 h17 h18 h19 h20 h21 h22 h23 h24 h25 h26 h27 ih
    intro m hm hms hz hf
    have hms2 : m < s := by omega
    have kx := er_kd hT d1 (show s < 2000 by omega)
    have e3 := h15
    rw [show l3_1.toInt.toNat = s by rw [hs]; rfl] at e3
    have p4 := h16
    rw [e3] at p4
    have hh := ha_tr (by omega) h17
    rw [show l5_2.toInt.toNat = m by rw [hm]; rfl] at hh
    have eb : (egS γ X s m = true ↔ rbt x4 m = true) := by
      unfold egS
      rw [← hf _ (fun e => by rw [e, k16] at kx; cases kx.1) (fun e => by rw [e, k19] at kx; cases kx.1), cL_of p4]
    have ok : J s m := (hE s m (by omega) (by omega)).mp (eb.mpr (by
      rcases hh with y | y
      · exact absurd y.1 (by decide)
      · exact y.2))
    have e19 : cB (x9 (γ 9 19)) = cB (F_2 (γ 9 19)) := by rw [h25 _ n69]
    have b6 : 0 ≤ x6.toInt ∧ x6.toInt ≤ (m : Int) := by
      have q := h4 m (by omega)
      rw [cB_of h20, ← nnE hm, ← h21] at q
      rw [nnE hm] at q
      exact q
    have v6 : (cB (F_2 (γ 9 19)) m).toInt = x6.toInt := by rw [cB_of h20, h21, nnE hm]
    obtain ⟨i1, i2⟩ := ih (m + 1) (by rw [h27]; omega) (by omega) (fun n hn => by
      rw [e19, cB_of h26, h24, nnE (show x6.toInt = ((x6.toInt.toNat : Nat) : Int) by omega)]
      by_cases e : n = x6.toInt.toNat
      · rw [e, updE]
        exact ⟨fun _ => ⟨m, by omega, ok, by rw [v6]; omega⟩, fun _ => by decide⟩
      · have hz2 := hz n hn
        rw [cB_of h23] at hz2
        rw [updN e, hz2]
        exact ⟨fun ⟨q, y1, y2⟩ => ⟨q, by omega, y2⟩, fun ⟨q, y1, y2, y3⟩ => ⟨q, Classical.byContradiction fun z => e (by rw [show q = m by omega, v6] at y3; omega), y2, y3⟩⟩) (fun a h1 h2 => (h25 a h1).trans (hf a h1 h2))
    exact ⟨i1, fun a ha => (i2 a ha).trans (h25 a ha)⟩
theorem s96_r {l3_1 : Int32} {F_2 : Nat → va_E} {q0 : Nat} {s1 : Int32} {k : Nat} {e1 : Int32} (hs : l3_1.toInt = (s : Int)) (h : tl_RModel_share_96 D I γ el l3_1 F_2 q0 s1 k e1) : ∀ m : Nat, s1.toInt = (m : Int) → m ≤ s → (∀ d, d < m → (cB (F_2 (γ 9 16)) d).toInt = 1) → ∃ c : Nat, e1.toInt = (c : Int) ∧ c ≤ s ∧ (∀ d, d < c → (cB (F_2 (γ 9 16)) d).toInt = 1) ∧ (c < s → (cB (F_2 (γ 9 16)) c).toInt ≠ 1) := by
  refine h (fun s1 k e1 => ∀ m : Nat, s1.toInt = (m : Int) → m ≤ s → (∀ d, d < m → (cB (F_2 (γ 9 16)) d).toInt = 1) → ∃ c : Nat, e1.toInt = (c : Int) ∧ c ≤ s ∧ (∀ d, d < c → (cB (F_2 (γ 9 16)) d).toInt = 1) ∧ (c < s → (cB (F_2 (γ 9 16)) c).toInt ≠ 1)) ?_ ?_ ?_
  · intro l4_2 h1 h2 h3 h4
    intro m hm hms hd
    exact ⟨m, hm, hms, hd, fun z => by omega⟩
  · intro l4_2 x1 x2 h1 h2 h3 h4 h5 h6 h7 h8
    intro m hm hms hd
    refine ⟨m, hm, hms, hd, fun _ => ?_⟩
    rw [cB_of h6, ← nnE hm, ← h7]
    exact h8
  · intro l4_2 x1 x2 x3 k e1 h1 h2 h3 h4 h5 h6 h7 h8 h9 ih
    intro m hm hms hd
    refine ih (m + 1) (by rw [h9]; omega) (by omega) (fun d hdm => ?_)
    by_cases e : d = m
    · rw [e, cB_of h6, ← nnE hm, ← h7]
      exact h8
    · exact hd d (by omega)
theorem s10_r {q0 : Nat} {q1 : Nat} {s1 : Nat → va_E} {s2 : Int32} {s3 : Int32} {k : Nat} {e1 : Int32} {e2 : Nat → va_E} (hT : RS D I P F γ el) (hm : γ 0 q0 = 10) (hE : ∀ n k, n < 2000 → k < 2000 → (egS γ X n k = true ↔ J n k)) (hSd : ∀ n k, n < 2000 → k < 2000 → J n k → rSd (cB (X (γ 9 3))) k) (hsl : (fI (X q0) 11).toInt = (sl : Int)) (hsl2 : sl ≤ 100) (h : tl_RModel_share_10 D I γ el P F q0 q1 s1 s2 s3 k e1 e2) : ∀ t : Nat, s2.toInt = (t : Int) → t ≤ sl → (∀ u, u < t → (cB (s1 (γ 9 19)) u).toInt = shN J t u) → fr2 γ X s1 → (∀ u, u < sl → (cB (e2 (γ 9 19)) u).toInt = shN J sl u) ∧ fr2 γ X e2 := by
  obtain ⟨k16, k17, k19, k20, k21, k22⟩ := md_k9 hT hm
  have m16 : q0 ≠ γ 9 16 := fun e => by rw [e, k16] at hm; cases hm
  have m19 : q0 ≠ γ 9 19 := fun e => by rw [e, k19] at hm; cases hm
  have n69 : γ 9 19 ≠ γ 9 16 := fun e => by rw [e, k16] at k19; cases k19
  refine h (fun s1 s2 s3 k e1 e2 => ∀ t : Nat, s2.toInt = (t : Int) → t ≤ sl → (∀ u, u < t → (cB (s1 (γ 9 19)) u).toInt = shN J t u) → fr2 γ X s1 → (∀ u, u < sl → (cB (e2 (γ 9 19)) u).toInt = shN J sl u) ∧ fr2 γ X e2) ?_ ?_ ?_
  · intro F_1 l3_1 l2_1 x1 h1 h2 h3 h4 h5 h6 h7 h8 h9 h10 h11
    intro t ht htl hu hf
    have x1e : x1.toInt = (sl : Int) := by rw [← h10, hf _ m16 m19]; exact hsl
    have e : t = sl := by omega
    rw [e] at hu
    exact ⟨hu, hf⟩
  · intro F_1 l3_1 l2_1 x1 x2 x3 x4 x5 x6 x7 x8 x9 x10 k e1 e2 h1 h2 h3 h4 h5 h6 h7 h8 h9 h10 h11 h12 h13 h14 h15 h16 h17 h18 h19 h20 h21 h22 h23 h24 h25 ih
    intro t ht htl hu hf
    have x1e : x1.toInt = (sl : Int) := by rw [← h10, hf _ m16 m19]; exact hsl
    have htl2 : t < sl := by omega
    obtain ⟨z1, z2⟩ := s24_r (s := t) ht h12 0 (by decide) (Nat.zero_le _) (fun q hq => absurd hq (Nat.not_lt_zero q))
    have f2 : fr2 γ X x2 := fun a h1 h2 => (z2 a h1).trans (hf a h1 h2)
    obtain ⟨w1, w2⟩ := s47_r (s := t) (X := X) (J := J) hT hm hE hSd ht (by omega) h13 0 (by decide) (Nat.zero_le _) (fun n hn => ⟨fun z => (by rw [z1 n hn] at z; cases z), fun ⟨q, y, _⟩ => absurd y (Nat.not_lt_zero q)⟩) f2
    have e19 : x3 (γ 9 19) = F_1 (γ 9 19) := (w2 _ n69).trans (z2 _ n69)
    obtain ⟨c, y1, y2, y3, y4⟩ := s96_r (s := t) ht h14 0 (by decide) (Nat.zero_le _) (fun d hd => absurd hd (Nat.not_lt_zero d))
    have lc : lcl J (shN J t) t = c := shN_l (g := fun u => (cB (F_1 (γ 9 19)) u).toInt) (fun u hu1 => hu u hu1) (fun u hu1 => (h5 u (by omega)).2) y2 (fun d hd => by
      obtain ⟨q, q1, q2, q3⟩ := (w1 d (by omega)).mp (y3 d hd)
      rw [e19] at q3
      exact ⟨q, q1, q3, q2⟩) (fun hc u hu1 hg hJ => y4 hc ((w1 c hc).mpr ⟨u, hu1, hJ, by rw [e19]; exact hg⟩))
    refine ih (t + 1) (by rw [h25]; omega) (by omega) (fun u hu1 => ?_) (fun a h1 h2 => (h18 a h2).trans ((w2 a h1).trans (f2 a h1 h2)))
    rw [cB_of h19, h17, nnE ht]
    by_cases e : u = t
    · rw [e, updE, shN_e, lc]; exact y1
    · rw [updN e, shN_n e, ← cB_of h16, e19]
      exact hu u (by omega)
  · intro F_1 l3_1 l2_1 x1 x2 x3 x4 x5 x6 x7 x8 x9 x10 x11 x12 k e1 e2 h1 h2 h3 h4 h5 h6 h7 h8 h9 h10 h11 h12 h13 h14 h15 h16 h17 h18 h19 h20 h21 h22 h23 h24 h25 h26 h27 ih
    intro t ht htl hu hf
    have x1e : x1.toInt = (sl : Int) := by rw [← h10, hf _ m16 m19]; exact hsl
    have htl2 : t < sl := by omega
    obtain ⟨z1, z2⟩ := s24_r (s := t) ht h12 0 (by decide) (Nat.zero_le _) (fun q hq => absurd hq (Nat.not_lt_zero q))
    have f2 : fr2 γ X x2 := fun a h1 h2 => (z2 a h1).trans (hf a h1 h2)
    obtain ⟨w1, w2⟩ := s47_r (s := t) (X := X) (J := J) hT hm hE hSd ht (by omega) h13 0 (by decide) (Nat.zero_le _) (fun n hn => ⟨fun z => (by rw [z1 n hn] at z; cases z), fun ⟨q, y, _⟩ => absurd y (Nat.not_lt_zero q)⟩) f2
    have e19 : x3 (γ 9 19) = F_1 (γ 9 19) := (w2 _ n69).trans (z2 _ n69)
    obtain ⟨c, y1, y2, y3, y4⟩ := s96_r (s := t) ht h14 0 (by decide) (Nat.zero_le _) (fun d hd => absurd hd (Nat.not_lt_zero d))
    have lc : lcl J (shN J t) t = c := shN_l (g := fun u => (cB (F_1 (γ 9 19)) u).toInt) (fun u hu1 => hu u hu1) (fun u hu1 => (h5 u (by omega)).2) y2 (fun d hd => by
      obtain ⟨q, q1, q2, q3⟩ := (w1 d (by omega)).mp (y3 d hd)
      rw [e19] at q3
      exact ⟨q, q1, q3, q2⟩) (fun hc u hu1 hg hJ => y4 hc ((w1 c hc).mpr ⟨u, hu1, hJ, by rw [e19]; exact hg⟩))
    refine ih (t + 1) (by rw [h27]; omega) (by omega) (fun u hu1 => ?_) (fun a h1 h2 => (h18 a h2).trans ((w2 a h1).trans (f2 a h1 h2)))
    rw [cB_of h19, h17, nnE ht]
    by_cases e : u = t
    · rw [e, updE, shN_e, lc]; exact y1
    · rw [updN e, shN_n e, ← cB_of h16, e19]
      exact hu u (by omega)
theorem sl_17 {l : Nat → Int} {e : va_E} (hO : rwO2 l) (h : lnX true l e) : ((l 0 = 17 ∨ l 0 = 18) ∧ ((fI e 0).toInt = 21 ∨ (fI e 0).toInt = 23) ∧ (fI e 4).toInt = l 5) ∨ (¬ (l 0 = 17 ∨ l 0 = 18) ∧ (fI e 0).toInt ≠ 21 ∧ (fI e 0).toInt ≠ 23) := by
  unfold lnX at h
  rw [if_pos rfl] at h
  obtain ⟨e1, e2, e3, e4, e5, e6⟩ := h
  have o1 := hO.1
  have h0 : l 0 ≤ 13 ∨ l 0 = 14 ∨ l 0 = 15 ∨ l 0 = 16 ∨ l 0 = 17 ∨ l 0 = 18 := by omega
  rcases h0 with h0 | h0 | h0 | h0 | h0 | h0
  · have := (e1 h0).1; exact Or.inr (by omega)
  · have := (e2 h0).1; exact Or.inr (by omega)
  · have := (e3 h0).1; exact Or.inr (by omega)
  · have := (e4 h0).1; exact Or.inr (by omega)
  · have := e5 h0; exact Or.inl ⟨Or.inl h0, Or.inl this.1, this.2.2⟩
  · have := e6 h0; exact Or.inl ⟨Or.inr h0, Or.inr this.1, this.2.2⟩
theorem set_S {l : Nat → Int} {e e1 : va_E} {y : Int32} {sf : Nat → Int} (hO : rwO2 l) (h : lnX true l e) (hs : rwS e) (he : e1 = cF e 4 (.int y)) (h17 : l 0 = 17 ∨ l 0 = 18) (hy : y.toInt = sf (l 5).toNat) : lnX true (shL sf l) e1 := by
  obtain ⟨-, f0, f1, f2, f3, f4, f5, f6⟩ := cw_4 hs he
  unfold lnX at h ⊢
  rw [if_pos rfl] at h ⊢
  unfold rwF at h ⊢
  rw [f0, f1, f2, f3, f4, f5, f6, shL_n (show (0 : Nat) ≠ 5 by decide), shL_n (show (1 : Nat) ≠ 5 by decide), shL_n (show (2 : Nat) ≠ 5 by decide), shL_n (show (3 : Nat) ≠ 5 by decide), shL_n (show (4 : Nat) ≠ 5 by decide), shL_5 h17]
  obtain ⟨e1, e2, e3, e4, e5, e6⟩ := h
  exact ⟨fun z => by omega, fun z => by omega, fun z => by omega, fun z => by omega, fun z => ⟨(e5 z).1, (e5 z).2.1, hy⟩, fun z => ⟨(e6 z).1, (e6 z).2.1, hy⟩⟩
theorem shL_id {l : Nat → Int} {sf : Nat → Int} (h : ¬ (l 0 = 17 ∨ l 0 = 18)) : shL sf l = l := by
  funext f
  exact if_neg (fun z => h z.2)
set_option maxHeartbeats 2000000 in
theorem s171_r {q1 : Nat} {q0 : Nat} {c1 : Nat} {s1 : Nat → va_E} {s2 : Int32} {k : Nat} {e1 : Nat → va_E} {sf : Nat → Int} {Y : Nat → va_E} (hm : γ 0 q0 = 10) (hc : γ 0 q1 = 9) (hR6 : γ 6 (γ 1 q1) = R.1) (hO : qOk R) (hsf : ∀ u, u < sl → (cB (Y (γ 9 19)) u).toInt = sf u) (hso : soO R sl) (hsl2 : sl ≤ 100) (hb : b < R.1) (hc1 : c1 = el (γ 14 q1) b) (h : tl_RModel_share_171 D I γ el P F q1 q0 c1 s1 s2 k e1) : ∀ j : Nat, s2.toInt = (j : Int) → j ≤ R.2.1 b - 1 → rfX γ el s1 q1 (hfP R (shL sf) b j) → (∀ a, γ 0 a ≠ 1 → s1 a = Y a) → rfX γ el e1 q1 (hfP R (shL sf) b (R.2.1 b - 1)) ∧ (∀ a, γ 0 a ≠ 1 → e1 a = Y a) := by
  refine h (fun s1 s2 k e1 => ∀ j : Nat, s2.toInt = (j : Int) → j ≤ R.2.1 b - 1 → rfX γ el s1 q1 (hfP R (shL sf) b j) → (∀ a, γ 0 a ≠ 1 → s1 a = Y a) → rfX γ el e1 q1 (hfP R (shL sf) b (R.2.1 b - 1)) ∧ (∀ a, γ 0 a ≠ 1 → e1 a = Y a)) ?_ ?_ ?_ ?_
  · intro F_2 l5_2 x1 x2 h1 h2 h3 h4 h5 h6 h7 h8 h9 h10 h11
    intro j hj hj2 hx hF
    have jT := h2
    have bk := hB2_ (Q := R) jT hc rfl hR6 b hb
    rw [← hc1] at bk
    obtain ⟨ll, nn, pp, ss, v1, ⟨g1, g2, g3⟩, v3, v4, v5, -⟩ := show rk_2 γ c1 (F_2 c1) from RS_o jT bk
    have ex1 : x1 = rwL γ el q1 b := by
      rw [← h8, v1]
      show ll = γ 14 (el (γ 14 q1) b)
      rw [← hc1, g1]
    have mlen : γ 2 (rwL γ el q1 b) + 1 = R.2.1 b := (hx.2.1 b hb).1
    have hx2 := h9
    rw [ex1] at hx2
    have e : j = R.2.1 b - 1 := by omega
    rw [e] at hx
    exact ⟨hx, hF⟩
  · intro F_2 l5_2 x1 x2 x3 x4 x5 x6 x7 x8 x9 k e1 h1 h2 h3 h4 h5 h6 h7 h8 h9 h10 h11 h12 h13 h14 h15 h16 h17 h18 h19 h20 h21 h22 h23 ih
    intro j hj hj2 hx hF
    have jT := h2
    have bk := hB2_ (Q := R) jT hc rfl hR6 b hb
    rw [← hc1] at bk
    obtain ⟨ll, nn, pp, ss, v1, ⟨g1, g2, g3⟩, v3, v4, v5, -⟩ := show rk_2 γ c1 (F_2 c1) from RS_o jT bk
    have ex1 : x1 = rwL γ el q1 b := by
      rw [← h8, v1]
      show ll = γ 14 (el (γ 14 q1) b)
      rw [← hc1, g1]
    have mlen : γ 2 (rwL γ el q1 b) + 1 = R.2.1 b := (hx.2.1 b hb).1
    have hx2 := h9
    rw [ex1] at hx2
    have hj3 : j < γ 2 (rwL γ el q1 b) := by omega
    have hj4 : j < R.2.1 b := by omega
    have e3 : x3 = rAt γ el q1 b j := by
      rw [h12, ex1, show l5_2.toInt.toNat = j by rw [hj]; rfl]
      exact (if_pos hj3).symm
    have hl := hx.2.2 b hb j (by omega)
    rw [← e3] at hl
    have hl2 : lnX true (R.2.2.1 b j) (F_2 x3) := by
      have q : lnX (rwB R b j) ((hfP R (shL sf) b j).2.2.1 b j) (F_2 x3) := hl
      rw [hf_l, show rwB R b j = true from decide_eq_true (by omega)] at q
      exact q
    have wO := (qB hO hb).1 j (by omega)
    have k7 := sl_17 wO hl2
    rw [h14] at k7
    have kx : γ 0 x3 = 1 := by rw [e3]; exact (rAt_k jT hc rfl (by omega)).1
    have o17 : R.2.2.1 b j 0 = 17 ∨ R.2.2.1 b j 0 = 18 := by omega
    have s5 := hso b j hb hj4 o17
    have k19 := (md_k9 jT hm).2.2.1
    have v5 : x5.toInt = R.2.2.1 b j 5 := by
      rw [← h17]
      rcases k7 with z | z
      · exact z.2.2
      · exact absurd o17 z.1
    have v7 : x7.toInt = sf (R.2.2.1 b j 5).toNat := by
      rw [h19, nnE (show x5.toInt = (((R.2.2.1 b j 5).toNat : Nat) : Int) by omega), ← cB_of h18, hF _ (by omega)]
      exact hsf _ (by omega)
    have p1 := set_S wO hl2 (rwS_1 (RS_o jT kx)) h22 o17 v7
    have pt := rfX_put (b := b) (j := j) (l := shL sf (R.2.2.1 b j)) (F1 := x8) jT hc rfl (by exact hR6) hx (hB2_ (Q := R) jT hc rfl hR6) hb hj4 (by rw [← e3]; exact h21) (by rw [hf_l]; exact shL_n (by decide)) (by
      rw [← e3]
      show lnX (rwB R b j) _ _
      rw [show rwB R b j = true from decide_eq_true (by omega)]
      exact p1)
    rw [hf_s] at pt
    exact ih (j + 1) (by rw [h23]; omega) (by omega) pt (fun a ha => (h21 a (fun e => ha (by rw [e]; exact kx))).trans (hF a ha))
  · intro F_2 l5_2 x1 x2 x3 x4 x5 k e1 h1 h2 h3 h4 h5 h6 h7 h8 h9 h10 h11 h12 h13 h14 h15 h16 h17 ih
    intro j hj hj2 hx hF
    have jT := h2
    have bk := hB2_ (Q := R) jT hc rfl hR6 b hb
    rw [← hc1] at bk
    obtain ⟨ll, nn, pp, ss, v1, ⟨g1, g2, g3⟩, v3, v4, v5, -⟩ := show rk_2 γ c1 (F_2 c1) from RS_o jT bk
    have ex1 : x1 = rwL γ el q1 b := by
      rw [← h8, v1]
      show ll = γ 14 (el (γ 14 q1) b)
      rw [← hc1, g1]
    have mlen : γ 2 (rwL γ el q1 b) + 1 = R.2.1 b := (hx.2.1 b hb).1
    have hx2 := h9
    rw [ex1] at hx2
    have hj3 : j < γ 2 (rwL γ el q1 b) := by omega
    have hj4 : j < R.2.1 b := by omega
    have e3 : x3 = rAt γ el q1 b j := by
      rw [h12, ex1, show l5_2.toInt.toNat = j by rw [hj]; rfl]
      exact (if_pos hj3).symm
    have hl := hx.2.2 b hb j (by omega)
    rw [← e3] at hl
    have hl2 : lnX true (R.2.2.1 b j) (F_2 x3) := by
      have q : lnX (rwB R b j) ((hfP R (shL sf) b j).2.2.1 b j) (F_2 x3) := hl
      rw [hf_l, show rwB R b j = true from decide_eq_true (by omega)] at q
      exact q
    have wO := (qB hO hb).1 j (by omega)
    have k7 := sl_17 wO hl2
    rw [h14] at k7
    have kx : γ 0 x3 = 1 := by rw [e3]; exact (rAt_k jT hc rfl (by omega)).1
    have id7 : shL sf (R.2.2.1 b j) = R.2.2.1 b j := shL_id (by omega)
    have pt : rfX γ el F_2 q1 (hfP R (shL sf) b (j + 1)) := by
      rw [← hf_s, id7]
      exact rfX_cur hx (fun f' _ => by rw [hf_l])
    exact ih (j + 1) (by rw [h17]; omega) (by omega) pt hF
  · intro F_2 l5_2 x1 x2 x3 x4 x5 x6 x7 x8 x9 k e1 h1 h2 h3 h4 h5 h6 h7 h8 h9 h10 h11 h12 h13 h14 h15 h16 h17 h18 h19 h20 h21 h22 h23 h24 ih
    intro j hj hj2 hx hF
    have jT := h2
    have bk := hB2_ (Q := R) jT hc rfl hR6 b hb
    rw [← hc1] at bk
    obtain ⟨ll, nn, pp, ss, v1, ⟨g1, g2, g3⟩, v3, v4, v5, -⟩ := show rk_2 γ c1 (F_2 c1) from RS_o jT bk
    have ex1 : x1 = rwL γ el q1 b := by
      rw [← h8, v1]
      show ll = γ 14 (el (γ 14 q1) b)
      rw [← hc1, g1]
    have mlen : γ 2 (rwL γ el q1 b) + 1 = R.2.1 b := (hx.2.1 b hb).1
    have hx2 := h9
    rw [ex1] at hx2
    have hj3 : j < γ 2 (rwL γ el q1 b) := by omega
    have hj4 : j < R.2.1 b := by omega
    have e3 : x3 = rAt γ el q1 b j := by
      rw [h12, ex1, show l5_2.toInt.toNat = j by rw [hj]; rfl]
      exact (if_pos hj3).symm
    have hl := hx.2.2 b hb j (by omega)
    rw [← e3] at hl
    have hl2 : lnX true (R.2.2.1 b j) (F_2 x3) := by
      have q : lnX (rwB R b j) ((hfP R (shL sf) b j).2.2.1 b j) (F_2 x3) := hl
      rw [hf_l, show rwB R b j = true from decide_eq_true (by omega)] at q
      exact q
    have wO := (qB hO hb).1 j (by omega)
    have k7 := sl_17 wO hl2
    rw [h14] at k7
    have kx : γ 0 x3 = 1 := by rw [e3]; exact (rAt_k jT hc rfl (by omega)).1
    have o17 : R.2.2.1 b j 0 = 17 ∨ R.2.2.1 b j 0 = 18 := by omega
    have s5 := hso b j hb hj4 o17
    have k19 := (md_k9 jT hm).2.2.1
    have v5 : x5.toInt = R.2.2.1 b j 5 := by
      rw [← h18]
      rcases k7 with z | z
      · exact z.2.2
      · exact absurd o17 z.1
    have v7 : x7.toInt = sf (R.2.2.1 b j 5).toNat := by
      rw [h20, nnE (show x5.toInt = (((R.2.2.1 b j 5).toNat : Nat) : Int) by omega), ← cB_of h19, hF _ (by omega)]
      exact hsf _ (by omega)
    have p1 := set_S wO hl2 (rwS_1 (RS_o jT kx)) h23 o17 v7
    have pt := rfX_put (b := b) (j := j) (l := shL sf (R.2.2.1 b j)) (F1 := x8) jT hc rfl (by exact hR6) hx (hB2_ (Q := R) jT hc rfl hR6) hb hj4 (by rw [← e3]; exact h22) (by rw [hf_l]; exact shL_n (by decide)) (by
      rw [← e3]
      show lnX (rwB R b j) _ _
      rw [show rwB R b j = true from decide_eq_true (by omega)]
      exact p1)
    rw [hf_s] at pt
    exact ih (j + 1) (by rw [h24]; omega) (by omega) pt (fun a ha => (h22 a (fun e => ha (by rw [e]; exact kx))).trans (hF a ha))
theorem s153_r {q1 : Nat} {q0 : Nat} {s1 : Nat → va_E} {s2 : Int32} {k : Nat} {e1 : Nat → va_E} {sf : Nat → Int} {Y : Nat → va_E} (hm : γ 0 q0 = 10) (hc : γ 0 q1 = 9) (hR6 : γ 6 (γ 1 q1) = R.1) (hO : qOk R) (hsf : ∀ u, u < sl → (cB (Y (γ 9 19)) u).toInt = sf u) (hso : soO R sl) (hsl2 : sl ≤ 100) (h : tl_RModel_share_153 D I γ el P F q1 q0 s1 s2 k e1) : ∀ b : Nat, s2.toInt = (b : Int) → b ≤ R.1 → rfX γ el s1 q1 (hfP R (shL sf) b 0) → (∀ a, γ 0 a ≠ 1 → s1 a = Y a) → rfX γ el e1 q1 (shP R sf) ∧ (∀ a, γ 0 a ≠ 1 → e1 a = Y a) := by
  refine h (fun s1 s2 k e1 => ∀ b : Nat, s2.toInt = (b : Int) → b ≤ R.1 → rfX γ el s1 q1 (hfP R (shL sf) b 0) → (∀ a, γ 0 a ≠ 1 → s1 a = Y a) → rfX γ el e1 q1 (shP R sf) ∧ (∀ a, γ 0 a ≠ 1 → e1 a = Y a)) ?_ ?_
  · intro F_1 l3_1 x1 h1 h2 h3 h4 h5 h6 h7 h8 h9
    intro b hb hb2 hx hF
    have q' : (fI (F_1 q1) 3).toInt = (R.1 : Int) := hx.1
    rw [h8] at q'
    have e : b = R.1 := by omega
    rw [e] at hx
    exact ⟨rfX_c hx rfl (fun i hi => ⟨rfl, rfl, fun k hk => (if_pos (Or.inl hi)).symm⟩), hF⟩
  · intro F_1 l3_1 x1 x2 x3 x4 x5 x6 k e1 h1 h2 h3 h4 h5 h6 h7 h8 h9 h10 h11 h12 h13 h14 h15 ih
    intro b hb hb2 hx hF
    have jT := h2
    have q' : (fI (F_1 q1) 3).toInt = (R.1 : Int) := hx.1
    rw [h8] at q'
    have hb3 : b < R.1 := by omega
    obtain ⟨lb, lr, rn, md, w1, ⟨w2, -⟩, -⟩ := show rk_9 γ el q1 (F_1 q1) from RS_o jT hc
    have e3 : x3 = el (γ 14 q1) b := by
      rw [h11, ← h10, w1, show l3_1.toInt.toNat = b by rw [hb]; rfl]
      show el lb b = _
      rw [w2]
    obtain ⟨i1, i2⟩ := s171_r hm hc hR6 hO hsf hso hsl2 hb3 e3 h14 0 (by decide) (Nat.zero_le _) hx hF
    refine ih (b + 1) (by rw [h15]; omega) hb3 (hf_e (fun i hi hi2 => shL_id (fun z => ?_)) i1) i2
    have g := (qB hO hb3).2.2
    rw [show R.2.1 b - 1 = i by omega] at g
    unfold edG at g
    omega
theorem Jn_Sd {v u : Nat} (h : Jn R true 2000 v u) : Sd R true 2000 u := by
  obtain ⟨b, j, q1, q2, q3⟩ := h
  rcases q3 with ⟨h1, h2, h3, h4, -⟩ | ⟨h1, h2, h3, h4, -⟩
  · obtain ⟨c, i, w1, w2, w3⟩ := Lv_us6 h4
    exact ⟨h2, c, i, w1, w2, Or.inl w3⟩
  · exact ⟨h1, b, j, q1, q2, Or.inr h3⟩
theorem s153_T {q1 : Nat} {q0 : Nat} {s1 : Nat → va_E} {s2 : Int32} {k : Nat} {e1 : Nat → va_E} (h : tl_RModel_share_153 D I γ el P F q1 q0 s1 s2 k e1) : RS D I P e1 γ el := by
  refine h (fun s1 s2 k e1 => RS D I P e1 γ el) ?_ ?_
  · intro F_1 l3_1 x1 h1 h2 h3 h4 h5 h6 h7 h8 h9
    exact h2
  · intro F_1 l3_1 x1 x2 x3 x4 x5 x6 k e1 h1 h2 h3 h4 h5 h6 h7 h8 h9 h10 h11 h12 h13 h14 h15 ih
    exact ih
theorem shr_r {q0 : Nat} {q1 : Nat} {o1 : Nat → va_E} (hT : RS D I P F γ el) (hm : γ 0 q0 = 10) (hc : γ 0 q1 = 9) (hR6 : γ 6 (γ 1 q1) = R.1) (hQ4 : R.1 ≤ 40) (hO : qOk R) (hq : rfX γ el F q1 R) (hsl : (fI (F q0) 11).toInt = (sl : Int)) (hsl2 : sl ≤ 100) (hso : soO R sl) (h : tr_RModel_share D I γ el P F q0 q1 o1) : rfX γ el o1 q1 (shP R (shN (Jn R true 2000) sl)) := by
  refine h (fun o1 => rfX γ el o1 q1 (shP R (shN (Jn R true 2000) sl))) ?_
  · intro x1 x2 x3 x4 x5 h1 h2 h3 h4 h5 h6 h7 h8 h9
    obtain ⟨k16, k17, k19, k20, k21, k22⟩ := md_k9 hT hm
    obtain ⟨g1, g2⟩ := gr_tr9 hT hm hc (rfX_W.mp hq) hO hQ4 hR6 (hB2_ (Q := R) hT hc rfl hR6) (by decide) h5
    have hSd : ∀ n k, n < 2000 → k < 2000 → Jn R true 2000 n k → rSd (cB (x1 (γ 9 3))) k := fun n k hn hk z => g2 k (Jn_Sd z)
    obtain ⟨w1, w2⟩ := s10_r (X := x1) (J := Jn R true 2000) (sl := sl) hT hm g1 hSd (by rw [h4]; exact hsl) hsl2 h6 0 (by decide) (Nat.zero_le _) (fun u hu => absurd hu (Nat.not_lt_zero u)) (fun a _ _ => rfl)
    have q1x : rfX γ el x1 q1 R := rfX_rs hT hc rfl (by exact hR6) hq h2 ⟨List.not_mem_nil, List.not_mem_nil, List.not_mem_nil⟩
    have T1 := h1
    have q3 : rfX γ el x3 q1 R := rfX_fr T1 hc rfl (by exact hR6) q1x (fun a ha => w2 a (fun e => by rw [e, k16] at ha; omega) (fun e => by rw [e, k19] at ha; omega))
    obtain ⟨y1, y2⟩ := s153_r (Y := x3) (sf := shN (Jn R true 2000) sl) hm hc hR6 hO w1 hso hsl2 h7 0 (by decide) (Nat.zero_le _) (hf_0 q3) (fun a _ => rfl)
    have T4 : RS D I P x4 γ el := s153_T h7
    exact rfX_fr T4 hc rfl (by exact hR6) y1 (fun a ha => h8 a (fun e => by rw [e, hm] at ha; omega))
end SS9
