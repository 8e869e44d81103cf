/-! what the reference's rows do to sets, in the words of a program's lines -/
def qOk (Q : gPg) : Prop := glO Q ∧ ∀ b, b < Q.1 → blC2 (Q.2.1 b) (Q.2.2.1 b) (Q.2.2.2 b)
section BKL
variable {l : Nat → Int} {op t a b f s rA rB : Int32} {g : Nat → Int} {sx : Int} {S : Nat → Bool} {k n : Nat}
theorem bk_ln {sl : Int32} (hO : rwO2 l) (hE : rwF l op t a b rA rB sl) : bkV false op.toInt t.toInt a.toInt b.toInt sx rA.toInt rB.toInt S k = true ↔ usR false l k ∨ (S k = true ∧ ¬ seR false l k) := by
  obtain ⟨e1, e2, e3, e4, e5, e6⟩ := hE
  obtain ⟨o1, o2, o3, o4, o5, o6, o7⟩ := hO
  unfold opdE at e1 e2 e4 e6
  unfold bkV usR seR
  rw [if_neg (by decide), if_neg (by decide), if_neg (by decide)]
  simp only [Bool.or_eq_true, Bool.and_eq_true, decide_eq_true_eq, Bool.not_eq_true', Bool.and_eq_false_iff, decide_eq_false_iff_not]
  have h0 : l 0 ≤ 13 ∨ l 0 = 14 ∨ l 0 = 15 ∨ l 0 = 16 ∨ l 0 = 17 ∨ l 0 = 18 := by omega
  rcases h0 with h0 | h0 | h0 | h0 | h0 | h0
  · obtain ⟨p1, p2, p3, p4⟩ := e1 h0
    clear e1 e2 e3 e4 e5 e6
    by_cases hp : S k = true
    · simp only [hp, true_and]; omega
    · simp only [hp, Bool.false_eq_true, false_and, false_or, or_false]; omega
  · obtain ⟨p1, p2, p3⟩ := e2 h0
    have o8 := o7 (by omega)
    clear e1 e2 e3 e4 e5 e6
    by_cases hp : S k = true
    · simp only [hp, true_and]; omega
    · simp only [hp, Bool.false_eq_true, false_and, false_or, or_false]; omega
  · obtain ⟨p1, p2⟩ := e3 h0
    have o8 := o7 (by omega)
    have o9 := o6 (by omega)
    clear e1 e2 e3 e4 e5 e6
    by_cases hp : S k = true
    · simp only [hp, true_and]; omega
    · simp only [hp, Bool.false_eq_true, false_and, false_or, or_false]; omega
  · obtain ⟨p1, p2⟩ := e4 h0
    have o8 := o7 (by omega)
    have o9 := o5 (by omega)
    clear e1 e2 e3 e4 e5 e6
    by_cases hp : S k = true
    · simp only [hp, true_and]; omega
    · simp only [hp, Bool.false_eq_true, false_and, false_or, or_false]; omega
  · obtain ⟨p1, p2, p3⟩ := e5 h0
    have o8 := o7 (by omega)
    have o9 := o6 (by omega)
    clear e1 e2 e3 e4 e5 e6
    by_cases hp : S k = true
    · simp only [hp, true_and]; omega
    · simp only [hp, Bool.false_eq_true, false_and, false_or, or_false]; omega
  · obtain ⟨p1, p2, p3⟩ := e6 h0
    have o8 := o7 (by omega)
    have o9 := o5 (by omega)
    clear e1 e2 e3 e4 e5 e6
    by_cases hp : S k = true
    · simp only [hp, true_and]; omega
    · simp only [hp, Bool.false_eq_true, false_and, false_or, or_false]; omega
theorem bk_ed (hO : edO2 l) (hG : edG (l 0) (g 0) (g 1)) (hE : edE l g op a rA f s) : bkV false op.toInt t.toInt a.toInt b.toInt sx rA.toInt rB.toInt S k = true ↔ usR false l k ∨ (S k = true ∧ ¬ seR false l k) := by
  obtain ⟨e1, e2, e3⟩ := hE
  obtain ⟨o1, o2, o3, o4⟩ := hO
  unfold opdE at e2 e3
  unfold bkV usR seR
  rw [if_neg (by decide), if_neg (by decide), if_neg (by decide)]
  simp only [Bool.or_eq_true, Bool.and_eq_true, decide_eq_true_eq, Bool.not_eq_true', Bool.and_eq_false_iff, decide_eq_false_iff_not]
  rcases hG with ⟨h0, h1⟩ | ⟨h0, h1⟩ | ⟨h0, h1⟩
  · obtain ⟨p1, p2⟩ := e1 h0
    have o9 := o4 h0
    clear e1 e2 e3
    by_cases hp : S k = true
    · simp only [hp, true_and]; omega
    · simp only [hp, Bool.false_eq_true, false_and, false_or, or_false]; omega
  · obtain ⟨p1, p2, p3⟩ := e2 h0
    clear e1 e2 e3
    by_cases hp : S k = true
    · simp only [hp, true_and]; omega
    · simp only [hp, Bool.false_eq_true, false_and, false_or, or_false]; omega
  · obtain ⟨p1, p2⟩ := e3 h0
    clear e1 e2 e3
    by_cases hp : S k = true
    · simp only [hp, true_and]; omega
    · simp only [hp, Bool.false_eq_true, false_and, false_or, or_false]; omega
theorem bh_ed {L : Nat → Nat → Bool} (hG : edG (l 0) (g 0) (g 1)) (hE : edE l g op a rA f s) (hg : ∀ i, i < 2 → g i ≠ -1 → g i < (n : Int)) : bhV op.toInt f.toInt s.toInt L k = true ↔ ∃ i h : Nat, i < 2 ∧ g i = (h : Int) ∧ h < n ∧ L h k = true := by
  obtain ⟨e1, e2, e3⟩ := hE
  have g0 := hg 0 (by decide)
  have g1 := hg 1 (by decide)
  unfold bhV
  rcases hG with ⟨h0, h1, h2, h3⟩ | ⟨h0, h1, h2, h3, h4⟩ | ⟨h0, h1, h2⟩
  · obtain ⟨p1, p2, p3⟩ := e1 h0
    rw [if_neg (by omega), if_pos (by omega)]
    constructor
    · intro z
      exact ⟨0, f.toInt.toNat, by decide, by omega, by omega, z⟩
    · rintro ⟨i, h, q1, q2, q3, q4⟩
      have e : i = 0 := by
        rcases Nat.lt_or_ge 0 i with w | w
        · have : i = 1 := by omega
          rw [this] at q2; omega
        · omega
      rw [e] at q2
      rw [show f.toInt.toNat = h by omega]
      exact q4
  · obtain ⟨p1, p2, p3, p4⟩ := e2 h0
    rw [if_neg (by omega)]
    by_cases q : op.toInt = 30 ∨ f.toInt = s.toInt
    · rw [if_pos q]
      constructor
      · intro z
        exact ⟨0, f.toInt.toNat, by decide, by omega, by omega, z⟩
      · rintro ⟨i, h, q1, q2, q3, q4⟩
        have e : i = 0 ∨ i = 1 := by omega
        rcases e with e | e
        · rw [e] at q2
          rw [show f.toInt.toNat = h by omega]
          exact q4
        · rw [e] at q2
          rw [show f.toInt.toNat = h by omega]
          exact q4
    · rw [if_neg q, Bool.or_eq_true]
      constructor
      · rintro (z | z)
        · exact ⟨0, f.toInt.toNat, by decide, by omega, by omega, z⟩
        · exact ⟨1, s.toInt.toNat, by decide, by omega, by omega, z⟩
      · rintro ⟨i, h, q1, q2, q3, q4⟩
        have e : i = 0 ∨ i = 1 := by omega
        rcases e with e | e
        · rw [e] at q2
          exact Or.inl (by rw [show f.toInt.toNat = h by omega]; exact q4)
        · rw [e] at q2
          exact Or.inr (by rw [show s.toInt.toNat = h by omega]; exact q4)
  · obtain ⟨p1, p2⟩ := e3 h0
    rw [if_pos (by omega)]
    constructor
    · intro z; cases z
    · rintro ⟨i, h, q1, q2, q3, q4⟩
      have e : i = 0 ∨ i = 1 := by omega
      rcases e with e | e
      · rw [e] at q2; omega
      · rw [e] at q2; omega
end BKL
section TRL
variable {γ el : Nat → Nat → Nat} {F : Nat → va_E} {c i k b : Nat} {Q : gPg} {L : Nat → Nat → Bool}
theorem qR (hq : rfW γ el F c Q) (hi : i < Q.1) : rfBw γ el F (el (γ 14 c) i) (Q.2.1 i) (Q.2.2.1 i) (Q.2.2.2 i) := hq.2.2 i hi
theorem qR_m (hq : rfW γ el F c Q) (hi : i < Q.1) : Q.2.1 i = γ 2 (γ 14 (el (γ 14 c) i)) + 1 := by
  obtain ⟨h1, ⟨h2, -⟩, -⟩ := qR hq hi
  omega
theorem qG (hO : qOk Q) (hi : i < Q.1) : ∀ j, j < 2 → Q.2.2.2 i j ≠ -1 → Q.2.2.2 i j < (Q.1 : Int) := fun j hj h => (hO.1 i j hi hj h).2
theorem qB (hO : qOk Q) (hi : i < Q.1) : (∀ j, j + 1 < Q.2.1 i → rwO2 (Q.2.2.1 i j)) ∧ edO2 (Q.2.2.1 i (Q.2.1 i - 1)) ∧ edG (Q.2.2.1 i (Q.2.1 i - 1) 0) (Q.2.2.2 i 0) (Q.2.2.2 i 1) := (hO.2 i hi).2
theorem qrow (hq : rfW γ el F c Q) (hO : qOk Q) (hi : i < Q.1) {j : Nat} (hj : j < γ 2 (γ 14 (el (γ 14 c) i))) {S : Nat → Bool} : bkS (F (el (γ 14 (el (γ 14 c) i)) j)) false S k = true ↔ usR false (Q.2.2.1 i j) k ∨ (S k = true ∧ ¬ seR false (Q.2.2.1 i j) k) := by
  obtain ⟨h1, ⟨h2, h3⟩, -⟩ := qR hq hi
  exact bk_ln ((qB hO hi).1 j (by omega)) (h3 j (by omega))
theorem qend (hq : rfW γ el F c Q) (hO : qOk Q) (hi : i < Q.1) {S : Nat → Bool} : bkS (F (γ 15 (el (γ 14 c) i))) false S k = true ↔ usR false (Q.2.2.1 i (Q.2.1 i - 1)) k ∨ (S k = true ∧ ¬ seR false (Q.2.2.1 i (Q.2.1 i - 1)) k) := by
  obtain ⟨-, -, h3⟩ := qR hq hi
  exact bk_ed (g := Q.2.2.2 i) (qB hO hi).2.1 (qB hO hi).2.2 h3
theorem qbh (hq : rfW γ el F c Q) (hO : qOk Q) (hi : i < Q.1) : bhV (fI (F (γ 15 (el (γ 14 c) i))) 0).toInt (fI (F (el (γ 14 c) i)) 2).toInt (fI (F (el (γ 14 c) i)) 3).toInt L k = true ↔ goX Q (fun g => L g k = true) i := by
  obtain ⟨-, -, h3⟩ := qR hq hi
  exact bh_ed (g := Q.2.2.2 i) (qB hO hi).2.2 h3 (qG hO hi)
/-- sound -/
theorem tr_so (hq : rfW γ el F c Q) (hO : qOk Q) (hi : i < Q.1) (hL : ∀ g, g < Q.1 → L g k = true → Lv Q false k g 0) : ∀ d, d ≤ γ 2 (γ 14 (el (γ 14 c) i)) → trS γ el F false (el (γ 14 c) i) L d k = true → Lv Q false k i (γ 2 (γ 14 (el (γ 14 c) i)) - d)
  | 0, _, h => by
    have m := qR_m hq hi
    have h2 := (qend hq hO hi).mp h
    rw [show Q.2.1 i - 1 = γ 2 (γ 14 (el (γ 14 c) i)) - 0 by omega] at h2
    rw [Lv_row hi (by omega)]
    refine h2.imp id (fun ⟨z1, z2⟩ => ⟨z2, ?_⟩)
    rw [show γ 2 (γ 14 (el (γ 14 c) i)) - 0 + 1 = Q.2.1 i by omega, Lv_out hi]
    exact goX_mo hL ((qbh hq hO hi).mp z1)
  | d + 1, hd, h => by
    have m := qR_m hq hi
    have h2 := (qrow hq hO hi (by omega)).mp h
    rw [show γ 2 (γ 14 (el (γ 14 c) i)) - 1 - d = γ 2 (γ 14 (el (γ 14 c) i)) - (d + 1) by omega] at h2
    rw [Lv_row hi (by omega)]
    refine h2.imp id (fun ⟨z1, z2⟩ => ⟨z2, ?_⟩)
    rw [show γ 2 (γ 14 (el (γ 14 c) i)) - (d + 1) + 1 = γ 2 (γ 14 (el (γ 14 c) i)) - d by omega]
    exact tr_so hq hO hi hL d (by omega) z1
/-- a row's place counted from the end -/
theorem trS_j (hq : rfW γ el F c Q) (hO : qOk Q) (hi : i < Q.1) {j : Nat} (hj : j < Q.2.1 i) : trS γ el F false (el (γ 14 c) i) L (Q.2.1 i - 1 - j) k = true ↔ usR false (Q.2.2.1 i j) k ∨ ((if j + 1 = Q.2.1 i then bhV (fI (F (γ 15 (el (γ 14 c) i))) 0).toInt (fI (F (el (γ 14 c) i)) 2).toInt (fI (F (el (γ 14 c) i)) 3).toInt L k = true else trS γ el F false (el (γ 14 c) i) L (Q.2.1 i - 1 - (j + 1)) k = true) ∧ ¬ seR false (Q.2.2.1 i j) k) := by
  have m := qR_m hq hi
  by_cases e : j + 1 = Q.2.1 i
  · rw [if_pos e, show Q.2.1 i - 1 - j = 0 by omega]
    have h2 := qend (k := k) hq hO hi (S := bhV (fI (F (γ 15 (el (γ 14 c) i))) 0).toInt (fI (F (el (γ 14 c) i)) 2).toInt (fI (F (el (γ 14 c) i)) 3).toInt L)
    rw [show Q.2.1 i - 1 = j by omega] at h2
    exact h2
  · rw [if_neg e, show Q.2.1 i - 1 - j = (Q.2.1 i - 1 - (j + 1)) + 1 by omega]
    have h2 := qrow (k := k) hq hO hi (j := γ 2 (γ 14 (el (γ 14 c) i)) - 1 - (Q.2.1 i - 1 - (j + 1))) (by omega) (S := trS γ el F false (el (γ 14 c) i) L (Q.2.1 i - 1 - (j + 1)))
    have e2 : γ 2 (γ 14 (el (γ 14 c) i)) - 1 - (Q.2.1 i - 1 - (j + 1)) = j := by omega
    have h3 : trS γ el F false (el (γ 14 c) i) L (Q.2.1 i - 1 - (j + 1) + 1) k = bkS (F (el (γ 14 (el (γ 14 c) i)) (γ 2 (γ 14 (el (γ 14 c) i)) - 1 - (Q.2.1 i - 1 - (j + 1))))) false (trS γ el F false (el (γ 14 c) i) L (Q.2.1 i - 1 - (j + 1))) k := rfl
    rw [h3, h2, e2]
/-- complete -/
theorem lv_co (hq : rfW γ el F c Q) (hO : qOk Q) (hL : ∀ i, i < Q.1 → trS γ el F false (el (γ 14 c) i) L (γ 2 (γ 14 (el (γ 14 c) i))) k = true → L i k = true) (h : Lv Q false k b 0) (hb : b < Q.1) : L b k = true := by
  have h0 : ∀ i, i < Q.1 → (if 0 = Q.2.1 i then bhV (fI (F (γ 15 (el (γ 14 c) i))) 0).toInt (fI (F (el (γ 14 c) i)) 2).toInt (fI (F (el (γ 14 c) i)) 3).toInt L k = true else trS γ el F false (el (γ 14 c) i) L (Q.2.1 i - 1 - 0) k = true) → L i k = true := fun i hi z => by
    have m := qR_m hq hi
    rw [if_neg (by omega), show Q.2.1 i - 1 - 0 = γ 2 (γ 14 (el (γ 14 c) i)) by omega] at z
    exact hL i hi z
  refine h0 b hb (h (fun b j => b < Q.1 → (if j = Q.2.1 b then bhV (fI (F (γ 15 (el (γ 14 c) b))) 0).toInt (fI (F (el (γ 14 c) b)) 2).toInt (fI (F (el (γ 14 c) b)) 3).toInt L k = true else trS γ el F false (el (γ 14 c) b) L (Q.2.1 b - 1 - j) k = true)) (fun b j h1 h2 h3 hb => ?_) (fun b j h1 h2 h3 h4 hb => ?_) (fun b i g h1 h2 h3 h4 h5 hb => ?_) hb)
  · rw [if_neg (by omega)]
    exact (trS_j hq hO hb h2).mpr (Or.inl h3)
  · rw [if_neg (by omega)]
    exact (trS_j hq hO hb h2).mpr (Or.inr ⟨h4 hb, h3⟩)
  · rw [if_pos rfl]
    exact (qbh hq hO hb).mpr ⟨i, g, h2, h3, h4, h0 g h4 (h5 h4)⟩
end TRL
theorem updL_same {f : Nat → Int64} {z : Nat} : vp_updL f z (f z) = f := by
  funext j
  unfold vp_updL
  split
  · next e => rw [e]
  · rfl
section FLT
variable {D : va_G} {I : FieldType → ClassId} {P : List Nat} {F F1 F2 : Nat → va_E} {γ el : Nat → Nat → Nat} {q0 q1 : Nat} {Q : gPg} {a2 : Int32}
theorem fl131 {l4 s2 s3 e1 : Int32} {c1 kx : Nat} {s1 e2 : Nat → va_E} (ha : a2.toInt = 0) (h : tl_RModel_findLive_131 D I γ el P F l4 F2 a2 c1 F1 q1 q0 s1 s2 s3 kx e1 e2) : c1 = el (γ 14 q1) l4.toInt.toNat ∧ (∀ i : Nat, i < 40 → (i : Int) ≠ l4.toInt → e2 (γ 10 i) = F2 (γ 10 i)) ∧ (∀ k, k < 2048 → lvS γ e2 l4.toInt.toNat k = trS γ el F false c1 (lvM γ F2) (γ 2 (γ 14 c1)) k) ∧ (∀ k : Nat, k < 2048 → 64 * s2.toInt ≤ (k : Int) → lvS γ s1 l4.toInt.toNat k = lvS γ F2 l4.toInt.toNat k) ∧ (e1.toInt = 0 → s3.toInt = 0 ∧ ∀ k, k < 2048 → lvS γ e2 l4.toInt.toNat k = lvS γ s1 l4.toInt.toNat k) := by
  have ed : decide (a2.toInt = 1) = false := decide_eq_false (by omega)
  refine h (fun s1 s2 s3 _ e1 e2 => c1 = el (γ 14 q1) l4.toInt.toNat ∧ (∀ i : Nat, i < 40 → (i : Int) ≠ l4.toInt → e2 (γ 10 i) = F2 (γ 10 i)) ∧ (∀ k, k < 2048 → lvS γ e2 l4.toInt.toNat k = trS γ el F false c1 (lvM γ F2) (γ 2 (γ 14 c1)) k) ∧ (∀ k : Nat, k < 2048 → 64 * s2.toInt ≤ (k : Int) → lvS γ s1 l4.toInt.toNat k = lvS γ F2 l4.toInt.toNat k) ∧ (e1.toInt = 0 → s3.toInt = 0 ∧ ∀ k, k < 2048 → lvS γ e2 l4.toInt.toNat k = lvS γ s1 l4.toInt.toNat k)) ?_ ?_ ?_ ?_
  · intro F_3 l6_3 l3_3 h1 h2 h3 h4 h5 h6 h7 h8 h9 h10 h11
    have hs : ∀ k : Nat, k < 2048 → 64 * l6_3.toInt ≤ (k : Int) → lvS γ F_3 l4.toInt.toNat k = lvS γ F2 l4.toInt.toNat k := fun k hk hk2 => by
      have z := h7 k hk
      rw [if_neg (by omega)] at z
      exact z
    refine ⟨h9, h5, fun k hk => ?_, hs, fun z => ⟨z, fun _ _ => rfl⟩⟩
    have z := h7 k hk
    rw [if_pos (by omega), ed] at z
    exact z
  · intro F_3 l6_3 l3_3 x1 x2 x3 x4 x5 x6 x7 k e1 e2 h1 h2 h3 h4 h5 h6 h7 h8 h9 h10 h11 h12 h13 h14 h15 h16 h17 h18 h19 h20 h21 h22 ih
    have hs : ∀ k : Nat, k < 2048 → 64 * l6_3.toInt ≤ (k : Int) → lvS γ F_3 l4.toInt.toNat k = lvS γ F2 l4.toInt.toNat k := fun k hk hk2 => by
      have z := h7 k hk
      rw [if_neg (by omega)] at z
      exact z
    obtain ⟨i1, i2, i3, i4, i5⟩ := ih
    exact ⟨i1, i2, i3, hs, fun z => absurd (i5 z).1 (by decide)⟩
  · intro F_3 l6_3 l3_3 x1 x2 x3 x4 x5 x6 x7 x8 k e1 e2 h1 h2 h3 h4 h5 h6 h7 h8 h9 h10 h11 h12 h13 h14 h15 h16 h17 h18 h19 h20 h21 h22 h23 h24 ih
    have hs : ∀ k : Nat, k < 2048 → 64 * l6_3.toInt ≤ (k : Int) → lvS γ F_3 l4.toInt.toNat k = lvS γ F2 l4.toInt.toNat k := fun k hk hk2 => by
      have z := h7 k hk
      rw [if_neg (by omega)] at z
      exact z
    obtain ⟨i1, i2, i3, i4, i5⟩ := ih
    refine ⟨i1, i2, i3, hs, fun z => ⟨h12, fun k hk => ?_⟩⟩
    rw [(i5 z).2 k hk]
    have e : x6 = x2 := by rw [h21, ← h20, h16]; exact updL_same
    show rbt (cL (x7 (γ 10 l4.toInt.toNat))) k = rbt (cL (F_3 (γ 10 l4.toInt.toNat))) k
    rw [← h14, cL_of h23, cL_of h15, e]
  · intro F_3 l6_3 l3_3 x1 x2 x3 x4 x5 x6 x7 x8 k e1 e2 h1 h2 h3 h4 h5 h6 h7 h8 h9 h10 h11 h12 h13 h14 h15 h16 h17 h18 h19 h20 h21 h22 h23 h24 ih
    have hs : ∀ k : Nat, k < 2048 → 64 * l6_3.toInt ≤ (k : Int) → lvS γ F_3 l4.toInt.toNat k = lvS γ F2 l4.toInt.toNat k := fun k hk hk2 => by
      have z := h7 k hk
      rw [if_neg (by omega)] at z
      exact z
    obtain ⟨i1, i2, i3, i4, i5⟩ := ih
    exact ⟨i1, i2, i3, hs, fun z => absurd (i5 z).1 (by decide)⟩
def flS (γ : Nat → Nat → Nat) (Q : gPg) (F : Nat → va_E) : Prop := ∀ i k, i < Q.1 → lvM γ F i k = true → Lv Q false k i 0
def flC (γ el : Nat → Nat → Nat) (F0 : Nat → va_E) (c : Nat) (Q : gPg) (F : Nat → va_E) : Prop := ∀ i, i < Q.1 → ∀ k, k < 2048 → trS γ el F0 false (el (γ 14 c) i) (lvM γ F) (γ 2 (γ 14 (el (γ 14 c) i))) k = true → lvM γ F i k = true
theorem fl58 {s2 s3 e1 : Int32} {kx : Nat} {s1 e2 : Nat → va_E} (ha : a2.toInt = 0) (hq : rfW γ el F q1 Q) (hO : qOk Q) (hQ4 : Q.1 ≤ 40) (hQ6 : γ 6 (γ 1 q1) = Q.1) (h : tl_RModel_findLive_58 D I γ el P F q1 a2 F1 q0 s1 s2 s3 kx e1 e2) : flS γ Q s1 → flS γ Q e2 ∧ (e1.toInt = 0 → s3.toInt = 0 ∧ (∀ i k, i < 40 → k < 2048 → lvS γ e2 i k = lvS γ s1 i k) ∧ ∀ i : Nat, (i : Int) ≤ s2.toInt → ∀ k, k < 2048 → trS γ el F false (el (γ 14 q1) i) (lvM γ s1) (γ 2 (γ 14 (el (γ 14 q1) i))) k = lvS γ s1 i k) := by
  refine h (fun s1 s2 s3 _ e1 e2 => flS γ Q s1 → flS γ Q e2 ∧ (e1.toInt = 0 → s3.toInt = 0 ∧ (∀ i k, i < 40 → k < 2048 → lvS γ e2 i k = lvS γ s1 i k) ∧ ∀ i : Nat, (i : Int) ≤ s2.toInt → ∀ k, k < 2048 → trS γ el F false (el (γ 14 q1) i) (lvM γ s1) (γ 2 (γ 14 (el (γ 14 q1) i))) k = lvS γ s1 i k)) ?_ ?_
  · intro F_2 l4_2 l3_2 h1 h2 h3 h4 h5 h6 h7 h8 h9
    intro hS
    exact ⟨hS, fun z => ⟨z, fun _ _ _ _ => rfl, fun i hi => by omega⟩⟩
  · intro F_2 l4_2 l3_2 x1 x2 x3 x4 x5 x6 x7 x8 x9 x10 x11 x12 x13 k e1 e2 h1 h2 h3 h4 h5 h6 h7 h8 h9 h10 h11 h12 h13 h14 h15 h16 h17 h18 h19 h20 h21 h22 h23 h24 h25 h26 h27 h28 h29 h30 h31 h32 h33 ih
    intro hS
    obtain ⟨f1, f2, f3, f4, f5⟩ := fl131 ha h32
    rw [show Int32.toInt 0 = 0 from by decide] at f4
    have hlt : l4_2.toInt.toNat < Q.1 := by omega
    have f6 : ∀ k, k < 2048 → lvS γ x10 l4_2.toInt.toNat k = lvS γ F_2 l4_2.toInt.toNat k := fun k hk => f4 k hk (by omega)
    have ho : ∀ i k, i < 40 → i ≠ l4_2.toInt.toNat → lvS γ x12 i k = lvS γ F_2 i k := fun i k hi hne => by
      unfold lvS
      rw [f2 i hi (by omega)]
    have hS2 : flS γ Q x12 := fun i k hi hk => by
      obtain ⟨k1, k2, k3⟩ := lvM_t hk
      by_cases e : i = l4_2.toInt.toNat
      · rw [e, f3 k k2, f1] at k3
        have z := tr_so hq hO hlt (fun g hg hL => hS g k hg hL) _ (Nat.le_refl _) k3
        rw [Nat.sub_self] at z
        rw [e]
        exact z
      · refine hS i k hi ?_
        rw [lvM_e k1 k2, ← ho i k k1 e]
        exact k3
    obtain ⟨g1, g2⟩ := ih hS2
    refine ⟨g1, fun z => ?_⟩
    obtain ⟨g3, g4, g5⟩ := g2 z
    obtain ⟨f7, f8⟩ := f5 g3
    have hal : ∀ i k, i < 40 → k < 2048 → lvS γ x12 i k = lvS γ F_2 i k := fun i k hi hk => by
      by_cases e : i = l4_2.toInt.toNat
      · rw [e, f8 k hk, f6 k hk]
      · exact ho i k hi e
    have hM : lvM γ x12 = lvM γ F_2 := by
      funext i k
      unfold lvM
      by_cases hd : i < 40 ∧ k < 2048
      · rw [hal i k hd.1 hd.2]
      · rw [decide_eq_false hd]
        rfl
    refine ⟨f7, fun i k hi hk => by rw [g4 i k hi hk, hal i k hi hk], fun i hi k hk => ?_⟩
    by_cases e : i = l4_2.toInt.toNat
    · have z3 := f3 k hk
      rw [f1] at z3
      rw [e, ← z3, hal _ k (by omega) hk]
    · have z := g5 i (by omega) k hk
      rw [hM] at z
      rw [z, hal i k (by omega) hk]
theorem fl44 {s2 : Int32} {kx : Nat} {s1 e1 : Nat → va_E} (ha : a2.toInt = 0) (hq : rfW γ el F q1 Q) (hO : qOk Q) (hQ4 : Q.1 ≤ 40) (hQ6 : γ 6 (γ 1 q1) = Q.1) (hF : ∀ F1, rStr γ [] F F1 → F1 q1 = F q1) (h : tl_RModel_findLive_44 D I γ el P F q1 a2 q0 s1 s2 kx e1) : flS γ Q s1 → (s2.toInt = 0 → flC γ el F q1 Q s1) → flS γ Q e1 ∧ flC γ el F q1 Q e1 := by
  refine h (fun s1 s2 _ e1 => flS γ Q s1 → (s2.toInt = 0 → flC γ el F q1 Q s1) → flS γ Q e1 ∧ flC γ el F q1 Q e1) ?_ ?_
  · intro F_1 l3_1 h1 h2 h3 h4 h5 h6
    intro hS hC
    exact ⟨hS, hC h6⟩
  · intro F_1 l3_1 x1 x2 x3 x4 k e1 h1 h2 h3 h4 h5 h6 h7 h8 h9 ih
    intro hS hC
    have e1 : x1.toInt = (Q.1 : Int) := by
      rw [← h7, hF _ h3]
      exact hq.1
    obtain ⟨g1, g2⟩ := fl58 ha hq hO hQ4 hQ6 h9 hS
    refine ih g1 (fun z => ?_)
    obtain ⟨-, g4, g5⟩ := g2 z
    have hM : lvM γ x4 = lvM γ F_1 := by
      funext i k
      unfold lvM
      by_cases hd : i < 40 ∧ k < 2048
      · rw [g4 i k hd.1 hd.2]
      · rw [decide_eq_false hd]
        rfl
    intro i hi k hk hz
    rw [hM, g5 i (by omega) k hk] at hz
    rw [hM, lvM_e (by omega) hk]
    exact hz
theorem fl2 {s2 : Int32} {kx : Nat} {s1 e1 : Nat → va_E} (hq : rfW γ el F q1 Q) (hF : ∀ F1, rStr γ [] F F1 → F1 q1 = F q1) (h : tl_RModel_findLive_2 D I γ el P F q0 q1 s1 s2 kx e1) : ∀ i : Nat, i < Q.1 → ∀ j : Nat, j < 32 → cL (e1 (γ 10 i)) j = 0 := by
  refine h (fun _ _ _ e1 => ∀ i : Nat, i < Q.1 → ∀ j : Nat, j < 32 → cL (e1 (γ 10 i)) j = 0) ?_ ?_
  · intro F_1 l3_1 x1 h1 h2 h3 h4 h5 h6 h7
    intro i hi j hj
    have e1 : x1.toInt = (Q.1 : Int) := by
      rw [← h6, hF _ h3]
      exact hq.1
    exact h4 i (by omega) j hj
  · intro F_1 l3_1 x1 x2 x3 k e1 h1 h2 h3 h4 h5 h6 h7 h8 h9 ih
    exact ih
/-- findLive finds what is alive -/
theorem fl_tr (ha : a2.toInt = 0) (hq : rfW γ el F q1 Q) (hO : qOk Q) (hQ4 : Q.1 ≤ 40) (hQ6 : γ 6 (γ 1 q1) = Q.1) (hF : ∀ F1, rStr γ [] F F1 → F1 q1 = F q1) (h : tr_RModel_findLive D I γ el P F q0 q1 a2 F1) : ∀ i k, i < Q.1 → k < 2048 → (lvS γ F1 i k = true ↔ Lv Q false k i 0) := by
  refine h (fun F1 => ∀ i k, i < Q.1 → k < 2048 → (lvS γ F1 i k = true ↔ Lv Q false k i 0)) ?_
  · intro x1 x2 h1 h2
    have z := fl2 hq hF h1
    obtain ⟨g1, g2⟩ := fl44 ha hq hO hQ4 hQ6 hF h2 (fun i k hi hk => by
      obtain ⟨k1, k2, k3⟩ := lvM_t hk
      unfold lvS at k3
      rw [rbt_z (z i hi (k / 64) (by omega))] at k3
      cases k3) (fun e => absurd e (by decide))
    intro i k hi hk
    constructor
    · intro w
      exact g1 i k hi (by rw [lvM_e (by omega) hk]; exact w)
    · intro w
      have w2 := lv_co (L := lvM γ x2) hq hO (fun i hi => g2 i hi k hk) w hi
      rw [lvM_e (by omega) hk] at w2
      exact w2
end FLT
