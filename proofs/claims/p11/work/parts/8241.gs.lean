/-! the graph of slots, the reference -/
section BK9
variable {l : Nat → Int} {op t a b f s s2 rA rB : Int32} {g : Nat → Int} {sx : Int} {S : Nat → Bool} {k n : Nat}
theorem bk_ln9 (hO : rwO2 l) (hE : rwF l op t a b rA rB s) : bkV true op.toInt t.toInt a.toInt b.toInt s.toInt rA.toInt rB.toInt S k = true ↔ usR true l k ∨ (S k = true ∧ ¬ seR true l k) := by
  obtain ⟨e1, e2, e3, e4, e5, e6⟩ := hE
  obtain ⟨o1, -⟩ := hO
  unfold bkV usR seR
  rw [if_pos rfl, if_pos rfl, if_pos rfl]
  simp only [Bool.or_eq_true, Bool.and_eq_true, decide_eq_true_eq, Bool.not_eq_true', Bool.and_eq_false_iff, decide_eq_false_iff_not]
  have h0 : l 0 ≤ 13 ∨ l 0 = 14 ∨ l 0 = 15 ∨ l 0 = 16 ∨ l 0 = 17 ∨ l 0 = 18 := by omega
  have q : (l 0 = 17 ∧ op.toInt = 21 ∧ s.toInt = l 5) ∨ (l 0 = 18 ∧ op.toInt = 23 ∧ s.toInt = l 5) ∨ (l 0 ≠ 17 ∧ l 0 ≠ 18 ∧ op.toInt ≠ 21 ∧ op.toInt ≠ 23) := by
    rcases h0 with h0 | h0 | h0 | h0 | h0 | h0
    · have := (e1 h0).1; exact Or.inr (Or.inr (by omega))
    · have := (e2 h0).1; exact Or.inr (Or.inr (by omega))
    · have := (e3 h0).1; exact Or.inr (Or.inr (by omega))
    · have := (e4 h0).1; exact Or.inr (Or.inr (by omega))
    · have := e5 h0; exact Or.inl ⟨h0, this.1, this.2.2⟩
    · have := e6 h0; exact Or.inr (Or.inl ⟨h0, this.1, this.2.2⟩)
  clear e1 e2 e3 e4 e5 e6 h0
  by_cases hp : S k = true
  · simp only [hp, true_and]; omega
  · simp only [hp, Bool.false_eq_true, false_and, false_or, or_false]; omega
theorem bk_ed9 (hG : edG (l 0) (g 0) (g 1)) (hE : edE l g op a rA f s) : bkV true op.toInt t.toInt a.toInt b.toInt sx rA.toInt rB.toInt S k = true ↔ usR true l k ∨ (S k = true ∧ ¬ seR true l k) := by
  obtain ⟨e1, e2, e3⟩ := hE
  unfold bkV usR seR
  rw [if_pos rfl, if_pos rfl, if_pos rfl]
  simp only [Bool.or_eq_true, Bool.and_eq_true, decide_eq_true_eq, Bool.not_eq_true', Bool.and_eq_false_iff, decide_eq_false_iff_not]
  have q : l 0 ≠ 17 ∧ l 0 ≠ 18 ∧ op.toInt ≠ 21 ∧ op.toInt ≠ 23 := by
    rcases hG with ⟨h0, -⟩ | ⟨h0, -⟩ | ⟨h0, -⟩
    · have := (e1 h0).1; omega
    · have := (e2 h0).1; omega
    · have := (e3 h0).1; omega
  clear e1 e2 e3 hG
  by_cases hp : S k = true
  · simp only [hp, true_and]; omega
  · simp only [hp, Bool.false_eq_true, false_and, false_or, or_false]; omega
end BK9
section TRL
variable {γ el : Nat → Nat → Nat} {F : Nat → va_E} {c i k b : Nat} {Q : gPg} {L : Nat → Nat → Bool}
theorem qrow9 (hq : rfW γ el F c Q) (hO : qOk Q) (hi : i < Q.1) {j : Nat} (hj : j < γ 2 (γ 14 (el (γ 14 c) i))) {S : Nat → Bool} : bkS (F (el (γ 14 (el (γ 14 c) i)) j)) true S k = true ↔ usR true (Q.2.2.1 i j) k ∨ (S k = true ∧ ¬ seR true (Q.2.2.1 i j) k) := by
  obtain ⟨h1, ⟨h2, h3⟩, -⟩ := qR hq hi
  exact bk_ln9 ((qB hO hi).1 j (by omega)) (h3 j (by omega))
theorem qend9 (hq : rfW γ el F c Q) (hO : qOk Q) (hi : i < Q.1) {S : Nat → Bool} : bkS (F (γ 15 (el (γ 14 c) i))) true S k = true ↔ usR true (Q.2.2.1 i (Q.2.1 i - 1)) k ∨ (S k = true ∧ ¬ seR true (Q.2.2.1 i (Q.2.1 i - 1)) k) := by
  obtain ⟨-, -, h3⟩ := qR hq hi
  exact bk_ed9 (g := Q.2.2.2 i) (qB hO hi).2.2 h3
theorem tr_so9 (hq : rfW γ el F c Q) (hO : qOk Q) (hi : i < Q.1) (hL : ∀ g, g < Q.1 → L g k = true → Lv Q true k g 0) : ∀ d, d ≤ γ 2 (γ 14 (el (γ 14 c) i)) → trS γ el F true (el (γ 14 c) i) L d k = true → Lv Q true k i (γ 2 (γ 14 (el (γ 14 c) i)) - d)
  | 0, _, h => by
    have m := qR_m hq hi
    have h2 := (qend9 hq hO hi).mp h
    rw [show Q.2.1 i - 1 = γ 2 (γ 14 (el (γ 14 c) i)) - 0 by omega] at h2
    rw [Lv_row hi (by omega)]
    refine h2.imp id (fun ⟨z1, z2⟩ => ⟨z2, ?_⟩)
    rw [show γ 2 (γ 14 (el (γ 14 c) i)) - 0 + 1 = Q.2.1 i by omega, Lv_out hi]
    exact goX_mo hL ((qbh hq hO hi).mp z1)
  | d + 1, hd, h => by
    have m := qR_m hq hi
    have h2 := (qrow9 hq hO hi (by omega)).mp h
    rw [show γ 2 (γ 14 (el (γ 14 c) i)) - 1 - d = γ 2 (γ 14 (el (γ 14 c) i)) - (d + 1) by omega] at h2
    rw [Lv_row hi (by omega)]
    refine h2.imp id (fun ⟨z1, z2⟩ => ⟨z2, ?_⟩)
    rw [show γ 2 (γ 14 (el (γ 14 c) i)) - (d + 1) + 1 = γ 2 (γ 14 (el (γ 14 c) i)) - d by omega]
    exact tr_so9 hq hO hi hL d (by omega) z1
/-- a row's place counted from the end -/
theorem trS_j9 (hq : rfW γ el F c Q) (hO : qOk Q) (hi : i < Q.1) {j : Nat} (hj : j < Q.2.1 i) : trS γ el F true (el (γ 14 c) i) L (Q.2.1 i - 1 - j) k = true ↔ usR true (Q.2.2.1 i j) k ∨ ((if j + 1 = Q.2.1 i then bhV (fI (F (γ 15 (el (γ 14 c) i))) 0).toInt (fI (F (el (γ 14 c) i)) 2).toInt (fI (F (el (γ 14 c) i)) 3).toInt L k = true else trS γ el F true (el (γ 14 c) i) L (Q.2.1 i - 1 - (j + 1)) k = true) ∧ ¬ seR true (Q.2.2.1 i j) k) := by
  have m := qR_m hq hi
  by_cases e : j + 1 = Q.2.1 i
  · rw [if_pos e, show Q.2.1 i - 1 - j = 0 by omega]
    have h2 := qend9 (k := k) hq hO hi (S := bhV (fI (F (γ 15 (el (γ 14 c) i))) 0).toInt (fI (F (el (γ 14 c) i)) 2).toInt (fI (F (el (γ 14 c) i)) 3).toInt L)
    rw [show Q.2.1 i - 1 = j by omega] at h2
    exact h2
  · rw [if_neg e, show Q.2.1 i - 1 - j = (Q.2.1 i - 1 - (j + 1)) + 1 by omega]
    have h2 := qrow9 (k := k) hq hO hi (j := γ 2 (γ 14 (el (γ 14 c) i)) - 1 - (Q.2.1 i - 1 - (j + 1))) (by omega) (S := trS γ el F true (el (γ 14 c) i) L (Q.2.1 i - 1 - (j + 1)))
    have e2 : γ 2 (γ 14 (el (γ 14 c) i)) - 1 - (Q.2.1 i - 1 - (j + 1)) = j := by omega
    have h3 : trS γ el F true (el (γ 14 c) i) L (Q.2.1 i - 1 - (j + 1) + 1) k = bkS (F (el (γ 14 (el (γ 14 c) i)) (γ 2 (γ 14 (el (γ 14 c) i)) - 1 - (Q.2.1 i - 1 - (j + 1))))) true (trS γ el F true (el (γ 14 c) i) L (Q.2.1 i - 1 - (j + 1))) k := rfl
    rw [h3, h2, e2]
/-- complete -/
theorem lv_co9 (hq : rfW γ el F c Q) (hO : qOk Q) (hL : ∀ i, i < Q.1 → trS γ el F true (el (γ 14 c) i) L (γ 2 (γ 14 (el (γ 14 c) i))) k = true → L i k = true) (h : Lv Q true k b 0) (hb : b < Q.1) : L b k = true := by
  have h0 : ∀ i, i < Q.1 → (if 0 = Q.2.1 i then bhV (fI (F (γ 15 (el (γ 14 c) i))) 0).toInt (fI (F (el (γ 14 c) i)) 2).toInt (fI (F (el (γ 14 c) i)) 3).toInt L k = true else trS γ el F true (el (γ 14 c) i) L (Q.2.1 i - 1 - 0) k = true) → L i k = true := fun i hi z => by
    have m := qR_m hq hi
    rw [if_neg (by omega), show Q.2.1 i - 1 - 0 = γ 2 (γ 14 (el (γ 14 c) i)) by omega] at z
    exact hL i hi z
  refine h0 b hb (h (fun b j => b < Q.1 → (if j = Q.2.1 b then bhV (fI (F (γ 15 (el (γ 14 c) b))) 0).toInt (fI (F (el (γ 14 c) b)) 2).toInt (fI (F (el (γ 14 c) b)) 3).toInt L k = true else trS γ el F true (el (γ 14 c) b) L (Q.2.1 b - 1 - j) k = true)) (fun b j h1 h2 h3 hb => ?_) (fun b j h1 h2 h3 h4 hb => ?_) (fun b i g h1 h2 h3 h4 h5 hb => ?_) hb)
  · rw [if_neg (by omega)]
    exact (trS_j9 hq hO hb h2).mpr (Or.inl h3)
  · rw [if_neg (by omega)]
    exact (trS_j9 hq hO hb h2).mpr (Or.inr ⟨h4 hb, h3⟩)
  · rw [if_pos rfl]
    exact (qbh hq hO hb).mpr ⟨i, g, h2, h3, h4, h0 g h4 (h5 h4)⟩
end TRL
section FLT
variable {D : va_G} {I : FieldType → ClassId} {P : List Nat} {F F1 F2 : Nat → va_E} {γ el : Nat → Nat → Nat} {q0 q1 : Nat} {Q : gPg} {a2 : Int32}
theorem fl1319 {l4 s2 s3 e1 : Int32} {c1 kx : Nat} {s1 e2 : Nat → va_E} (ha : a2.toInt = 1) (h : tl_RModel_findLive_131 D I γ el P F l4 F2 a2 c1 F1 q1 q0 s1 s2 s3 kx e1 e2) : c1 = el (γ 14 q1) l4.toInt.toNat ∧ (∀ i : Nat, i < 40 → (i : Int) ≠ l4.toInt → e2 (γ 10 i) = F2 (γ 10 i)) ∧ (∀ k, k < 2048 → lvS γ e2 l4.toInt.toNat k = trS γ el F true c1 (lvM γ F2) (γ 2 (γ 14 c1)) k) ∧ (∀ k : Nat, k < 2048 → 64 * s2.toInt ≤ (k : Int) → lvS γ s1 l4.toInt.toNat k = lvS γ F2 l4.toInt.toNat k) ∧ (e1.toInt = 0 → s3.toInt = 0 ∧ ∀ k, k < 2048 → lvS γ e2 l4.toInt.toNat k = lvS γ s1 l4.toInt.toNat k) := by
  have ed : decide (a2.toInt = 1) = true := decide_eq_true (by omega)
  refine h (fun s1 s2 s3 _ e1 e2 => c1 = el (γ 14 q1) l4.toInt.toNat ∧ (∀ i : Nat, i < 40 → (i : Int) ≠ l4.toInt → e2 (γ 10 i) = F2 (γ 10 i)) ∧ (∀ k, k < 2048 → lvS γ e2 l4.toInt.toNat k = trS γ el F true c1 (lvM γ F2) (γ 2 (γ 14 c1)) k) ∧ (∀ k : Nat, k < 2048 → 64 * s2.toInt ≤ (k : Int) → lvS γ s1 l4.toInt.toNat k = lvS γ F2 l4.toInt.toNat k) ∧ (e1.toInt = 0 → s3.toInt = 0 ∧ ∀ k, k < 2048 → lvS γ e2 l4.toInt.toNat k = lvS γ s1 l4.toInt.toNat k)) ?_ ?_ ?_ ?_
  · intro F_3 l6_3 l3_3 h1 h2 h3 h4 h5 h6 h7 h8 h9 h10 h11
    have hs : ∀ k : Nat, k < 2048 → 64 * l6_3.toInt ≤ (k : Int) → lvS γ F_3 l4.toInt.toNat k = lvS γ F2 l4.toInt.toNat k := fun k hk hk2 => by
      have z := h7 k hk
      rw [if_neg (by omega)] at z
      exact z
    refine ⟨h9, h5, fun k hk => ?_, hs, fun z => ⟨z, fun _ _ => rfl⟩⟩
    have z := h7 k hk
    rw [if_pos (by omega), ed] at z
    exact z
  · intro F_3 l6_3 l3_3 x1 x2 x3 x4 x5 x6 x7 k e1 e2 h1 h2 h3 h4 h5 h6 h7 h8 h9 h10 h11 h12 h13 h14 h15 h16 h17 h18 h19 h20 h21 h22 ih
    have hs : ∀ k : Nat, k < 2048 → 64 * l6_3.toInt ≤ (k : Int) → lvS γ F_3 l4.toInt.toNat k = lvS γ F2 l4.toInt.toNat k := fun k hk hk2 => by
      have z := h7 k hk
      rw [if_neg (by omega)] at z
      exact z
    obtain ⟨i1, i2, i3, i4, i5⟩ := ih
    exact ⟨i1, i2, i3, hs, fun z => absurd (i5 z).1 (by decide)⟩
  · intro F_3 l6_3 l3_3 x1 x2 x3 x4 x5 x6 x7 x8 k e1 e2 h1 h2 h3 h4 h5 h6 h7 h8 h9 h10 h11 h12 h13 h14 h15 h16 h17 h18 h19 h20 h21 h22 h23 h24 ih
    have hs : ∀ k : Nat, k < 2048 → 64 * l6_3.toInt ≤ (k : Int) → lvS γ F_3 l4.toInt.toNat k = lvS γ F2 l4.toInt.toNat k := fun k hk hk2 => by
      have z := h7 k hk
      rw [if_neg (by omega)] at z
      exact z
    obtain ⟨i1, i2, i3, i4, i5⟩ := ih
    refine ⟨i1, i2, i3, hs, fun z => ⟨h12, fun k hk => ?_⟩⟩
    rw [(i5 z).2 k hk]
    have e : x6 = x2 := by rw [h21, ← h20, h16]; exact updL_same
    show rbt (cL (x7 (γ 10 l4.toInt.toNat))) k = rbt (cL (F_3 (γ 10 l4.toInt.toNat))) k
    rw [← h14, cL_of h23, cL_of h15, e]
  · intro F_3 l6_3 l3_3 x1 x2 x3 x4 x5 x6 x7 x8 k e1 e2 h1 h2 h3 h4 h5 h6 h7 h8 h9 h10 h11 h12 h13 h14 h15 h16 h17 h18 h19 h20 h21 h22 h23 h24 ih
    have hs : ∀ k : Nat, k < 2048 → 64 * l6_3.toInt ≤ (k : Int) → lvS γ F_3 l4.toInt.toNat k = lvS γ F2 l4.toInt.toNat k := fun k hk hk2 => by
      have z := h7 k hk
      rw [if_neg (by omega)] at z
      exact z
    obtain ⟨i1, i2, i3, i4, i5⟩ := ih
    exact ⟨i1, i2, i3, hs, fun z => absurd (i5 z).1 (by decide)⟩
def flS9 (γ : Nat → Nat → Nat) (Q : gPg) (F : Nat → va_E) : Prop := ∀ i k, i < Q.1 → lvM γ F i k = true → Lv Q true k i 0
def flC9 (γ el : Nat → Nat → Nat) (F0 : Nat → va_E) (c : Nat) (Q : gPg) (F : Nat → va_E) : Prop := ∀ i, i < Q.1 → ∀ k, k < 2048 → trS γ el F0 true (el (γ 14 c) i) (lvM γ F) (γ 2 (γ 14 (el (γ 14 c) i))) k = true → lvM γ F i k = true
theorem fl589 {s2 s3 e1 : Int32} {kx : Nat} {s1 e2 : Nat → va_E} (ha : a2.toInt = 1) (hq : rfW γ el F q1 Q) (hO : qOk Q) (hQ4 : Q.1 ≤ 40) (hQ6 : γ 6 (γ 1 q1) = Q.1) (h : tl_RModel_findLive_58 D I γ el P F q1 a2 F1 q0 s1 s2 s3 kx e1 e2) : flS9 γ Q s1 → flS9 γ Q e2 ∧ (e1.toInt = 0 → s3.toInt = 0 ∧ (∀ i k, i < 40 → k < 2048 → lvS γ e2 i k = lvS γ s1 i k) ∧ ∀ i : Nat, (i : Int) ≤ s2.toInt → ∀ k, k < 2048 → trS γ el F true (el (γ 14 q1) i) (lvM γ s1) (γ 2 (γ 14 (el (γ 14 q1) i))) k = lvS γ s1 i k) := by
  refine h (fun s1 s2 s3 _ e1 e2 => flS9 γ Q s1 → flS9 γ Q e2 ∧ (e1.toInt = 0 → s3.toInt = 0 ∧ (∀ i k, i < 40 → k < 2048 → lvS γ e2 i k = lvS γ s1 i k) ∧ ∀ i : Nat, (i : Int) ≤ s2.toInt → ∀ k, k < 2048 → trS γ el F true (el (γ 14 q1) i) (lvM γ s1) (γ 2 (γ 14 (el (γ 14 q1) i))) k = lvS γ s1 i k)) ?_ ?_
  · intro F_2 l4_2 l3_2 h1 h2 h3 h4 h5 h6 h7 h8 h9
    intro hS
    exact ⟨hS, fun z => ⟨z, fun _ _ _ _ => rfl, fun i hi => by omega⟩⟩
  · intro F_2 l4_2 l3_2 x1 x2 x3 x4 x5 x6 x7 x8 x9 x10 x11 x12 x13 k e1 e2 h1 h2 h3 h4 h5 h6 h7 h8 h9 h10 h11 h12 h13 h14 h15 h16 h17 h18 h19 h20 h21 h22 h23 h24 h25 h26 h27 h28 h29 h30 h31 h32 h33 ih
    intro hS
    obtain ⟨f1, f2, f3, f4, f5⟩ := fl1319 ha h32
    rw [show Int32.toInt 0 = 0 from by decide] at f4
    have hlt : l4_2.toInt.toNat < Q.1 := by omega
    have f6 : ∀ k, k < 2048 → lvS γ x10 l4_2.toInt.toNat k = lvS γ F_2 l4_2.toInt.toNat k := fun k hk => f4 k hk (by omega)
    have ho : ∀ i k, i < 40 → i ≠ l4_2.toInt.toNat → lvS γ x12 i k = lvS γ F_2 i k := fun i k hi hne => by
      unfold lvS
      rw [f2 i hi (by omega)]
    have hS2 : flS9 γ Q x12 := fun i k hi hk => by
      obtain ⟨k1, k2, k3⟩ := lvM_t hk
      by_cases e : i = l4_2.toInt.toNat
      · rw [e, f3 k k2, f1] at k3
        have z := tr_so9 hq hO hlt (fun g hg hL => hS g k hg hL) _ (Nat.le_refl _) k3
        rw [Nat.sub_self] at z
        rw [e]
        exact z
      · refine hS i k hi ?_
        rw [lvM_e k1 k2, ← ho i k k1 e]
        exact k3
    obtain ⟨g1, g2⟩ := ih hS2
    refine ⟨g1, fun z => ?_⟩
    obtain ⟨g3, g4, g5⟩ := g2 z
    obtain ⟨f7, f8⟩ := f5 g3
    have hal : ∀ i k, i < 40 → k < 2048 → lvS γ x12 i k = lvS γ F_2 i k := fun i k hi hk => by
      by_cases e : i = l4_2.toInt.toNat
      · rw [e, f8 k hk, f6 k hk]
      · exact ho i k hi e
    have hM : lvM γ x12 = lvM γ F_2 := by
      funext i k
      unfold lvM
      by_cases hd : i < 40 ∧ k < 2048
      · rw [hal i k hd.1 hd.2]
      · rw [decide_eq_false hd]
        rfl
    refine ⟨f7, fun i k hi hk => by rw [g4 i k hi hk, hal i k hi hk], fun i hi k hk => ?_⟩
    by_cases e : i = l4_2.toInt.toNat
    · have z3 := f3 k hk
      rw [f1] at z3
      rw [e, ← z3, hal _ k (by omega) hk]
    · have z := g5 i (by omega) k hk
      rw [hM] at z
      rw [z, hal i k (by omega) hk]
theorem fl449 {s2 : Int32} {kx : Nat} {s1 e1 : Nat → va_E} (ha : a2.toInt = 1) (hq : rfW γ el F q1 Q) (hO : qOk Q) (hQ4 : Q.1 ≤ 40) (hQ6 : γ 6 (γ 1 q1) = Q.1) (hF : ∀ F1, rStr γ [] F F1 → F1 q1 = F q1) (h : tl_RModel_findLive_44 D I γ el P F q1 a2 q0 s1 s2 kx e1) : flS9 γ Q s1 → (s2.toInt = 0 → flC9 γ el F q1 Q s1) → flS9 γ Q e1 ∧ flC9 γ el F q1 Q e1 := by
  refine h (fun s1 s2 _ e1 => flS9 γ Q s1 → (s2.toInt = 0 → flC9 γ el F q1 Q s1) → flS9 γ Q e1 ∧ flC9 γ el F q1 Q e1) ?_ ?_
  · intro F_1 l3_1 h1 h2 h3 h4 h5 h6
    intro hS hC
    exact ⟨hS, hC h6⟩
  · intro F_1 l3_1 x1 x2 x3 x4 k e1 h1 h2 h3 h4 h5 h6 h7 h8 h9 ih
    intro hS hC
    have e1 : x1.toInt = (Q.1 : Int) := by
      rw [← h7, hF _ h3]
      exact hq.1
    obtain ⟨g1, g2⟩ := fl589 ha hq hO hQ4 hQ6 h9 hS
    refine ih g1 (fun z => ?_)
    obtain ⟨-, g4, g5⟩ := g2 z
    have hM : lvM γ x4 = lvM γ F_1 := by
      funext i k
      unfold lvM
      by_cases hd : i < 40 ∧ k < 2048
      · rw [g4 i k hd.1 hd.2]
      · rw [decide_eq_false hd]
        rfl
    intro i hi k hk hz
    rw [hM, g5 i (by omega) k hk] at hz
    rw [hM, lvM_e (by omega) hk]
    exact hz
theorem fl_tr9 (ha : a2.toInt = 1) (hq : rfW γ el F q1 Q) (hO : qOk Q) (hQ4 : Q.1 ≤ 40) (hQ6 : γ 6 (γ 1 q1) = Q.1) (hF : ∀ F1, rStr γ [] F F1 → F1 q1 = F q1) (h : tr_RModel_findLive D I γ el P F q0 q1 a2 F1) : ∀ i k, i < Q.1 → k < 2048 → (lvS γ F1 i k = true ↔ Lv Q true k i 0) := by
  refine h (fun F1 => ∀ i k, i < Q.1 → k < 2048 → (lvS γ F1 i k = true ↔ Lv Q true k i 0)) ?_
  · intro x1 x2 h1 h2
    have z := fl2 hq hF h1
    obtain ⟨g1, g2⟩ := fl449 ha hq hO hQ4 hQ6 hF h2 (fun i k hi hk => by
      obtain ⟨k1, k2, k3⟩ := lvM_t hk
      unfold lvS at k3
      rw [rbt_z (z i hi (k / 64) (by omega))] at k3
      cases k3) (fun e => absurd e (by decide))
    intro i k hi hk
    constructor
    · intro w
      exact g1 i k hi (by rw [lvM_e (by omega) hk]; exact w)
    · intro w
      have w2 := lv_co9 (L := lvM γ x2) hq hO (fun i hi => g2 i hi k hk) w hi
      rw [lvM_e (by omega) hk] at w2
      exact w2
end FLT
section GS9
variable {D : va_G} {I : FieldType → ClassId} {P : List Nat} {F F1 : Nat → va_E} {γ el : Nat → Nat → Nat} {q0 q1 : Nat} {Q : gPg} {a2 op t s r : Int32}
theorem sO9 (ha : a2.toInt = 1) (h : tr_RModel_setOf a2 op t s r) : (op.toInt = 23 ∧ r.toInt = s.toInt) ∨ (op.toInt ≠ 23 ∧ r.toInt = -1) := by
  refine h (fun r => (op.toInt = 23 ∧ r.toInt = s.toInt) ∨ (op.toInt ≠ 23 ∧ r.toInt = -1)) ?_ ?_ ?_ ?_
  · intro x1 h1 h2 h3 h4
    omega
  · intro x1 h1 h2 h3 h4
    omega
  · intro h1 h2
    exact Or.inr ⟨h2, by decide⟩
  · intro h1 h2
    exact Or.inl ⟨h2, rfl⟩
theorem sO92 (ha : a2.toInt = 1) (h : tr_RModel_setOf2 a2 op t s r) : (op.toInt = 23 ∧ r.toInt = s.toInt) ∨ (op.toInt ≠ 23 ∧ r.toInt = -1) := by
  refine h (fun r => (op.toInt = 23 ∧ r.toInt = s.toInt) ∨ (op.toInt ≠ 23 ∧ r.toInt = -1)) ?_ ?_ ?_ ?_
  · intro x1 h1 h2 h3 h4
    omega
  · intro x1 h1 h2 h3 h4
    omega
  · intro h1 h2
    exact Or.inr ⟨h2, by decide⟩
  · intro h1 h2
    exact Or.inl ⟨h2, rfl⟩
theorem bk_n9 {op t a b s ra rb : Int} {S : Nat → Bool} {k : Nat} {x : Bool} (c1 ca : Bool) (h1 : decide (op = 23) = c1) (ha : decide (op = 21) = ca) (hx : x = ((S k && !(c1 && decide ((k : Int) = s))) || (ca && decide ((k : Int) = s)))) : x = bkV true op t a b s ra rb S k := by
  unfold bkV
  rw [if_pos rfl, h1, ha]
  exact hx
theorem bk39 (hT : RS D I P F γ el) (hm : γ 0 q0 = 10) (hk : γ 0 q1 = 1) (ha : a2.toInt = 1) (h : tr_RModel_back3 D I γ el P F q0 q1 a2 F1) : (∀ k : Nat, nwL γ F1 k = bkS (F q1) true (nwL γ F) k) ∧ ∀ b, b ∈ P → b ≠ γ 9 2 → F1 b = F b := by
  have k92 := (md_kd hT hm).2.2.1
  have k92' : γ 0 (γ 9 2) = 35 := k92
  obtain ⟨op, t, a, b, s, ra, rb, he, v1, v2, v3, v4, v5, v6, v7, v8, v9, v10⟩ := show rk_1 γ q1 (F q1) from RS_o hT hk
  have m1 : q1 ∈ P := hT.1 q1 (by omega)
  have n1 : q1 ≠ γ 9 2 := fun e => by rw [e, k92] at hk; cases hk
  refine h (fun F1 => (∀ k : Nat, nwL γ F1 k = bkS (F q1) true (nwL γ F) k) ∧ ∀ b, b ∈ P → b ≠ γ 9 2 → F1 b = F b) ?_ ?_ ?_ ?_ ?_ ?_ ?_ ?_ ?_ ?_ ?_ ?_
  · intro x1 x2 x3 x4 x5 x6 x7 x8 h1 h2 h3 h4 h5 h6 h7 h8 h9 h10 h11 h12 h13 h14 h15
    omega
  · intro x1 x2 x3 x4 x5 x6 x7 x8 x9 x10 x11 x12 h1 h2 h3 h4 h5 h6 h7 h8 h9 h10 h11 h12 h13 h14 h15 h16 h17 h18 h19 h20 h21 h22
    omega
  · intro x1 x2 x3 x4 x5 x6 x7 x8 x9 x10 x11 x12 h1 h2 h3 h4 h5 h6 h7 h8 h9 h10 h11 h12 h13 h14 h15 h16 h17 h18 h19 h20 h21 h22 h23
    omega
  · intro x1 x2 x3 x4 x5 x6 x7 x8 x9 x10 x11 x12 x13 x14 x15 h1 h2 h3 h4 h5 h6 h7 h8 h9 h10 h11 h12 h13 h14 h15 h16 h17 h18 h19 h20 h21 h22 h23 h24 h25 h26 h27 h28 h29 h30
    omega
  · intro x1 x2 x3 x4 h1 h2 h3 h4 h5 h6 h7 h8
    have e1 : x1 = op := by rw [← h1, he]; rfl
    have e2 : x2 = t := by rw [← h2, he]; rfl
    have e3 : x3 = s := by rw [← h3, he]; rfl
    have qs := sO9 ha h5
    try rw [e1] at qs
    try rw [e2] at qs
    try rw [e3] at qs
    rw [e1] at h8
    have s0 : 0 ≤ s.toInt := v3.1
    refine ⟨fun k => ?_, fun b0 hb hne => ?_⟩
    · rw [bkS_of he]
      refine bk_n9 false false (decide_eq_false (by omega)) (decide_eq_false (by omega)) ?_
      simp only [Bool.false_and, Bool.not_false, Bool.and_true, Bool.or_false]
    · exact rfl
  · intro x1 x2 x3 x4 x5 x6 x7 h1 h2 h3 h4 h5 h6 h7 h8 h9 h10 h11 h12 h13 h14
    have e1 : x1 = op := by rw [← h1, he]; rfl
    have e2 : x2 = t := by rw [← h2, he]; rfl
    have e3 : x3 = s := by rw [← h3, he]; rfl
    have fx7 : x7 q1 = F q1 := (h12 q1 m1 (nm_c n1 nm_n))
    have qs := sO9 ha h5
    try rw [e1] at qs
    try rw [e2] at qs
    try rw [e3] at qs
    rw [e1] at h8
    have s0 : 0 ≤ s.toInt := v3.1
    refine ⟨fun k => ?_, fun b0 hb hne => ?_⟩
    · rw [bkS_of he]
      refine bk_n9 false true (decide_eq_false (by omega)) (decide_eq_true (by omega)) ?_
      unfold nwL
      rw [cL_of h13, cL_of h10]
      rw [se_tr h11 (by rw [e3]; exact s0) k, e3]
      simp only [Bool.false_and, Bool.true_and, Bool.not_false, Bool.and_true, Bool.or_false]
    · exact (h12 b0 hb (nm_c hne nm_n)).trans (rfl)
  · intro x1 x2 x3 x4 x5 x6 x7 x8 x9 x10 x11 h1 h2 h3 h4 h5 h6 h7 h8 h9 h10 h11 h12 h13 h14 h15 h16 h17 h18 h19 h20 h21 h22
    omega
  · intro x1 x2 x3 x4 x5 x6 x7 x8 x9 x10 x11 x12 x13 x14 h1 h2 h3 h4 h5 h6 h7 h8 h9 h10 h11 h12 h13 h14 h15 h16 h17 h18 h19 h20 h21 h22 h23 h24 h25 h26 h27 h28 h29
    omega
  · intro x1 x2 x3 x4 x5 x6 x7 x8 x9 x10 x11 x12 x13 x14 h1 h2 h3 h4 h5 h6 h7 h8 h9 h10 h11 h12 h13 h14 h15 h16 h17 h18 h19 h20 h21 h22 h23 h24 h25 h26 h27 h28 h29 h30
    omega
  · intro x1 x2 x3 x4 x5 x6 x7 x8 x9 x10 x11 x12 x13 x14 x15 x16 x17 h1 h2 h3 h4 h5 h6 h7 h8 h9 h10 h11 h12 h13 h14 h15 h16 h17 h18 h19 h20 h21 h22 h23 h24 h25 h26 h27 h28 h29 h30 h31 h32 h33 h34 h35 h36 h37
    omega
  · intro x1 x2 x3 x4 x5 x6 x7 h1 h2 h3 h4 h5 h6 h7 h8 h9 h10 h11 h12 h13 h14 h15
    have e1 : x1 = op := by rw [← h1, he]; rfl
    have e2 : x2 = t := by rw [← h2, he]; rfl
    have e3 : x3 = s := by rw [← h3, he]; rfl
    have fx7 : x7 q1 = F q1 := (h10 q1 m1 (nm_c n1 nm_n))
    have qs := sO9 ha h5
    try rw [e1] at qs
    try rw [e2] at qs
    try rw [e3] at qs
    rw [e1] at h15
    have s0 : 0 ≤ s.toInt := v3.1
    refine ⟨fun k => ?_, fun b0 hb hne => ?_⟩
    · rw [bkS_of he]
      refine bk_n9 true false (decide_eq_true (by omega)) (decide_eq_false (by omega)) ?_
      unfold nwL
      rw [cL_of h11, cL_of h8]
      rw [cl_tr h9 (by omega) k]
      rw [show x4.toInt = s.toInt by omega]
      simp only [Bool.false_and, Bool.true_and, Bool.not_false, Bool.and_true, Bool.or_false]
    · exact (h10 b0 hb (nm_c hne nm_n)).trans (rfl)
  · intro x1 x2 x3 x4 x5 x6 x7 x8 x9 h1 h2 h3 h4 h5 h6 h7 h8 h9 h10 h11 h12 h13 h14 h15 h16 h17 h18 h19 h20 h21 h22
    have e1 : x1 = op := by rw [← h1, he]; rfl
    have e2 : x2 = t := by rw [← h2, he]; rfl
    have e3 : x3 = s := by rw [← h3, he]; rfl
    have fx7 : x7 q1 = F q1 := (h10 q1 m1 (nm_c n1 nm_n))
    have fx9 : x9 q1 = F q1 := (h20 q1 m1 (nm_c n1 nm_n)).trans fx7
    have qs := sO9 ha h5
    try rw [e1] at qs
    try rw [e2] at qs
    try rw [e3] at qs
    rw [e1] at h15
    have s0 : 0 ≤ s.toInt := v3.1
    refine ⟨fun k => ?_, fun b0 hb hne => ?_⟩
    · rw [bkS_of he]
      refine bk_n9 true true (decide_eq_true (by omega)) (decide_eq_true (by omega)) ?_
      unfold nwL
      rw [cL_of h21, cL_of h8]
      rw [se_tr h19 (by rw [e3]; exact s0) k, e3]
      rw [cl_tr h9 (by omega) k]
      rw [show x4.toInt = s.toInt by omega]
      simp only [Bool.false_and, Bool.true_and, Bool.not_false, Bool.and_true, Bool.or_false]
    · exact (h20 b0 hb (nm_c hne nm_n)).trans ((h10 b0 hb (nm_c hne nm_n)).trans (rfl))
theorem rs_b9 (hT : RS D I P F γ el) (hk : γ 0 q1 = 1) : 0 ≤ (fI (F q1) 4).toInt ∧ (fI (F q1) 4).toInt ≤ 1999 := by
  obtain ⟨op, t, a, b, s, ra, rb, he, v1, v2, v3, -⟩ := show rk_1 γ q1 (F q1) from RS_o hT hk
  rw [he]
  exact v3
theorem std9 (hs : 0 ≤ (fI (F q1) 4).toInt ∧ (fI (F q1) 4).toInt ≤ 1999) (ha : a2.toInt = 1) (h : tr_RModel_stand2 D I γ el F q0 q1 a2 F1) : (∀ v, rSd (cB (F (γ 9 3))) v → rSd (cB (F1 (γ 9 3))) v) ∧ (∀ v : Nat, v < 2000 → ((fI (F q1) 0).toInt = 21 ∨ (fI (F q1) 0).toInt = 23) → (fI (F q1) 4).toInt = (v : Int) → rSd (cB (F1 (γ 9 3))) v) := by
  refine h (fun F1 => (∀ v, rSd (cB (F (γ 9 3))) v → rSd (cB (F1 (γ 9 3))) v) ∧ (∀ v : Nat, v < 2000 → ((fI (F q1) 0).toInt = 21 ∨ (fI (F q1) 0).toInt = 23) → (fI (F q1) 4).toInt = (v : Int) → rSd (cB (F1 (γ 9 3))) v)) ?_ ?_ ?_ ?_ ?_ ?_ ?_ ?_ ?_ ?_ ?_ ?_
  · intro x1 x2 x3 x4 x5 x6 x7 x8 h1 h2 h3 h4 h5 h6 h7 h8 h9 h10 h11 h12 h13 h14 h15
    omega
  · intro x1 x2 x3 x4 x5 x6 x7 x8 x9 x10 x11 x12 h1 h2 h3 h4 h5 h6 h7 h8 h9 h10 h11 h12 h13 h14 h15 h16 h17 h18 h19 h20 h21
    omega
  · intro x1 x2 x3 x4 x5 x6 x7 x8 x9 x10 x11 x12 h1 h2 h3 h4 h5 h6 h7 h8 h9 h10 h11 h12 h13 h14 h15 h16 h17 h18 h19 h20 h21 h22
    omega
  · intro x1 x2 x3 x4 x5 x6 x7 x8 x9 x10 x11 x12 x13 x14 x15 h1 h2 h3 h4 h5 h6 h7 h8 h9 h10 h11 h12 h13 h14 h15 h16 h17 h18 h19 h20 h21 h22 h23 h24 h25 h26 h27 h28
    omega
  · intro x1 x2 x3 x4 h1 h2 h3 h4 h5 h6 h7 h8
    have qs := sO92 ha h5
    have b3 := hs
    rw [h3] at b3
    exact ⟨fun v z => z, fun v hv z1 z2 => by rw [h1] at z1; rw [h3] at z2; omega⟩
  · intro x1 x2 x3 x4 x5 x6 x7 h1 h2 h3 h4 h5 h6 h7 h8 h9 h10 h11 h12 h13
    have qs := sO92 ha h5
    have b3 := hs
    rw [h3] at b3
    rw [cB_of h10, cB_of h13, h1, h3]
    have u0 := sd_u h11 b3.1 (by have := b3.2; omega)
    refine ⟨fun v z => (u0 v).mpr (Or.inl z), fun v hv z1 z2 => (u0 v).mpr (Or.inr ?_)⟩
    omega
  · intro x1 x2 x3 x4 x5 x6 x7 x8 x9 x10 x11 h1 h2 h3 h4 h5 h6 h7 h8 h9 h10 h11 h12 h13 h14 h15 h16 h17 h18 h19 h20 h21
    omega
  · intro x1 x2 x3 x4 x5 x6 x7 x8 x9 x10 x11 x12 x13 x14 h1 h2 h3 h4 h5 h6 h7 h8 h9 h10 h11 h12 h13 h14 h15 h16 h17 h18 h19 h20 h21 h22 h23 h24 h25 h26 h27
    omega
  · intro x1 x2 x3 x4 x5 x6 x7 x8 x9 x10 x11 x12 x13 x14 h1 h2 h3 h4 h5 h6 h7 h8 h9 h10 h11 h12 h13 h14 h15 h16 h17 h18 h19 h20 h21 h22 h23 h24 h25 h26 h27 h28
    omega
  · intro x1 x2 x3 x4 x5 x6 x7 x8 x9 x10 x11 x12 x13 x14 x15 x16 x17 h1 h2 h3 h4 h5 h6 h7 h8 h9 h10 h11 h12 h13 h14 h15 h16 h17 h18 h19 h20 h21 h22 h23 h24 h25 h26 h27 h28 h29 h30 h31 h32 h33 h34
    omega
  · intro x1 x2 x3 x4 x5 x6 x7 h1 h2 h3 h4 h5 h6 h7 h8 h9 h10 h11 h12 h13 h14
    have qs := sO92 ha h5
    have b3 := hs
    rw [h3] at b3
    rw [cB_of h8, cB_of h11, h1, h3]
    have u0 := sd_u h9 (by omega) (by omega)
    refine ⟨fun v z => (u0 v).mpr (Or.inl z), fun v hv z1 z2 => (u0 v).mpr (Or.inr ?_)⟩
    omega
  · intro x1 x2 x3 x4 x5 x6 x7 x8 x9 h1 h2 h3 h4 h5 h6 h7 h8 h9 h10 h11 h12 h13 h14 h15 h16 h17 h18 h19 h20
    have qs := sO92 ha h5
    have b3 := hs
    rw [h3] at b3
    rw [cB_of h8, cB_of h20, h1, h3]
    have u0 := sd_u h9 (by omega) (by omega)
    have u1 := sd_u h18 b3.1 (by have := b3.2; omega)
    refine ⟨fun v z => (u1 v).mpr (Or.inl ((u0 v).mpr (Or.inl z))), fun v hv z1 z2 => (u1 v).mpr (Or.inr ?_)⟩
    omega
def jd9 (Q : gPg) (b j n k : Nat) : Prop := seR true (Q.2.2.1 b j) n ∧ Lv Q true k b (j + 1) ∧ k ≠ n
def gMo9 (γ : Nat → Nat → Nat) (Q : gPg) (i : Nat) (s1 : Nat → va_E) (s2 : Int) (e1 : Nat → va_E) : Prop :=
  ((∀ k, k < 2048 → (nwL γ s1 k = true ↔ Lv Q true k i (s2 + 1).toNat)) → (∀ n, n < 2000 → egS γ s1 n n = false) → (∀ j k, j < 40 → lvS γ e1 j k = lvS γ s1 j k) ∧ (∀ n k, n < 2000 → k < 2048 → (egS γ e1 n k = true ↔ egS γ s1 n k = true ∨ ∃ j : Nat, (j : Int) ≤ s2 ∧ jd9 Q i j n k))) ∧
  (∀ v, rSd (cB (s1 (γ 9 3))) v → rSd (cB (e1 (γ 9 3))) v) ∧ ∀ j : Nat, (j : Int) ≤ s2 → ∀ v, v < 2000 → usR true (Q.2.2.1 i j) v ∨ seR true (Q.2.2.1 i j) v → rSd (cB (e1 (γ 9 3))) v
theorem us_17 {l : Nat → Int} {op t a b rA rB s : Int32} {v : Nat} (hE : rwF l op t a b rA rB s) (h : usR true l v ∨ seR true l v) : (op.toInt = 21 ∨ op.toInt = 23) ∧ s.toInt = (v : Int) := by
  unfold usR seR at h
  rw [if_pos rfl, if_pos rfl] at h
  obtain ⟨-, -, -, -, e5, e6⟩ := hE
  rcases h with h | h
  · have := e5 h.1; omega
  · have := e6 h.1; omega
theorem se_18 {l : Nat → Int} {op t a b rA rB s : Int32} {v : Nat} (hO : rwO2 l) (hE : rwF l op t a b rA rB s) : seR true l v ↔ op.toInt = 23 ∧ s.toInt = (v : Int) := by
  unfold seR
  rw [if_pos rfl]
  obtain ⟨e1, e2, e3, e4, e5, e6⟩ := hE
  have o1 := hO.1
  constructor
  · intro h
    have := e6 h.1; omega
  · rintro ⟨h1, h2⟩
    have h0 : l 0 ≤ 13 ∨ l 0 = 14 ∨ l 0 = 15 ∨ l 0 = 16 ∨ l 0 = 17 ∨ l 0 = 18 := by omega
    rcases h0 with h0 | h0 | h0 | h0 | h0 | h0
    · have := (e1 h0).1; omega
    · have := (e2 h0).1; omega
    · have := (e3 h0).1; omega
    · have := (e4 h0).1; omega
    · have := (e5 h0).1; omega
    · have := (e6 h0).2.2; exact ⟨h0, by omega⟩
theorem g109_9 {F2 F4 Fe Fb e1 : Nat → va_E} {i x2 : Nat} {l5 x10 : Int32} (hT : RS D I P F γ el) (hm : γ 0 q0 = 10) (hq : rfW γ el F q1 Q) (hO : qOk Q) (hi : i < Q.1) (h0 : 0 ≤ l5.toInt) (hlt : l5.toInt < (γ 2 (γ 14 (el (γ 14 q1) i)) : Int)) (hx2 : x2 = el (γ 14 (el (γ 14 q1) i)) l5.toInt.toNat) (hr : Fe x2 = F x2) (hr2 : F2 x2 = F x2)
    (hst : ∀ b, b ≠ γ 9 3 → F4 b = F2 b) (hsd : (∀ v, rSd (cB (F2 (γ 9 3))) v → rSd (cB (F4 (γ 9 3))) v) ∧ (∀ v : Nat, v < 2000 → ((fI (F2 x2) 0).toInt = 21 ∨ (fI (F2 x2) 0).toInt = 23) → (fI (F2 x2) 4).toInt = (v : Int) → rSd (cB (F4 (γ 9 3))) v)) (h93 : Fb (γ 9 3) = F4 (γ 9 3))
    (hed : (∀ n k, n < 2000 → egS γ F2 n n = false → k < 2048 → (egS γ Fe n k = true ↔ egS γ F4 n k = true ∨ (seR true (Q.2.2.1 i l5.toInt.toNat) n ∧ nwL γ F4 k = true ∧ k ≠ n))) ∧ (∀ k, nwL γ Fe k = nwL γ F4 k) ∧ ∀ i k, i < 40 → lvS γ Fe i k = lvS γ F4 i k)
    (hbk : (∀ k : Nat, nwL γ Fb k = bkS (Fe x2) true (nwL γ Fe) k) ∧ ∀ b, b ∈ P → b ≠ γ 9 2 → Fb b = Fe b) (hx10 : x10.toInt = l5.toInt + (-1)) (ih : gMo9 γ Q i Fb x10.toInt e1) : gMo9 γ Q i F2 l5.toInt e1 := by
  obtain ⟨ih, ihs, ihu⟩ := ih
  have m := qR_m hq hi
  refine ⟨?_, fun v z => ihs v (by rw [h93]; exact hsd.1 v z), fun j hj v hv hu => ?_⟩
  · intro hN hS
    obtain ⟨s1, s2, s3⟩ := st_v hT hm hst
    obtain ⟨e1', e2, e3⟩ := hed
    obtain ⟨b1, b2⟩ := hbk
    obtain ⟨v1, v2⟩ := bk_v hT hm b2
    have hj : l5.toInt.toNat < Q.2.1 i := by omega
    have eN : (l5.toInt + 1).toNat = l5.toInt.toNat + 1 := by omega
    rw [eN] at hN
    have hE : ∀ n k, n < 2000 → k < 2048 → (egS γ Fb n k = true ↔ egS γ F2 n k = true ∨ jd9 Q i l5.toInt.toNat n k) := fun n k hn hk => by
      rw [v1 n k hn, e1' n k hn (hS n hn) hk, s1 n k hn, s2 k, hN k hk]
      exact Iff.rfl
    obtain ⟨i1, i2⟩ := ih (fun k hk => by
      rw [b1 k, hr, hx2, qrow9 hq hO hi (by omega), e2 k, s2 k, hN k hk, show (x10.toInt + 1).toNat = l5.toInt.toNat by omega, Lv_row hi hj]
      exact or_congr_right ⟨fun z => ⟨z.2, z.1⟩, fun z => ⟨z.2, z.1⟩⟩) (fun n hn => by
      rw [← Bool.not_eq_true, hE n n hn (by omega)]
      rintro (z | z)
      · rw [hS n hn] at z; cases z
      · exact z.2.2 rfl)
    refine ⟨fun j k hj => by rw [i1 j k hj, v2 j k hj, e3 j k hj, s3 j k hj], fun n k hn hk => ?_⟩
    rw [i2 n k hn hk, hE n k hn hk]
    constructor
    · rintro ((z | z) | ⟨j, w1, w2⟩)
      · exact Or.inl z
      · exact Or.inr ⟨_, by omega, z⟩
      · exact Or.inr ⟨j, by omega, w2⟩
    · rintro (z | ⟨j, w1, w2⟩)
      · exact Or.inl (Or.inl z)
      · by_cases e : (j : Int) = l5.toInt
        · exact Or.inl (Or.inr (by rw [show l5.toInt.toNat = j by omega]; exact w2))
        · exact Or.inr ⟨j, by omega, w2⟩
  · by_cases e : (j : Int) = l5.toInt
    · refine ihs v ?_
      rw [h93]
      have ej : l5.toInt.toNat = j := by omega
      rw [ej] at hx2
      obtain ⟨-, ⟨rl1, rl2⟩, -⟩ := qR hq hi
      have q := us_17 (rl2 j (by omega)) hu
      rw [← hx2] at q
      exact hsd.2 v hv (by rw [hr2]; exact q.1) (by rw [hr2]; exact q.2)
    · exact ihu j (by omega) v hv hu
theorem g1099 {i c1 kx : Nat} {s1 e1 : Nat → va_E} {l3 s2 : Int32} (hT : RS D I P F γ el) (hm : γ 0 q0 = 10) (hq : rfW γ el F q1 Q) (hO : qOk Q) (hi : i < Q.1) (hB : γ 0 (el (γ 14 q1) i) = 2) (hc1 : c1 = el (γ 14 q1) i) (ha : a2.toInt = 1) (h : tl_RModel_graph_109 D I γ el P F c1 a2 q1 l3 q0 s1 s2 kx e1) : gMo9 γ Q i s1 s2.toInt e1 := by
  obtain ⟨k0, k1, k2, k3⟩ := md_kd hT hm
  obtain ⟨l, nn, p, s, v1, ⟨g1, g2, g3⟩, v3, v4, v5, -⟩ := show rk_2 γ (el (γ 14 q1) i) (F (el (γ 14 q1) i)) from RS_o hT hB
  have kl := (show rk_3 D I γ el F l from RS_o hT v3).2
  have m := qR_m hq hi
  obtain ⟨-, ⟨rl1, rl2⟩, -⟩ := qR hq hi
  subst hc1
  refine h (fun s1 s2 _ e1 => gMo9 γ Q i s1 s2.toInt e1) ?_ ?_ ?_ ?_ ?_ ?_ ?_ ?_ ?_ ?_ ?_
  · intro F_2 l5_2 h1 h2 h3 h4 h5 h6 h7
    refine ⟨?_, fun v z => z, fun j hj => absurd hj (by have := h7; omega)⟩
    intro hN hS
    exact ⟨fun _ _ _ => rfl, fun n k hn hk => ⟨Or.inl, fun z => z.elim id (fun ⟨j, w1, w2⟩ => absurd w1 (by have := h7; omega))⟩⟩
  · intro F_2 l5_2 x1 x2 x3 x4 x5 x6 x7 x8 x9 x10 k e1 h1 h2 h3 h4 h5 h6 h7 h8 h9 h10 h11 h12 h13 h14 h15 h16 h17 h18 h19 h20 h21 h22 h23 h24 h25 h26 h27 h28 h29 ih
    have hF2 := h3
    have ex1 : x1 = l := by rw [← h8, rs0 hF2 hB (by decide), v1]; rfl
    have eL : γ 14 (el (γ 14 q1) i) = l := g1
    have h50 := h7
    have hlt := h4
    have ex2 : x2 = el (γ 14 (el (γ 14 q1) i)) l5_2.toInt.toNat := by rw [h9, ex1, eL]
    have kx2 : γ 0 x2 = 1 := by rw [ex2, eL]; exact (kl _ (by rw [eL] at hlt; omega)).1
    have er2 : F_2 x2 = F x2 := rs0 hF2 kx2 (by decide)
    have hst := st2 h16
    have hsd := std9 (by rw [er2]; exact rs_b9 hT kx2) ha h16
    have er4 : x4 x2 = F x2 := (hst _ (fun e => by rw [e, k3] at kx2; cases kx2)).trans er2
    have rw4 := rl2 l5_2.toInt.toNat (by omega)
    rw [← ex2] at rw4
    have wO := (qB hO hi).1 l5_2.toInt.toNat (by omega)
    have qs := sO9 ha h21
    rw [← h17, ← h19, er4] at qs
    have se := fun v => se_18 (v := v) wO rw4
    refine g109_9 (Fe := x4) hT hm hq hO hi h50 (by omega) ex2 er4 er2 hst hsd h27 ⟨fun n k hn hnn hk => ⟨Or.inl, fun z => z.elim id (fun w => ?_)⟩, fun _ => rfl, fun _ _ _ => rfl⟩ (bk39 h12 hm kx2 ha h28) h29 ih
    have z1 := (se n).mp w.1
    omega
  · intro F_2 l5_2 x1 x2 x3 x4 x5 x6 x7 x8 x9 x10 x11 x12 x13 x14 x15 k e1 h1 h2 h3 h4 h5 h6 h7 h8 h9 h10 h11 h12 h13 h14 h15 h16 h17 h18 h19 h20 h21 h22 h23 h24 h25 h26 h27 h28 h29 h30 h31 h32 h33 h34 h35 h36 h37 ih
    have hF2 := h3
    have ex1 : x1 = l := by rw [← h8, rs0 hF2 hB (by decide), v1]; rfl
    have eL : γ 14 (el (γ 14 q1) i) = l := g1
    have h50 := h7
    have hlt := h4
    have ex2 : x2 = el (γ 14 (el (γ 14 q1) i)) l5_2.toInt.toNat := by rw [h9, ex1, eL]
    have kx2 : γ 0 x2 = 1 := by rw [ex2, eL]; exact (kl _ (by rw [eL] at hlt; omega)).1
    have er2 : F_2 x2 = F x2 := rs0 hF2 kx2 (by decide)
    have hst := st2 h16
    have hsd := std9 (by rw [er2]; exact rs_b9 hT kx2) ha h16
    have er4 : x4 x2 = F x2 := (hst _ (fun e => by rw [e, k3] at kx2; cases kx2)).trans er2
    have rw4 := rl2 l5_2.toInt.toNat (by omega)
    rw [← ex2] at rw4
    have wO := (qB hO hi).1 l5_2.toInt.toNat (by omega)
    have qs := sO9 ha h21
    rw [← h17, ← h19, er4] at qs
    have se := fun v => se_18 (v := v) wO rw4
    have b8 : 0 ≤ x8.toInt ∧ x8.toInt < 2000 := by have z := h20; have z1 := z.2; omega
    obtain ⟨y1, y2⟩ := g210 hT hm b8 h24 (by decide)
    rw [show Int32.toInt 0 = 0 from by decide] at y2
    have k8 := er_kd hT k1 (show x8.toInt.toNat < 2000 by omega)
    have fa := h29
    rw [h26] at fa
    have pa := h27
    rw [h26] at pa
    have pb := h30
    rw [h26] at pb
    have fr1 : ∀ b, b ∈ P → b ≠ γ 11 x8.toInt.toNat → x13 b = x4 b := fun b hb hne => (fa b hb (nm_c hne nm_n)).trans (y1 b hne)
    have c0 : ∀ k : Nat, k < 2048 → (egS γ x13 x8.toInt.toNat k = true ↔ (egS γ x4 x8.toInt.toNat k = true ∨ nwL γ x4 k = true) ∧ (k : Int) ≠ x8.toInt) := fun k hk => by
      have e1 := y2 k hk
      unfold egS at e1 ⊢
      rw [cL_of pa] at e1
      rw [cL_of pb, cl_tr h28 (by omega) k, Bool.and_eq_true, Bool.not_eq_true', decide_eq_false_iff_not, e1]
      exact and_congr_left (fun _ => or_congr_right ⟨fun z => z.2, fun z => ⟨by omega, z⟩⟩)
    have hre : x13 x2 = F x2 := (fr1 _ (hT.1 _ (by omega)) (fun e => by rw [← e, kx2] at k8; exact absurd k8.1 (by decide))).trans er4
    have h93 : x14 (γ 9 3) = x4 (γ 9 3) := (h35).trans (fr1 _ (hT.1 _ (by omega)) (fun e => by rw [← e, k3] at k8; exact absurd k8.1 (by decide)))
    have hst1 := st_v hT hm hst
    have hot := hed_ot hT hm (show x8.toInt.toNat < 2000 by omega) fr1
    refine g109_9 (Fe := x13) hT hm hq hO hi h50 (by omega) ex2 hre er2 hst hsd h93 ⟨fun n k hn hnn hk => ?_, hot.2.1, hot.2.2⟩ (bk39 h31 hm kx2 ha h36) h37 ih
    by_cases en : n = x8.toInt.toNat
    · have e00 : egS γ x4 x8.toInt.toNat x8.toInt.toNat = false := by rw [hst1.1 _ _ (by omega), ← en]; exact hnn
      have s1 : seR true (Q.2.2.1 i l5_2.toInt.toNat) n := (se n).mpr (by omega)
      rw [en, c0 k hk, ← en]
      constructor
      · rintro ⟨z | z, w⟩
        · exact Or.inl z
        · exact Or.inr ⟨s1, z, by omega⟩
      · rintro (z | ⟨-, z, w⟩)
        · refine ⟨Or.inl z, fun q => ?_⟩
          rw [show k = x8.toInt.toNat by omega, en, e00] at z
          cases z
        · exact ⟨Or.inr z, by omega⟩
    · rw [hot.1 n k hn en]
      refine ⟨Or.inl, fun z => z.elim id (fun w => ?_)⟩
      have w1 := (se n).mp w.1
      exact absurd (by omega) en
  · intro F_2 l5_2 x1 x2 x3 x4 x5 x6 x7 x8 x9 x10 k e1 h1 h2 h3 h4 h5 h6 h7 h8 h9 h10 h11 h12 h13 h14 h15 h16 h17 h18 h19 h20 h21 h22 h23 h24 h25 h26 h27 h28 h29 h30 ih
    omega
  · intro F_2 l5_2 x1 x2 x3 x4 x5 x6 x7 x8 x9 x10 x11 x12 x13 x14 x15 k e1 h1 h2 h3 h4 h5 h6 h7 h8 h9 h10 h11 h12 h13 h14 h15 h16 h17 h18 h19 h20 h21 h22 h23 h24 h25 h26 h27 h28 h29 h30 h31 h32 h33 h34 h35 h36 h37 h38 ih
    omega
  · intro F_2 l5_2 x1 x2 x3 x4 x5 x6 x7 x8 x9 x10 x11 k e1 h1 h2 h3 h4 h5 h6 h7 h8 h9 h10 h11 h12 h13 h14 h15 h16 h17 h18 h19 h20 h21 h22 h23 h24 h25 h26 h27 h28 h29 h30 h31 h32 ih
    omega
  · intro F_2 l5_2 x1 x2 x3 x4 x5 x6 x7 x8 x9 x10 x11 x12 x13 x14 x15 x16 k e1 h1 h2 h3 h4 h5 h6 h7 h8 h9 h10 h11 h12 h13 h14 h15 h16 h17 h18 h19 h20 h21 h22 h23 h24 h25 h26 h27 h28 h29 h30 h31 h32 h33 h34 h35 h36 h37 h38 h39 h40 ih
    omega
  · intro F_2 l5_2 x1 x2 x3 x4 x5 x6 x7 x8 x9 x10 x11 k e1 h1 h2 h3 h4 h5 h6 h7 h8 h9 h10 h11 h12 h13 h14 h15 h16 h17 h18 h19 h20 h21 h22 h23 h24 h25 h26 h27 h28 h29 h30 h31 h32 ih
    omega
  · intro F_2 l5_2 x1 x2 x3 x4 x5 x6 x7 x8 x9 x10 x11 x12 x13 x14 x15 x16 x17 k e1 h1 h2 h3 h4 h5 h6 h7 h8 h9 h10 h11 h12 h13 h14 h15 h16 h17 h18 h19 h20 h21 h22 h23 h24 h25 h26 h27 h28 h29 h30 h31 h32 h33 h34 h35 h36 h37 h38 h39 h40 h41 h42 ih
    omega
  · intro F_2 l5_2 x1 x2 x3 x4 x5 x6 x7 x8 x9 x10 x11 x12 x13 x14 x15 x16 x17 x18 x19 x20 x21 x22 x23 k e1 h1 h2 h3 h4 h5 h6 h7 h8 h9 h10 h11 h12 h13 h14 h15 h16 h17 h18 h19 h20 h21 h22 h23 h24 h25 h26 h27 h28 h29 h30 h31 h32 h33 h34 h35 h36 h37 h38 h39 h40 h41 h42 h43 h44 h45 h46 h47 h48 h49 h50 h51 h52 h53 ih
    omega
  · intro F_2 l5_2 x1 x2 x3 x4 x5 x6 x7 x8 x9 x10 x11 x12 x13 x14 x15 x16 x17 x18 x19 k e1 h1 h2 h3 h4 h5 h6 h7 h8 h9 h10 h11 h12 h13 h14 h15 h16 h17 h18 h19 h20 h21 h22 h23 h24 h25 h26 h27 h28 h29 h30 h31 h32 h33 h34 h35 h36 h37 h38 h39 h40 h41 h42 h43 h44 h45 h46 ih
    omega
def gHh9 (γ : Nat → Nat → Nat) (Q : gPg) (Fh : Nat → va_E) (b : Int) : Prop := (∀ i k, i < Q.1 → k < 2048 → (lvS γ Fh i k = true ↔ Lv Q true k i 0)) ∧ (∀ n k, n < 2000 → k < 2048 → (egS γ Fh n k = true ↔ ∃ c j : Nat, (c : Int) < b ∧ c < Q.1 ∧ j < Q.2.1 c ∧ jd9 Q c j n k)) ∧ ∀ c j : Nat, (c : Int) < b → c < Q.1 → j < Q.2.1 c → ∀ v, v < 2000 → usR true (Q.2.2.1 c j) v ∨ seR true (Q.2.2.1 c j) v → rSd (cB (Fh (γ 9 3))) v
theorem ed_no {l : Nat → Int} {g h : Int} {v : Nat} (hG : edG (l 0) g h) (hu : usR true l v ∨ seR true l v) : False := by
  unfold usR seR at hu
  rw [if_pos rfl, if_pos rfl] at hu
  unfold edG at hG
  omega
theorem g569 {s1 e1 : Nat → va_E} {s2 : Int32} {kx : Nat} (hT : RS D I P F γ el) (hm : γ 0 q0 = 10) (hc9 : γ 0 q1 = 9) (hq : rfW γ el F q1 Q) (hO : qOk Q) (hQ4 : Q.1 ≤ 40) (hB2 : ∀ i, i < Q.1 → γ 0 (el (γ 14 q1) i) = 2) (ha : a2.toInt = 1) (h : tl_RModel_graph_56 D I γ el P F a2 q1 q0 s1 s2 kx e1) : 0 ≤ s2.toInt → gHh9 γ Q s1 s2.toInt → gHh9 γ Q e1 (Q.1 : Int) := by
  obtain ⟨k0, k1, k2, k3⟩ := md_kd hT hm
  obtain ⟨lb, lr, rn, md, z1, ⟨z2, z3, z4⟩, -⟩ := show rk_9 γ el q1 (F q1) from RS_o hT hc9
  refine h (fun s1 s2 _ e1 => 0 ≤ s2.toInt → gHh9 γ Q s1 s2.toInt → gHh9 γ Q e1 (Q.1 : Int)) ?_ ?_
  · intro F_1 l3_1 x1 h1 h2 h3 h4 h5 h6 h7
    intro h0 hH
    have e1 : x1.toInt = (Q.1 : Int) := by rw [← h6, rs0 h3 hc9 (by decide)]; exact hq.1
    have hle := h7
    refine ⟨hH.1, fun n k hn hk => ?_, fun c j _ w2 => hH.2.2 c j (by omega) w2⟩
    rw [hH.2.1 n k hn hk]
    exact ⟨fun ⟨c, j, w1, w2, w3⟩ => ⟨c, j, by omega, w2, w3⟩, fun ⟨c, j, w1, w2, w3⟩ => ⟨c, j, by omega, w2, w3⟩⟩
  · intro F_1 l3_1 x1 x2 x3 x4 x5 x6 x7 x8 x9 x10 x11 x12 x13 k e1 h1 h2 h3 h4 h5 h6 h7 h8 h9 h10 h11 h12 h13 h14 h15 h16 h17 h18 h19 h20 h21 h22 h23 h24 h25 h26 h27 h28 h29 h30 h31 h32 h33 h34 ih
    intro h0 hH
    have hs := h3
    have eq1 := rs0 hs hc9 (by decide)
    have e1 : x1.toInt = (Q.1 : Int) := by rw [← h6, eq1]; exact hq.1
    have hlt := h7
    have hi : l3_1.toInt.toNat < Q.1 := by omega
    have ex2 : x2 = γ 14 q1 := by rw [← h8, eq1, z1, z2]; rfl
    have ex3 : x3 = el (γ 14 q1) l3_1.toInt.toNat := by rw [h9, ex2]
    have hB := hB2 _ hi
    rw [← ex3] at hB
    have hT1 := h2
    obtain ⟨l, nn, p, s, v1, ⟨g1, g2, g3⟩, v3, v4, v5, -⟩ := show rk_2 γ x3 (F x3) from RS_o hT hB
    have eB : F_1 x3 = F x3 := rs0 hs hB (by decide)
    have k15 : γ 0 (γ 15 x3) = 1 := by rw [g2]; exact v5
    have eE : F_1 (γ 15 x3) = F (γ 15 x3) := rs0 hs k15 (by decide)
    have m := qR_m hq hi
    obtain ⟨b1, b2⟩ := bh3 hT1 hm hB (fun F1 hF => ⟨rs0 hF hB (by decide), rs0 hF k15 (by decide)⟩) h16
    have n5 : ∀ k, k < 2048 → (nwL γ x5 k = true ↔ Lv Q true k l3_1.toInt.toNat (Q.2.1 l3_1.toInt.toNat)) := fun k hk => by
      rw [b1 k hk, eB, eE, ex3, qbh hq hO hi, Lv_out hi]
      exact ⟨fun z => goX_mo (fun g hg w => (hH.1 g k hg hk).mp w) z, fun z => goX_mo (fun g hg w => (hH.1 g k hg hk).mpr w) z⟩
    have s5 := h13
    have e5B : x5 x3 = F x3 := (b2 _ (fun e => by rw [e, k2] at hB; cases hB)).trans eB
    have e6 : x6 = γ 15 x3 := by rw [← h17, e5B, v1, g2]; rfl
    have hst := st2 h22
    have hsd := std9 (by rw [e6, b2 _ (fun e => by rw [e, k2] at k15; cases k15), eE]; exact rs_b9 hT k15) ha h22
    have e7 : x7 x6 = F (γ 15 x3) := by
      rw [e6, hst _ (fun e => by rw [e, k3] at k15; cases k15), b2 _ (fun e => by rw [e, k2] at k15; cases k15)]
      exact eE
    obtain ⟨s1, s2, s3⟩ := st_v hT hm hst
    obtain ⟨c1, c2⟩ := bk39 h18 hm (by rw [e6]; exact k15) ha h28
    obtain ⟨d1, d2⟩ := bk_v hT hm c2
    obtain ⟨f1, f2⟩ := bk_v hT hm (fun b _ hb => b2 b hb)
    have n8 : ∀ k, k < 2048 → (nwL γ x8 k = true ↔ Lv Q true k l3_1.toInt.toNat (Q.2.1 l3_1.toInt.toNat - 1)) := fun k hk => by
      rw [c1 k, e7, ex3, qend9 hq hO hi, s2 k, n5 k hk, Lv_row (j := Q.2.1 l3_1.toInt.toNat - 1) hi (by omega), show Q.2.1 l3_1.toInt.toNat - 1 + 1 = Q.2.1 l3_1.toInt.toNat by omega]
      exact or_congr_right ⟨fun z => ⟨z.2, z.1⟩, fun z => ⟨z.2, z.1⟩⟩
    have e8 : ∀ n k, n < 2000 → egS γ x8 n k = egS γ F_1 n k := fun n k hn => by rw [d1 n k hn, s1 n k hn, f1 n k hn]
    have l8 : ∀ i k, i < 40 → lvS γ x8 i k = lvS γ F_1 i k := fun i k hi => by rw [d2 i k hi, s3 i k hi, f2 i k hi]
    have e9 : x9 = γ 14 x3 := by
      have q : x8 x3 = F x3 := (c2 _ (hT.1 _ (by omega)) (fun e => by rw [e, k2] at hB; cases hB)).trans ((hst _ (fun e => by rw [e, k3] at hB; cases hB)).trans e5B)
      rw [← h29, q, v1, g1]
      rfl
    have e11 : x11.toInt + 1 = (γ 2 (γ 14 (el (γ 14 q1) l3_1.toInt.toNat)) : Int) := by
      rw [← ex3, ← e9]
      omega
    obtain ⟨ww, wm, wu⟩ := g1099 hT hm hq hO hi (hB2 _ hi) ex3 ha h33
    obtain ⟨w1, w2⟩ := ww (fun k hk => by
      rw [n8 k hk, show (x11.toInt + 1).toNat = Q.2.1 l3_1.toInt.toNat - 1 by omega]) (fun n hn => by
      rw [e8 n n hn, ← Bool.not_eq_true, hH.2.1 n n hn (by omega)]
      rintro ⟨c, j, -, -, -, w⟩
      exact w.2.2 rfl)
    have hG := (qB hO hi).2.2
    refine ih (by omega) ⟨fun i k hi' hk => ?_, fun n k hn hk => ?_, fun c j u1 u2 u3 v hv hu => ?_⟩
    · rw [w1 i k (by omega), l8 i k (by omega)]
      exact hH.1 i k hi' hk
    · rw [w2 n k hn hk, e8 n k hn, hH.2.1 n k hn hk]
      constructor
      · rintro (⟨c, j, u1, u2, u3⟩ | ⟨j, u1, u2⟩)
        · exact ⟨c, j, by omega, u2, u3⟩
        · exact ⟨_, j, by omega, hi, by omega, u2⟩
      · rintro ⟨c, j, u1, u2, u3, u4⟩
        by_cases e : c = l3_1.toInt.toNat
        · subst e
          by_cases e2 : j + 1 = Q.2.1 l3_1.toInt.toNat
          · exfalso
            have y := u4.1
            rw [show j = Q.2.1 l3_1.toInt.toNat - 1 by omega] at y
            exact ed_no hG (Or.inr y)
          · exact Or.inr ⟨j, by omega, u4⟩
        · exact Or.inl ⟨c, j, by omega, u2, u3, u4⟩
    · by_cases e : c = l3_1.toInt.toNat
      · subst e
        by_cases e2 : j + 1 = Q.2.1 l3_1.toInt.toNat
        · rw [show j = Q.2.1 l3_1.toInt.toNat - 1 by omega] at hu
          exact (ed_no hG hu).elim
        · exact wu j (by omega) v hv hu
      · refine wm v ?_
        have h5 := hH.2.2 c j (by omega) u2 u3 v hv hu
        rw [← h15] at h5
        rw [h27]
        exact hsd.1 v h5
theorem g2989 {E : Nat → Nat → Prop} {s1 e1 : Nat → va_E} {s2 : Int32} {kx : Nat} (hT : RS D I P F γ el) (hm : γ 0 q0 = 10) (h : tl_RModel_graph_298 D I γ el P F a2 q1 q0 s1 s2 kx e1) : 0 ≤ s2.toInt → gIv γ E s1 → (∀ m n : Nat, m < 2000 → E m n → rSd (cB (s1 (γ 9 3))) m) → (∀ m n : Nat, (m : Int) < s2.toInt → m < 2000 → n < 2000 → E m n → egS γ s1 n m = true) → (gIv γ E e1 ∧ ∀ m n : Nat, m < 2000 → n < 2000 → E m n → egS γ e1 n m = true) ∧ e1 (γ 9 3) = s1 (γ 9 3) := by
  refine h (fun s1 s2 _ e1 => 0 ≤ s2.toInt → gIv γ E s1 → (∀ m n : Nat, m < 2000 → E m n → rSd (cB (s1 (γ 9 3))) m) → (∀ m n : Nat, (m : Int) < s2.toInt → m < 2000 → n < 2000 → E m n → egS γ s1 n m = true) → (gIv γ E e1 ∧ ∀ m n : Nat, m < 2000 → n < 2000 → E m n → egS γ e1 n m = true) ∧ e1 (γ 9 3) = s1 (γ 9 3)) ?_ ?_ ?_
  · intro F_1 l3_1 h1 h2 h3 h4 h5 h6
    intro h0 hI hS hD
    exact ⟨⟨hI, fun m n hm hn z => hD m n (by have := h6; omega) hm hn z⟩, rfl⟩
  · intro F_1 l3_1 x1 x2 x3 x4 k e1 h1 h2 h3 h4 h5 h6 h7 h8 h9 h10 h11 h12 h13 ih
    intro h0 hI hS hD
    have hlt := h6
    obtain ⟨y1, y2, y3, y4⟩ := g320 hT hm ⟨h0, hlt⟩ h12 (by decide) hI
    rw [show Int32.toInt 0 = 0 from by decide] at y3
    obtain ⟨i1, i2⟩ := ih (by omega) y1 (fun m n hm hE => by rw [y4]; exact hS m n hm hE) (fun m n hm hm2 hn z => by
      by_cases e : m = l3_1.toInt.toNat
      · rw [e]
        exact y3 n hn (by omega) (by rw [← e]; exact z)
      · exact y2 n m hn hm2 (hD m n (by omega) hm2 hn z))
    exact ⟨i1, i2.trans y4⟩
  · intro F_1 l3_1 x1 x2 x3 k e1 h1 h2 h3 h4 h5 h6 h7 h8 h9 h10 h11 h12 ih
    intro h0 hI hS hD
    have hlt := h6
    refine ih (by omega) hI hS (fun m n hm hm2 hn z => ?_)
    by_cases e : m = l3_1.toInt.toNat
    · exfalso
      have w2 := (hS m n hm2 z).2
      rw [cB_of h8] at w2
      have hz : (l3_1.toNatClampNeg : Int) = l3_1.toInt := g_nn h0
      rw [show m = l3_1.toNatClampNeg by omega, ← h9] at w2
      have w3 := h11
      omega
    · exact hD m n (by omega) hm2 hn z
/-- one way -/
def J19 (Q : gPg) (n k : Nat) : Prop := ∃ c j : Nat, c < Q.1 ∧ j < Q.2.1 c ∧ jd9 Q c j n k
/-- the graph of slots: the edges, both ways, and what stands -/
theorem gr_tr9 (hT : RS D I P F γ el) (hm : γ 0 q0 = 10) (hc9 : γ 0 q1 = 9) (hq : rfW γ el F q1 Q) (hO : qOk Q) (hQ4 : Q.1 ≤ 40) (hQ6 : γ 6 (γ 1 q1) = Q.1) (hB2 : ∀ i, i < Q.1 → γ 0 (el (γ 14 q1) i) = 2) (ha : a2.toInt = 1) (h : tr_RModel_graph D I γ el P F q0 q1 a2 F1) : (∀ n k, n < 2000 → k < 2000 → (egS γ F1 n k = true ↔ Jn Q true 2000 n k)) ∧ ∀ v, Sd Q true 2000 v → rSd (cB (F1 (γ 9 3))) v := by
  refine h (fun F1 => (∀ n k, n < 2000 → k < 2000 → (egS γ F1 n k = true ↔ Jn Q true 2000 n k)) ∧ ∀ v, Sd Q true 2000 v → rSd (cB (F1 (γ 9 3))) v) ?_
  · intro x1 x2 x3 x4 h1 h2 h3 h4 h5 h6 h7
    have l1 := fl_tr9 ha hq hO hQ4 hQ6 (fun F1 hF => rs0 hF hc9 (by decide)) h4
    obtain ⟨z1, z2⟩ := g8 hT hm h5 (fun n hn => by rw [show Int32.toInt 0 = 0 from by decide] at hn; omega)
    have hH := g569 hT hm hc9 hq hO hQ4 hB2 ha h6 (by decide) ⟨fun i k hi hk => by rw [z2 i k (by omega)]; exact l1 i k hi hk, fun n k hn hk => by
      rw [show egS γ x2 n k = false from rbt_z (z1 n hn (k / 64) (by omega)), show Int32.toInt 0 = 0 from by decide]
      exact ⟨fun z => (nomatch z), fun ⟨c, j, w, _⟩ => absurd w (by omega)⟩, fun c j w => absurd w (by rw [show Int32.toInt 0 = 0 from by decide]; omega)⟩
    have hE : ∀ n k, n < 2000 → k < 2000 → (egS γ x3 n k = true ↔ J19 Q n k) := fun n k hn hk => by
      rw [hH.2.1 n k hn (by omega)]
      exact ⟨fun ⟨c, j, w1, w2, w3⟩ => ⟨c, j, w2, w3⟩, fun ⟨c, j, w2, w3⟩ => ⟨c, j, by omega, w2, w3⟩⟩
    obtain ⟨⟨i1, i2⟩, i3⟩ := g2989 (E := J19 Q) hT hm h7 (by decide) ⟨fun n k hn hk z => (hE n k hn hk).mpr z, fun n k hn hk z => Or.inl ((hE n k hn hk).mp z)⟩ (fun m n hm ⟨c, j, w1, w2, w3⟩ => hH.2.2 c j (by omega) w1 w2 m hm (Or.inr w3.1)) (fun m n hm => by rw [show Int32.toInt 0 = 0 from by decide] at hm; omega)
    refine ⟨fun n k hn hk => ?_, fun v ⟨hv, c, j, w1, w2, w3⟩ => by rw [i3]; exact hH.2.2 c j (by omega) w1 w2 v hv w3⟩
    constructor
    · intro z
      rcases i1.2 n k hn hk z with ⟨c, j, w1, w2, w3, w4, w5⟩ | ⟨c, j, w1, w2, w3, w4, w5⟩
      · exact ⟨c, j, w1, w2, Or.inl ⟨hn, hk, w3, w4, w5, fun y => Bool.noConfusion y.1⟩⟩
      · exact ⟨c, j, w1, w2, Or.inr ⟨hk, hn, w3, w4, w5, fun y => Bool.noConfusion y.1⟩⟩
    · rintro ⟨c, j, w1, w2, ⟨-, -, w3, w4, w5, -⟩ | ⟨-, -, w3, w4, w5, -⟩⟩
      · exact i1.1 n k hn hk ⟨c, j, w1, w2, w3, w4, w5⟩
      · exact i2 k n hk hn ⟨c, j, w1, w2, w3, w4, w5⟩
end GS9
