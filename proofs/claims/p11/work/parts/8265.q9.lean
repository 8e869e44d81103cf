/-! what the model's methods keep of its cell -/
section Q9
variable {D : va_G} {I : FieldType → ClassId} {P : List Nat} {F : Nat → va_E} {γ el : Nat → Nat → Nat} {q0 : Nat}
/-- INPUT's array and the latest RUN -/
def kq9 (γ : Nat → Nat → Nat) (e e1 : va_E) : Prop := isMd γ e1 ∧ ((fR e1 28, fI e1 34), fI e1 23, fI e1 24, fI e1 25, fI e1 26, fI e1 27) = ((fR e 28, fI e 34), fI e 23, fI e 24, fI e 25, fI e 26, fI e 27)
theorem kq9_r {e : va_E} (h : isMd γ e) : kq9 γ e e := ⟨h, rfl⟩
theorem kq9_t {e e1 e2 : va_E} (h : kq9 γ e e1) (g : kq9 γ e1 e2) : kq9 γ e e2 := ⟨g.1, g.2.trans h.2⟩
theorem kq9_e {e e1 e2 : va_E} (h : kq9 γ e e1) (g : e2 = e1) : kq9 γ e e2 := by rw [g]; exact h
theorem kq9_28 {e e1 : va_E} (h : kq9 γ e e1) : fR e1 28 = fR e 28 := congrArg (fun z => z.1.1) h.2
theorem kq9_30 {e e1 e2 : va_E} {y : Int32} (h : kq9 γ e e1) (he : e2 = cF e1 30 (.int y)) : kq9 γ e e2 := by
  refine kq9_t h ?_
  obtain ⟨r28, r35, v9, v10, v11, v12, v13, v14, v23, v24, v25, v26, v27, v30, v32, v33, v34, h0⟩ := h.1
  have h1 : e2 = mdE γ r28 r35 v9 v10 v11 v12 v13 v14 v23 v24 v25 v26 v27 y v32 v33 v34 := by rw [he, h0]; rfl
  rw [h1, h0]
  exact ⟨⟨_, _, _, _, _, _, _, _, _, _, _, _, _, _, _, _, _, rfl⟩, rfl⟩
theorem kq9_32 {e e1 e2 : va_E} {y : Int32} (h : kq9 γ e e1) (he : e2 = cF e1 32 (.int y)) : kq9 γ e e2 := by
  refine kq9_t h ?_
  obtain ⟨r28, r35, v9, v10, v11, v12, v13, v14, v23, v24, v25, v26, v27, v30, v32, v33, v34, h0⟩ := h.1
  have h1 : e2 = mdE γ r28 r35 v9 v10 v11 v12 v13 v14 v23 v24 v25 v26 v27 v30 y v33 v34 := by rw [he, h0]; rfl
  rw [h1, h0]
  exact ⟨⟨_, _, _, _, _, _, _, _, _, _, _, _, _, _, _, _, _, rfl⟩, rfl⟩
theorem no9 {a1 : Int32} {o1 : Nat → va_E} (h : tr_RModel_no D I γ el F q0 a1 o1) : o1 q0 = cF (F q0) 30 (.int a1) := by
  refine h (fun o1 => o1 q0 = cF (F q0) 30 (.int a1)) ?_
  · intro x1 h1 h2
    exact h2
theorem wd2_9 {a2 : Int32} {a1 : Int32} {s1 : Nat → va_E} {s2 : Int32} {k : Nat} {e1 : Nat → va_E} (h : tl_RModel_word_2 D I γ el P F q0 a2 a1 s1 s2 k e1) : ∀ b, b ≠ γ 9 31 → e1 b = s1 b := by
  refine h (fun s1 s2 _ e1 => ∀ b, b ≠ γ 9 31 → e1 b = s1 b) ?_ ?_
  · intro F_1 l3_1 h1 h2 h3 h4 h5 h6 h7 h8
    exact fun _ _ => rfl
  · intro F_1 l3_1 x1 x2 x3 x4 x5 x6 x7 x8 x9 k e1 h1 h2 h3 h4 h5 h6 h7 h8 h9 h10 h11 h12 h13 h14 h15 h16 h17 h18 h19 ih
    exact fun b hb => (ih b hb).trans (h17 b hb)
theorem wd_9 {a1 : Int32} {a2 : Int32} {o1 : Nat → va_E} (h : tr_RModel_word D I γ el P F q0 a1 a2 o1) : ∀ b, b ≠ γ 9 31 → o1 b = F b := by
  refine h (fun o1 => ∀ b, b ≠ γ 9 31 → o1 b = F b) ?_
  · intro x1 h1
    exact wd2_9 h1
theorem told_9 {a1 : Int32} {o1 : Int32} {o2 : Nat → va_E} (hM : isMd γ (F q0)) (n31 : q0 ≠ γ 9 31) (h : tr_RModel_told D I γ el P F q0 a1 o1 o2) : kq9 γ (F q0) (o2 q0) := by
  refine h (fun o1 o2 => kq9 γ (F q0) (o2 q0)) ?_ ?_ ?_ ?_ ?_ ?_ ?_
  · intro x1 x2 h1 h2 h3 h4 h5
    exact (kq9_30 (kq9_r hM) h2)
  · intro x1 x2 x3 h1 h2 h3 h4 h5 h6
    exact (kq9_30 (kq9_r hM) h2)
  · intro x1 x2 h1 h2 h3 h4
    exact (kq9_30 (kq9_r hM) h2)
  · intro x1 x2 h1 h2 h3 h4
    exact (kq9_30 (kq9_r hM) h2)
  · intro x1 x2 h1 h2 h3 h4
    exact (kq9_30 (kq9_r hM) h2)
  · intro x1 x2 h1 h2 h3 h4
    exact (kq9_30 (kq9_r hM) h2)
  · intro x1 x2 h1 h2 h3 h4 h5 h6 h7 h8 h9 h10 h11 h12 h13 h14
    exact (kq9_30 (kq9_30 (kq9_r hM) h2) (no9 h14))
theorem shown_9 {a1 : Int32} {o1 : Int32} {o2 : Nat → va_E} (hM : isMd γ (F q0)) (n31 : q0 ≠ γ 9 31) (h : tr_RModel_shown D I γ el P F q0 a1 o1 o2) : kq9 γ (F q0) (o2 q0) := by
  refine h (fun o1 o2 => kq9 γ (F q0) (o2 q0)) ?_ ?_ ?_
  · intro x1 x2 h1 h2 h3 h4 h5 h6 h7 h8 h9 h10
    exact (kq9_30 (kq9_30 (kq9_r hM) h2) (no9 h10))
  · intro x1 x2 x3 h1 h2 h3 h4 h5 h6 h7 h8 h9 h10 h11 h12
    exact (kq9_30 (kq9_30 (kq9_r hM) h2) (no9 h12))
  · intro x1 x2 x3 x4 h1 h2 h3 h4 h5 h6 h7 h8
    exact (kq9_30 (kq9_r hM) h2)
theorem word_9 {a1 : Int32} {o1 : Int64} {o2 : Nat → va_E} (hM : isMd γ (F q0)) (n31 : q0 ≠ γ 9 31) (h : tr_RModel_word2 D I γ el P F q0 a1 o1 o2) : kq9 γ (F q0) (o2 q0) := by
  refine h (fun o1 o2 => kq9 γ (F q0) (o2 q0)) ?_ ?_ ?_
  · intro x1 x2 x3 h1 h2 h3 h4 h5 h6 h7 h8 h9 h10 h11
    exact (kq9_30 (kq9_30 (kq9_r hM) h2) (no9 h10))
  · intro x1 x2 x3 h1 h2 h3 h4 h5 h6
    exact (kq9_30 (kq9_r hM) h2)
  · intro x1 x2 x3 x4 h1 h2 h3 h4 h5 h6 h7 h8 h9 h10 h11 h12 h13
    exact (kq9_30 (kq9_30 (kq9_r hM) h2) (no9 h12))
theorem count_9 {a1 : Int32} {o1 : Int32} {o2 : Nat → va_E} (hM : isMd γ (F q0)) (n31 : q0 ≠ γ 9 31) (h : tr_RModel_count2 D I γ el P F q0 a1 o1 o2) : kq9 γ (F q0) (o2 q0) := by
  refine h (fun o1 o2 => kq9 γ (F q0) (o2 q0)) ?_ ?_ ?_ ?_ ?_ ?_ ?_ ?_ ?_ ?_ ?_ ?_ ?_ ?_ ?_ ?_ ?_ ?_ ?_ ?_ ?_ ?_
  · intro x1 x2 h1 h2 h3 h4 h5
    exact (kq9_30 (kq9_r hM) h2)
  · intro x1 x2 x3 h1 h2 h3 h4 h5 h6 h7
    exact (kq9_30 (kq9_r hM) h2)
  · intro x1 x2 h1 h2 h3 h4 h5
    exact (kq9_30 (kq9_r hM) h2)
  · intro x1 x2 x3 h1 h2 h3 h4 h5 h6 h7
    exact (kq9_30 (kq9_r hM) h2)
  · intro x1 x2 h1 h2 h3 h4
    exact (kq9_30 (kq9_r hM) h2)
  · intro x1 x2 h1 h2 h3 h4
    exact (kq9_30 (kq9_r hM) h2)
  · intro x1 x2 h1 h2 h3 h4
    exact (kq9_30 (kq9_r hM) h2)
  · intro x1 x2 h1 h2 h3 h4 h5
    exact (kq9_30 (kq9_r hM) h2)
  · intro x1 x2 x3 h1 h2 h3 h4 h5 h6 h7
    exact (kq9_30 (kq9_r hM) h2)
  · intro x1 x2 h1 h2 h3 h4 h5
    exact (kq9_30 (kq9_r hM) h2)
  · intro x1 x2 x3 x4 h1 h2 h3 h4 h5 h6 h7 h8 h9
    exact (kq9_e (kq9_30 (kq9_r hM) h2) h8)
  · intro x1 x2 h1 h2 h3 h4 h5
    exact (kq9_30 (kq9_r hM) h2)
  · intro x1 x2 x3 h1 h2 h3 h4 h5 h6
    exact (kq9_30 (kq9_r hM) h2)
  · intro x1 x2 h1 h2 h3 h4 h5
    exact (kq9_30 (kq9_r hM) h2)
  · intro x1 x2 x3 h1 h2 h3 h4 h5 h6
    exact (kq9_30 (kq9_r hM) h2)
  · intro x1 x2 h1 h2 h3 h4 h5
    exact (kq9_30 (kq9_r hM) h2)
  · intro x1 x2 x3 h1 h2 h3 h4 h5 h6
    exact (kq9_30 (kq9_r hM) h2)
  · intro x1 x2 h1 h2 h3 h4 h5
    exact (kq9_30 (kq9_r hM) h2)
  · intro x1 x2 x3 h1 h2 h3 h4 h5 h6 h7
    exact (kq9_30 (kq9_r hM) h2)
  · intro x1 x2 h1 h2 h3 h4 h5
    exact (kq9_30 (kq9_r hM) h2)
  · intro x1 x2 x3 h1 h2 h3 h4 h5 h6 h7
    exact (kq9_30 (kq9_r hM) h2)
  · intro x1 x2 h1 h2 h3 h4 h5 h6 h7 h8 h9 h10 h11 h12 h13 h14 h15 h16 h17 h18 h19 h20 h21
    exact (kq9_30 (kq9_30 (kq9_r hM) h2) (no9 h21))
theorem end_9 {a1 : Int32} {o1 : Int32} {o2 : Nat → va_E} (hM : isMd γ (F q0)) (n31 : q0 ≠ γ 9 31) (h : tr_RModel_end D I γ el P F q0 a1 o1 o2) : kq9 γ (F q0) (o2 q0) := by
  refine h (fun o1 o2 => kq9 γ (F q0) (o2 q0)) ?_ ?_ ?_
  · intro x1 x2 h1 h2 h3 h4 h5 h6 h7 h8 h9 h10
    exact (kq9_30 (kq9_30 (kq9_r hM) h2) (no9 h10))
  · intro x1 x2 x3 h1 h2 h3 h4 h5 h6 h7
    exact (kq9_32 (kq9_30 (kq9_r hM) h2) h7)
  · intro x1 x2 x3 h1 h2 h3 h4 h5 h6 h7 h8 h9 h10 h11 h12
    exact (kq9_30 (kq9_30 (kq9_r hM) h2) (no9 h12))
theorem feed_9 {a1 : Int32} {a2 : Int32} {a3 : Int32} {a4 : Int32} {a5 : Int32} {o1 : Int32} {o2 : Nat → va_E} (hM : isMd γ (F q0)) (n31 : q0 ≠ γ 9 31) (h : tr_RModel_feed D I γ el P F q0 a1 a2 a3 a4 a5 o1 o2) : kq9 γ (F q0) (o2 q0) := by
  refine h (fun o1 o2 => kq9 γ (F q0) (o2 q0)) ?_ ?_
  · intro x1 x2 x3 x4 x5 x6 x7 x8 x9 x10 x11 x12 x13 x14 x15 x16 x17 x18 x19 h1 h2 h3 h4 h5 h6 h7 h8 h9 h10 h11 h12 h13 h14 h15 h16 h17 h18 h19 h20 h21 h22 h23 h24 h25 h26 h27 h28 h29 h30 h31 h32 h33 h34 h35 h36 h37 h38 h39 h40 h41 h42 h43 h44 h45 h46 h47 h48 h49 h50 h51 h52 h53
    exact (kq9_32 (kq9_e (kq9_e (kq9_e (kq9_e (kq9_e (kq9_30 (kq9_r hM) h2) (wd_9 h12 _ n31)) (wd_9 h21 _ n31)) (wd_9 h30 _ n31)) (wd_9 h39 _ n31)) (wd_9 h48 _ n31)) h52)
  · intro x1 x2 x3 x4 h1 h2 h3 h4 h5 h6 h7 h8 h9 h10 h11 h12
    exact (kq9_30 (kq9_30 (kq9_r hM) h2) (no9 h12))
/-- told: the answer -/
def tdM (F : Nat → va_E) (m : Nat) (a1 z : Int32) (F1 : Nat → va_E) : Prop := ((a1.toInt < 0 ∨ 4 < a1.toInt) ∧ (fI (F1 m) 30).toInt = 1) ∨ ((fI (F1 m) 30).toInt = 0 ∧ ((a1.toInt = 0 ∧ (((fI (F m) 23).toInt ≠ 0 ∧ z = 0) ∨ ((fI (F m) 23).toInt = 0 ∧ z = fI (F m) 24))) ∨ (a1.toInt = 1 ∧ z = fI (F m) 25) ∨ (a1.toInt = 2 ∧ z = fI (F m) 26) ∨ (a1.toInt = 3 ∧ z = fI (F m) 27) ∨ (a1.toInt = 4 ∧ z = fI (F m) 23)))
theorem told_r {a1 : Int32} {o1 : Int32} {o2 : Nat → va_E} (hM : isMd γ (F q0)) (h : tr_RModel_told D I γ el P F q0 a1 o1 o2) : tdM F q0 a1 o1 o2 := by
  refine h (fun o1 o2 => tdM F q0 a1 o1 o2) ?_ ?_ ?_ ?_ ?_ ?_ ?_
  · intro x1 x2 h1 h2 h3 h4 h5
    obtain ⟨b30, b9, b10, b11, b23, b24, b25, b26, b27, b32, b34, br, bm⟩ := cm30 hM h2
    exact Or.inr ⟨by rw [b30]; decide, Or.inl ⟨h3, Or.inl ⟨by rw [← b23, h4]; exact h5, rfl⟩⟩⟩
  · intro x1 x2 x3 h1 h2 h3 h4 h5 h6
    obtain ⟨b30, b9, b10, b11, b23, b24, b25, b26, b27, b32, b34, br, bm⟩ := cm30 hM h2
    exact Or.inr ⟨by rw [b30]; decide, Or.inl ⟨h3, Or.inr ⟨by rw [← b23, h4]; exact h5, by rw [← b24]; exact h6.symm⟩⟩⟩
  · intro x1 x2 h1 h2 h3 h4
    obtain ⟨b30, b9, b10, b11, b23, b24, b25, b26, b27, b32, b34, br, bm⟩ := cm30 hM h2
    exact Or.inr ⟨by rw [b30]; decide, Or.inr (Or.inl ⟨h3, by rw [← b25]; exact h4.symm⟩)⟩
  · intro x1 x2 h1 h2 h3 h4
    obtain ⟨b30, b9, b10, b11, b23, b24, b25, b26, b27, b32, b34, br, bm⟩ := cm30 hM h2
    exact Or.inr ⟨by rw [b30]; decide, Or.inr (Or.inr (Or.inl ⟨h3, by rw [← b26]; exact h4.symm⟩))⟩
  · intro x1 x2 h1 h2 h3 h4
    obtain ⟨b30, b9, b10, b11, b23, b24, b25, b26, b27, b32, b34, br, bm⟩ := cm30 hM h2
    exact Or.inr ⟨by rw [b30]; decide, Or.inr (Or.inr (Or.inr (Or.inl ⟨h3, by rw [← b27]; exact h4.symm⟩)))⟩
  · intro x1 x2 h1 h2 h3 h4
    obtain ⟨b30, b9, b10, b11, b23, b24, b25, b26, b27, b32, b34, br, bm⟩ := cm30 hM h2
    exact Or.inr ⟨by rw [b30]; decide, Or.inr (Or.inr (Or.inr (Or.inr (⟨h3, by rw [← b23]; exact h4.symm⟩))))⟩
  · intro x1 x2 h1 h2 h3 h4 h5 h6 h7 h8 h9 h10 h11 h12 h13 h14
    exact Or.inl ⟨by omega, h13⟩
/-- shown: the answer -/
def shM (γ : Nat → Nat → Nat) (F : Nat → va_E) (m : Nat) (a1 z : Int32) (F1 : Nat → va_E) : Prop := ((a1.toInt < 0 ∨ (fI (F m) 25).toInt ≤ a1.toInt) ∧ (fI (F1 m) 30).toInt = 1) ∨ ((0 ≤ a1.toInt ∧ a1.toInt < (fI (F m) 25).toInt) ∧ (fI (F1 m) 30).toInt = 0 ∧ z = cB (F (γ 9 22)) a1.toInt.toNat)
theorem shn_r {a1 : Int32} {o1 : Int32} {o2 : Nat → va_E} (hM : isMd γ (F q0)) (n22 : γ 9 22 ≠ q0) (h : tr_RModel_shown D I γ el P F q0 a1 o1 o2) : shM γ F q0 a1 o1 o2 := by
  refine h (fun o1 o2 => shM γ F q0 a1 o1 o2) ?_ ?_ ?_
  · intro x1 x2 h1 h2 h3 h4 h5 h6 h7 h8 h9 h10
    obtain ⟨b30, b9, b10, b11, b23, b24, b25, b26, b27, b32, b34, br, bm⟩ := cm30 hM h2
    exact Or.inl ⟨Or.inl h3, h9⟩
  · intro x1 x2 x3 h1 h2 h3 h4 h5 h6 h7 h8 h9 h10 h11 h12
    obtain ⟨b30, b9, b10, b11, b23, b24, b25, b26, b27, b32, b34, br, bm⟩ := cm30 hM h2
    have e5 := h4
    rw [b25] at e5
    exact Or.inl ⟨Or.inr (by rw [e5]; exact h5), h11⟩
  · intro x1 x2 x3 x4 h1 h2 h3 h4 h5 h6 h7 h8
    obtain ⟨b30, b9, b10, b11, b23, b24, b25, b26, b27, b32, b34, br, bm⟩ := cm30 hM h2
    have e5 := h4
    rw [b25] at e5
    have ec : cB (F (γ 9 22)) = x3 := by rw [← h1 _ n22]; exact cB_of h7
    refine Or.inr ⟨⟨h3, by rw [e5]; exact h5⟩, by rw [b30]; decide, ?_⟩
    rw [ec]; exact h8
/-- word: the answer -/
def wdM (F : Nat → va_E) (m : Nat) (a1 : Int32) (z : Int64) (F1 : Nat → va_E) : Prop := ((a1.toInt < 0 ∨ (fI (F m) 34).toInt ≤ a1.toInt) ∧ (fI (F1 m) 30).toInt = 1) ∨ ((0 ≤ a1.toInt ∧ a1.toInt < (fI (F m) 34).toInt) ∧ (fI (F1 m) 30).toInt = 0 ∧ z = w8 (cB (F (fR (F m) 35))) (fI (F m) 34).toInt.toNat a1.toInt.toNat 8)
theorem w29_r {a1 : Int32} {c1 : Nat → va_E} {s1 : Int32} {s2 : Int64} {k : Nat} {e1 : Int64} (h : tl_RModel_word2_29 D I γ el a1 c1 q0 s1 s2 k e1) : ∀ i j n : Nat, a1.toInt = (i : Int) → (fI (c1 q0) 34).toInt = (n : Int) → j ≤ 8 → s1.toInt = (j : Int) → s2 = w8 (cB (c1 (fR (c1 q0) 35))) n i j → e1 = w8 (cB (c1 (fR (c1 q0) 35))) n i 8 := by
  refine h (fun s1 s2 _ e1 => ∀ i j n : Nat, a1.toInt = (i : Int) → (fI (c1 q0) 34).toInt = (n : Int) → j ≤ 8 → s1.toInt = (j : Int) → s2 = w8 (cB (c1 (fR (c1 q0) 35))) n i j → e1 = w8 (cB (c1 (fR (c1 q0) 35))) n i 8) ?_ ?_ ?_
  · intro l4_1 l2_1 h1 h2
    intro i j n hi hn hj hs hw
    have e : j = 8 := by omega
    rw [e] at hw
    exact hw
  · intro l4_1 l2_1 x1 x2 x3 x4 x5 x6 k e1 h1 h2 h3 h4 h5 h6 h7 h8 h9 ih
    intro i j n hi hn hj hs hw
    have e34 := h5
    rw [e34] at hn
    refine ih i (j + 1) n hi (by rw [e34]; exact hn) (by omega) (by omega) ?_
    show _ = w8 (cB (c1 (fR (c1 q0) 35))) n i j <<< ((8 : Int32).toInt64 &&& 63) ||| (if i + j < n then (cB (c1 (fR (c1 q0) 35)) (i + j) &&& 255).toInt64 else 0)
    rw [if_neg (by omega), h8, h3, hw, h7]; rfl
  · intro l4_1 l2_1 x1 x2 x3 x4 x5 x6 x7 x8 x9 x10 x11 x12 k e1 h1 h2 h3 h4 h5 h6 h7 h8 h9 h10 h11 h12 h13 h14 h15 ih
    intro i j n hi hn hj hs hw
    have e34 := h5
    rw [e34] at hn
    refine ih i (j + 1) n hi (by rw [e34]; exact hn) (by omega) (by omega) ?_
    show _ = w8 (cB (c1 (fR (c1 q0) 35))) n i j <<< ((8 : Int32).toInt64 &&& 63) ||| (if i + j < n then (cB (c1 (fR (c1 q0) 35)) (i + j) &&& 255).toInt64 else 0)
    have ec : cB (c1 (fR (c1 q0) 35)) = x6 := by rw [h7]; exact cB_of h9
    rw [if_pos (by omega), h14, h3, hw, h13, h12, h10, ec, nnE (show x5.toInt = ((i + j : Nat) : Int) by omega)]
theorem wrd_r {a1 : Int32} {o1 : Int64} {o2 : Nat → va_E} (hM : isMd γ (F q0)) (n35 : fR (F q0) 35 ≠ q0) (h : tr_RModel_word2 D I γ el P F q0 a1 o1 o2) : wdM F q0 a1 o1 o2 := by
  have r35 : ∀ {e1 : va_E} {y : Int32}, e1 = cF (F q0) 30 (.int y) → fR e1 35 = fR (F q0) 35 := fun he => by
    obtain ⟨r28, r35, v9, v10, v11, v12, v13, v14, v23, v24, v25, v26, v27, v30, v32, v33, v34, h0⟩ := hM
    rw [he, h0]; rfl
  refine h (fun o1 o2 => wdM F q0 a1 o1 o2) ?_ ?_ ?_
  · intro x1 x2 x3 h1 h2 h3 h4 h5 h6 h7 h8 h9 h10 h11
    obtain ⟨b30, b9, b10, b11, b23, b24, b25, b26, b27, b32, b34, br, bm⟩ := cm30 hM h2
    exact Or.inl ⟨Or.inl h3, h9⟩
  · intro x1 x2 x3 h1 h2 h3 h4 h5 h6
    obtain ⟨b30, b9, b10, b11, b23, b24, b25, b26, b27, b32, b34, br, bm⟩ := cm30 hM h2
    have e5 := h4
    have w := w29_r h6 a1.toInt.toNat 0 (fI (x1 q0) 34).toInt.toNat (by have := h3; omega) (by rw [e5]; have := h3; have := h5; omega) (by decide) (by decide) rfl
    rw [r35 h2, h1 _ n35, b34] at w
    rw [b34] at e5
    exact Or.inr ⟨⟨h3, by rw [e5]; exact h5⟩, by rw [b30]; decide, w⟩
  · intro x1 x2 x3 x4 h1 h2 h3 h4 h5 h6 h7 h8 h9 h10 h11 h12 h13
    obtain ⟨b30, b9, b10, b11, b23, b24, b25, b26, b27, b32, b34, br, bm⟩ := cm30 hM h2
    have e5 := h4
    rw [b34] at e5
    exact Or.inl ⟨Or.inr (by rw [e5]; exact h5), h11⟩
end Q9
