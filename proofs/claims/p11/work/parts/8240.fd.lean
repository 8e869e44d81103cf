/-! feed and end: the tape's bytes, on both sides -/
def wB (a : Int32) (s : Nat) : Nat → (Nat → Int32) → Nat → Int32
  | 0, f => f
  | j + 1, f => upd (wB a s j f) (s + j) (vp_nar .byte ((a >>> (Int32.ofInt (24 - 8 * (j : Int)) &&& 31)).toInt8.toInt32))
def fB (a1 a2 a3 a4 a5 : Int32) (s : Nat) (f : Nat → Int32) : Nat → Int32 := wB a5 (s + 4 + 4 + 4 + 4) 4 (wB a4 (s + 4 + 4 + 4) 4 (wB a3 (s + 4 + 4) 4 (wB a2 (s + 4) 4 (wB a1 s 4 f))))
theorem sh_e {j : Nat} (h : j < 4) : (Int32.ofInt (24 - 8 * (j : Int))).toInt = 24 - 8 * (j : Int) := by
  have q : j = 0 ∨ j = 1 ∨ j = 2 ∨ j = 3 := by omega
  rcases q with rfl | rfl | rfl | rfl <;> decide
/-- the same bytes below n -/
def tpE (f g : Nat → Int32) (n : Nat) : Prop := ∀ i, i < n → f i &&& 255 = g i &&& 255
theorem tpE_u {f g : Nat → Int32} {n : Nat} {v : Int32} (h : tpE f g n) : tpE (upd f n v) (upd g n v) (n + 1) := fun i hi => by
  by_cases e : i = n
  · subst e
    rw [updE, updE]
  · rw [updN e, updN e]
    exact h i (by omega)
theorem tpE_w {f g : Nat → Int32} {a : Int32} {n : Nat} (h : tpE f g n) : ∀ j : Nat, tpE (wB a n j f) (wB a n j g) (n + j) := by
  intro j
  induction j with
  | zero => exact h
  | succ j ih => exact tpE_u ih
theorem tpE_f {f g : Nat → Int32} {a1 a2 a3 a4 a5 : Int32} {n : Nat} (h : tpE f g n) : tpE (fB a1 a2 a3 a4 a5 n f) (fB a1 a2 a3 a4 a5 n g) (n + 20) := tpE_w (tpE_w (tpE_w (tpE_w (tpE_w h 4) 4) 4) 4) 4
theorem tpE_l {f g : Nat → Int32} {n m : Nat} (h : tpE f g n) (hm : m ≤ n) : tpE f g m := fun i hi => h i (by omega)
theorem tpE_0 {f g : Nat → Int32} : tpE f g 0 := fun i hi => absurd hi (Nat.not_lt_zero i)
theorem tpE_A {f g : Nat → Int32} {n : Nat} (h : tpE f g n) : bA f (n : Int) = bA g (n : Int) := funext fun i => by
  unfold bA
  by_cases c : 0 ≤ i ∧ i < (n : Int)
  · rw [if_pos c, if_pos c, h i.toNat (by omega)]
  · rw [if_neg c, if_neg c]
theorem ai_tl {a1 s1 s2 e1 : Int32} {s3 e2 f : Nat → Int32} {k m : Nat} (hm : m + 4 ≤ 8192) (h : tl_Tape_addInt_3 a1 s1 s2 s3 k e1 e2) : ∀ j : Nat, j ≤ 4 → s1.toInt = 24 - 8 * (j : Int) → s2.toInt = ((m + j : Nat) : Int) → s3 = wB a1 m j f → e1.toInt = ((m + 4 : Nat) : Int) ∧ e2 = wB a1 m 4 f := by
  refine h (fun s1 s2 s3 _ e1 e2 => ∀ j : Nat, j ≤ 4 → s1.toInt = 24 - 8 * (j : Int) → s2.toInt = ((m + j : Nat) : Int) → s3 = wB a1 m j f → e1.toInt = ((m + 4 : Nat) : Int) ∧ e2 = wB a1 m 4 f) ?_ ?_ ?_
  · intro l2_1 Tape_size_1 Tape_bytes_1 h1 h2 h3
    intro j hj ea eb ec
    have ej : j = 4 := by omega
    subst ej
    exact ⟨eb, ec⟩
  · intro l2_1 Tape_size_1 Tape_bytes_1 h1 h2 h3 h4
    intro j hj ea eb ec
    omega
  · intro l2_1 Tape_size_1 Tape_bytes_1 x1 x2 x3 x4 x5 k e1 e2 h1 h2 h3 h4 h5 h6 h7 h8 h9 ih
    intro j hj ea eb ec
    refine ih (j + 1) (by omega) (by omega) (by omega) ?_
    rw [h7, ec, nnE eb, h6, h5, Int32.toInt_inj.mp (ea.trans (sh_e (show j < 4 by omega)).symm)]
    rfl
theorem ai_tr {a1 sz o1 : Int32} {B o2 : Nat → Int32} {m : Nat} (hs : sz.toInt = (m : Int)) (hm : m + 4 ≤ 8192) (h : tr_Tape_addInt a1 sz B o1 o2) : o1.toInt = ((m + 4 : Nat) : Int) ∧ o2 = wB a1 m 4 B := by
  refine h (fun o1 o2 => o1.toInt = ((m + 4 : Nat) : Int) ∧ o2 = wB a1 m 4 B) ?_
  · intro x1 x2 h1
    exact ai_tl hm h1 0 (by decide) (by decide) hs rfl
theorem hr_tr {a1 sz o1 : Int32} (h : tr_Tape_hasRoom a1 sz o1) : (o1.toInt ≠ 0 → sz.toInt + a1.toInt ≤ 8192) ∧ (o1.toInt = 0 → 8192 < sz.toInt + a1.toInt) := by
  refine h (fun o1 => (o1.toInt ≠ 0 → sz.toInt + a1.toInt ≤ 8192) ∧ (o1.toInt = 0 → 8192 < sz.toInt + a1.toInt)) ?_ ?_
  · intro x1 h1 h2
    exact ⟨fun z => absurd rfl z, fun _ => by omega⟩
  · intro x1 h1 h2
    exact ⟨fun _ => by omega, fun z => absurd z (by decide)⟩
theorem fd_c {a1 a2 a3 a4 a5 sz o1 o2 : Int32} {B o3 : Nat → Int32} {m : Nat} (hs : sz.toInt = (m : Int)) (h : tr_SpillForge_feed a1 a2 a3 a4 a5 sz B o1 o2 o3) : o3 = fB a1 a2 a3 a4 a5 m B := by
  refine h (fun _ _ o3 => o3 = fB a1 a2 a3 a4 a5 m B) ?_
  · intro x1 x2 x3 x4 x5 x6 x7 x8 x9 x10 x11 h1 h2 h3 h4 h5 h6 h7 h8 h9 h10 h11 h12 h13
    have r1 := (hr_tr h2).1 h3
    rw [show Int32.toInt 20 = 20 from by decide] at r1
    obtain ⟨a, a'⟩ := ai_tr hs (by omega) h5
    obtain ⟨b, b'⟩ := ai_tr a (by omega) h7
    obtain ⟨c, c'⟩ := ai_tr b (by omega) h9
    obtain ⟨d, d'⟩ := ai_tr c (by omega) h11
    obtain ⟨e, e'⟩ := ai_tr d (by omega) h13
    rw [e', d', c', b', a']
    rfl
section FDR
variable {D : va_G} {I : FieldType → ClassId} {γ el : Nat → Nat → Nat} {P : List Nat} {F : Nat → va_E} {q0 m : Nat} {f : Nat → Int32}
theorem wf_tl {a1 a2 s2 : Int32} {s1 e1 : Nat → va_E} {k : Nat} (ha : a2.toInt = (m : Int)) (hm : m + 4 ≤ 8192) (h : tl_RModel_word_2 D I γ el P F q0 a2 a1 s1 s2 k e1) : ∀ j : Nat, j ≤ 4 → s2.toInt = (j : Int) → s1 (γ 9 31) = .inl (I .byte, 8192, .inl (wB a1 m j f)) → (∀ b, b ≠ γ 9 31 → s1 b = F b) → e1 (γ 9 31) = .inl (I .byte, 8192, .inl (wB a1 m 4 f)) ∧ ∀ b, b ≠ γ 9 31 → e1 b = F b := by
  refine h (fun s1 s2 _ e1 => ∀ j : Nat, j ≤ 4 → s2.toInt = (j : Int) → s1 (γ 9 31) = .inl (I .byte, 8192, .inl (wB a1 m j f)) → (∀ b, b ≠ γ 9 31 → s1 b = F b) → e1 (γ 9 31) = .inl (I .byte, 8192, .inl (wB a1 m 4 f)) ∧ ∀ b, b ≠ γ 9 31 → e1 b = F b) ?_ ?_
  · intro F_1 l3_1 h1 h2 h3 h4 h5 h6 h7 h8
    intro j hj e1 e2 e3
    have ej : j = 4 := by omega
    subst ej
    exact ⟨e2, e3⟩
  · intro F_1 l3_1 x1 x2 x3 x4 x5 x6 x7 x8 x9 k e1 h1 h2 h3 h4 h5 h6 h7 h8 h9 h10 h11 h12 h13 h14 h15 h16 h17 h18 h19 ih
    intro j hj e1 e2 e3
    have e6 := Sum.inl.inj (Prod.mk.inj (Prod.mk.inj (Sum.inl.inj (h15.symm.trans e2))).2).2
    have es : x3.toInt = 24 - 8 * (j : Int) := by omega
    refine ih (j + 1) (by omega) (by omega) ?_ (fun b hb => (h17 b hb).trans (e3 b hb))
    rw [h18, h16, e6, nnE (show _ = ((m + j : Nat) : Int) from by rw [h10]; omega), h14, h13, Int32.toInt_inj.mp (es.trans (sh_e (show j < 4 by omega)).symm)]
    rfl
theorem wf_tr {a1 a2 : Int32} {o1 : Nat → va_E} (ha : a2.toInt = (m : Int)) (hm : m + 4 ≤ 8192) (hF : F (γ 9 31) = .inl (I .byte, 8192, .inl f)) (h : tr_RModel_word D I γ el P F q0 a1 a2 o1) : o1 (γ 9 31) = .inl (I .byte, 8192, .inl (wB a1 m 4 f)) ∧ ∀ b, b ≠ γ 9 31 → o1 b = F b := by
  refine h (fun o1 => o1 (γ 9 31) = .inl (I .byte, 8192, .inl (wB a1 m 4 f)) ∧ ∀ b, b ≠ γ 9 31 → o1 b = F b) ?_
  · intro x1 h1
    exact wf_tl ha hm h1 0 (by decide) (by decide) hF (fun _ _ => rfl)
theorem nf_tr {a1 : Int32} {o1 : Nat → va_E} (h : tr_RModel_no D I γ el F q0 a1 o1) : (∀ b, b ≠ q0 → o1 b = F b) ∧ o1 q0 = cF (F q0) 30 (.int a1) := by
  refine h (fun o1 => (∀ b, b ≠ q0 → o1 b = F b) ∧ o1 q0 = cF (F q0) 30 (.int a1)) ?_
  · intro x1 h1 h2
    exact ⟨h1, h2⟩
theorem fd_r {a1 a2 a3 a4 a5 o1 : Int32} {o2 : Nat → va_E} (hT : RS D I P F γ el) (hm : γ 0 q0 = 10) (hq : γ 9 31 ≠ q0) (hF : F (γ 9 31) = .inl (I .byte, 8192, .inl f)) (hs : (fI (F q0) 32).toInt = (m : Int)) (h : tr_RModel_feed D I γ el P F q0 a1 a2 a3 a4 a5 o1 o2) : (m + 20 ≤ 8192 ∧ o2 (γ 9 31) = .inl (I .byte, 8192, .inl (fB a1 a2 a3 a4 a5 m f))) ∨ (8192 < m + 20 ∧ o2 (γ 9 31) = F (γ 9 31)) := by
  refine h (fun _ o2 => (m + 20 ≤ 8192 ∧ o2 (γ 9 31) = .inl (I .byte, 8192, .inl (fB a1 a2 a3 a4 a5 m f))) ∨ (8192 < m + 20 ∧ o2 (γ 9 31) = F (γ 9 31))) ?_ ?_
  · intro x1 x2 x3 x4 x5 x6 x7 x8 x9 x10 x11 x12 x13 x14 x15 x16 x17 x18 x19 h1 h2 h3 h4 h5 h6 h7 h8 h9 h10 h11 h12 h13 h14 h15 h16 h17 h18 h19 h20 h21 h22 h23 h24 h25 h26 h27 h28 h29 h30 h31 h32 h33 h34 h35 h36 h37 h38 h39 h40 h41 h42 h43 h44 h45 h46 h47 h48 h49 h50 h51 h52 h53
    have e30 := cF30 (x := 0) (RS_o hT hm)
    have s0 : (fI (x1 q0) 32).toInt = (m : Int) := by rw [h2, e30.2 32 (by decide)]; exact hs
    rw [h3] at s0
    have t0 : x1 (γ 9 31) = .inl (I .byte, 8192, .inl f) := (h1 _ hq).trans hF
    have s20 : m + 20 ≤ 8192 := by have := h4; have := h5; omega
    refine Or.inl ⟨s20, ?_⟩
    have n0 : (fI (x1 q0) 32).toInt = (m : Int) := by rw [h3]; exact s0
    obtain ⟨t1, -⟩ := wf_tr (m := m) s0 (by omega) t0 h12
    have n1 := h10.trans n0
    rw [h13] at n1
    have s1 := h14
    rw [n1] at s1
    have s1 := s1.trans (show _ = ((m + 4 : Nat) : Int) by omega)
    rw [← h13] at n1
    obtain ⟨t2, -⟩ := wf_tr (m := m + 4) s1 (by omega) t1 h21
    have n2 := h19.trans n1
    rw [h22] at n2
    have s2 := h23
    rw [n2] at s2
    have s2 := s2.trans (show _ = ((m + 4 + 4 : Nat) : Int) by omega)
    rw [← h22] at n2
    obtain ⟨t3, -⟩ := wf_tr (m := m + 4 + 4) s2 (by omega) t2 h30
    have n3 := h28.trans n2
    rw [h31] at n3
    have s3 := h32
    rw [n3] at s3
    have s3 := s3.trans (show _ = ((m + 4 + 4 + 4 : Nat) : Int) by omega)
    rw [← h31] at n3
    obtain ⟨t4, -⟩ := wf_tr (m := m + 4 + 4 + 4) s3 (by omega) t3 h39
    have n4 := h37.trans n3
    rw [h40] at n4
    have s4 := h41
    rw [n4] at s4
    have s4 := s4.trans (show _ = ((m + 4 + 4 + 4 + 4 : Nat) : Int) by omega)
    rw [← h40] at n4
    obtain ⟨t5, -⟩ := wf_tr (m := m + 4 + 4 + 4 + 4) s4 (by omega) t4 h48
    have n5 := h46.trans n4
    rw [h49] at n5
    exact (h51 _ hq).trans t5
  · intro x1 x2 x3 x4 h1 h2 h3 h4 h5 h6 h7 h8 h9 h10 h11 h12
    have e30 := cF30 (x := 0) (RS_o hT hm)
    have s0 : (fI (x1 q0) 32).toInt = (m : Int) := by rw [h2, e30.2 32 (by decide)]; exact hs
    rw [h3] at s0
    exact Or.inr ⟨by omega, ((nf_tr h12).1 _ hq).trans (h1 _ hq)⟩
theorem en_r {a1 o1 : Int32} {o2 : Nat → va_E} (hq : γ 9 31 ≠ q0) (h : tr_RModel_end D I γ el P F q0 a1 o1 o2) : o2 (γ 9 31) = F (γ 9 31) := by
  refine h (fun _ o2 => o2 (γ 9 31) = F (γ 9 31)) ?_ ?_ ?_
  · intro x1 x2 h1 h2 h3 h4 h5 h6 h7 h8 h9 h10
    exact ((nf_tr h10).1 _ hq).trans (h1 _ hq)
  · intro x1 x2 x3 h1 h2 h3 h4 h5 h6 h7
    exact (h6 _ hq).trans (h1 _ hq)
  · intro x1 x2 x3 h1 h2 h3 h4 h5 h6 h7 h8 h9 h10 h11 h12
    exact ((nf_tr h12).1 _ hq).trans (h1 _ hq)
end FDR
